section
-- ===== PART A: goes FIRST, ahead of the names: the tables' words, and 'selects' of the private methods out of them =====
/-- a private method of a class that the tables say can be made, by its rows of tables_1 -/
def lw_okq (q : MethodName × Nat) : Prop := (q.1.cls ≠ "java/lang/invoke/MethodHandle" ∧ q.1.cls ≠ "java/lang/invoke/VarHandle") ∧ Cond.instantiable q.1.cls q.2 ∈ tables_1 ∧ Cond.privateMethod q.1 ∈ tables_1 ∧ Cond.instanceMethod q.1 ∈ tables_1
theorem lw_p0 : lw_okq (⟨"RubbleCity", "refusalOfHands", "(ILRubbleCity$Sheet;)I"⟩, 14) := ⟨⟨by decide +kernel, by decide +kernel⟩, List.mem_of_getElem? (i := 22) (by decide +kernel), List.mem_of_getElem? (i := 543) (by decide +kernel), List.mem_of_getElem? (i := 544) (by decide +kernel)⟩
theorem lw_p1 : lw_okq (⟨"RubbleCity", "areWallsToPull", "(LRubbleCity$Sheet;)Z"⟩, 14) := ⟨⟨by decide +kernel, by decide +kernel⟩, List.mem_of_getElem? (i := 22) (by decide +kernel), List.mem_of_getElem? (i := 799) (by decide +kernel), List.mem_of_getElem? (i := 800) (by decide +kernel)⟩
theorem lw_p2 : lw_okq (⟨"RubbleCity$Rooms", "choose", "(LRubbleCity$State;IIII)V"⟩, 9) := ⟨⟨by decide +kernel, by decide +kernel⟩, List.mem_of_getElem? (i := 294) (by decide +kernel), List.mem_of_getElem? (i := 839) (by decide +kernel), List.mem_of_getElem? (i := 840) (by decide +kernel)⟩
theorem lw_p3 : lw_okq (⟨"RubbleCity", "personFrom", "(LRubbleCity$Sheet;I)I"⟩, 14) := ⟨⟨by decide +kernel, by decide +kernel⟩, List.mem_of_getElem? (i := 22) (by decide +kernel), List.mem_of_getElem? (i := 985) (by decide +kernel), List.mem_of_getElem? (i := 986) (by decide +kernel)⟩
theorem lw_p4 : lw_okq (⟨"RubbleCityModel", "isPerson", "(I)Z"⟩, 66) := ⟨⟨by decide +kernel, by decide +kernel⟩, List.mem_of_getElem? (i := 999) (by decide +kernel), List.mem_of_getElem? (i := 1235) (by decide +kernel), List.mem_of_getElem? (i := 1236) (by decide +kernel)⟩
theorem lw_p5 : lw_okq (⟨"RubbleCityModel", "barred", "(II)I"⟩, 66) := ⟨⟨by decide +kernel, by decide +kernel⟩, List.mem_of_getElem? (i := 999) (by decide +kernel), List.mem_of_getElem? (i := 1261) (by decide +kernel), List.mem_of_getElem? (i := 1262) (by decide +kernel)⟩
theorem lw_p6 : lw_okq (⟨"RubbleCityModel", "isInOther", "(II)Z"⟩, 66) := ⟨⟨by decide +kernel, by decide +kernel⟩, List.mem_of_getElem? (i := 999) (by decide +kernel), List.mem_of_getElem? (i := 1265) (by decide +kernel), List.mem_of_getElem? (i := 1266) (by decide +kernel)⟩
theorem lw_p7 : lw_okq (⟨"RubbleCityModel", "line", "(I)Z"⟩, 66) := ⟨⟨by decide +kernel, by decide +kernel⟩, List.mem_of_getElem? (i := 999) (by decide +kernel), List.mem_of_getElem? (i := 1286) (by decide +kernel), List.mem_of_getElem? (i := 1287) (by decide +kernel)⟩
theorem lw_p8 : lw_okq (⟨"RubbleCityModel", "wordOf", "(II)I"⟩, 66) := ⟨⟨by decide +kernel, by decide +kernel⟩, List.mem_of_getElem? (i := 999) (by decide +kernel), List.mem_of_getElem? (i := 1290) (by decide +kernel), List.mem_of_getElem? (i := 1291) (by decide +kernel)⟩
theorem lw_p9 : lw_okq (⟨"RubbleCityModel", "byteHere", "()I"⟩, 66) := ⟨⟨by decide +kernel, by decide +kernel⟩, List.mem_of_getElem? (i := 999) (by decide +kernel), List.mem_of_getElem? (i := 1294) (by decide +kernel), List.mem_of_getElem? (i := 1295) (by decide +kernel)⟩
theorem lw_p10 : lw_okq (⟨"RubbleCityModel", "number", "()I"⟩, 66) := ⟨⟨by decide +kernel, by decide +kernel⟩, List.mem_of_getElem? (i := 999) (by decide +kernel), List.mem_of_getElem? (i := 1298) (by decide +kernel), List.mem_of_getElem? (i := 1299) (by decide +kernel)⟩
theorem lw_p11 : lw_okq (⟨"RubbleCityModel", "test", "(I)Z"⟩, 66) := ⟨⟨by decide +kernel, by decide +kernel⟩, List.mem_of_getElem? (i := 999) (by decide +kernel), List.mem_of_getElem? (i := 1302) (by decide +kernel), List.mem_of_getElem? (i := 1303) (by decide +kernel)⟩
theorem lw_p12 : lw_okq (⟨"RubbleCityModel", "saysOf", "(II)I"⟩, 66) := ⟨⟨by decide +kernel, by decide +kernel⟩, List.mem_of_getElem? (i := 999) (by decide +kernel), List.mem_of_getElem? (i := 1314) (by decide +kernel), List.mem_of_getElem? (i := 1315) (by decide +kernel)⟩
theorem lw_p13 : lw_okq (⟨"RubbleCityModel", "holds", "(II)Z"⟩, 66) := ⟨⟨by decide +kernel, by decide +kernel⟩, List.mem_of_getElem? (i := 999) (by decide +kernel), List.mem_of_getElem? (i := 1318) (by decide +kernel), List.mem_of_getElem? (i := 1319) (by decide +kernel)⟩
theorem lw_p14 : lw_okq (⟨"RubbleCityModel", "fieldOf", "(II)I"⟩, 66) := ⟨⟨by decide +kernel, by decide +kernel⟩, List.mem_of_getElem? (i := 999) (by decide +kernel), List.mem_of_getElem? (i := 1322) (by decide +kernel), List.mem_of_getElem? (i := 1323) (by decide +kernel)⟩
theorem lw_p15 : lw_okq (⟨"RubbleCityModel", "goes", "()V"⟩, 66) := ⟨⟨by decide +kernel, by decide +kernel⟩, List.mem_of_getElem? (i := 999) (by decide +kernel), List.mem_of_getElem? (i := 1330) (by decide +kernel), List.mem_of_getElem? (i := 1331) (by decide +kernel)⟩
def lw_privs_1 : List (MethodName × Nat) := [(⟨"RubbleCity", "refusalOfHands", "(ILRubbleCity$Sheet;)I"⟩, 14), (⟨"RubbleCity", "areWallsToPull", "(LRubbleCity$Sheet;)Z"⟩, 14), (⟨"RubbleCity$Rooms", "choose", "(LRubbleCity$State;IIII)V"⟩, 9), (⟨"RubbleCity", "personFrom", "(LRubbleCity$Sheet;I)I"⟩, 14), (⟨"RubbleCityModel", "isPerson", "(I)Z"⟩, 66), (⟨"RubbleCityModel", "barred", "(II)I"⟩, 66), (⟨"RubbleCityModel", "isInOther", "(II)Z"⟩, 66), (⟨"RubbleCityModel", "line", "(I)Z"⟩, 66), (⟨"RubbleCityModel", "wordOf", "(II)I"⟩, 66), (⟨"RubbleCityModel", "byteHere", "()I"⟩, 66), (⟨"RubbleCityModel", "number", "()I"⟩, 66), (⟨"RubbleCityModel", "test", "(I)Z"⟩, 66), (⟨"RubbleCityModel", "saysOf", "(II)I"⟩, 66), (⟨"RubbleCityModel", "holds", "(II)Z"⟩, 66), (⟨"RubbleCityModel", "fieldOf", "(II)I"⟩, 66), (⟨"RubbleCityModel", "goes", "()V"⟩, 66)]
theorem lw_r1 : ∀ q ∈ lw_privs_1, lw_okq q := List.forall_mem_cons.mpr ⟨lw_p0, List.forall_mem_cons.mpr ⟨lw_p1, List.forall_mem_cons.mpr ⟨lw_p2, List.forall_mem_cons.mpr ⟨lw_p3, List.forall_mem_cons.mpr ⟨lw_p4, List.forall_mem_cons.mpr ⟨lw_p5, List.forall_mem_cons.mpr ⟨lw_p6, List.forall_mem_cons.mpr ⟨lw_p7, List.forall_mem_cons.mpr ⟨lw_p8, List.forall_mem_cons.mpr ⟨lw_p9, List.forall_mem_cons.mpr ⟨lw_p10, List.forall_mem_cons.mpr ⟨lw_p11, List.forall_mem_cons.mpr ⟨lw_p12, List.forall_mem_cons.mpr ⟨lw_p13, List.forall_mem_cons.mpr ⟨lw_p14, List.forall_mem_cons.mpr ⟨lw_p15, fun _ h => absurd h List.not_mem_nil⟩⟩⟩⟩⟩⟩⟩⟩⟩⟩⟩⟩⟩⟩⟩⟩
theorem lw_p16 : lw_okq (⟨"RubbleCityModel", "goesRow", "(I)V"⟩, 66) := ⟨⟨by decide +kernel, by decide +kernel⟩, List.mem_of_getElem? (i := 999) (by decide +kernel), List.mem_of_getElem? (i := 1334) (by decide +kernel), List.mem_of_getElem? (i := 1335) (by decide +kernel)⟩
theorem lw_p17 : lw_okq (⟨"RubbleCityModel", "passes", "(I)I"⟩, 66) := ⟨⟨by decide +kernel, by decide +kernel⟩, List.mem_of_getElem? (i := 999) (by decide +kernel), List.mem_of_getElem? (i := 1338) (by decide +kernel), List.mem_of_getElem? (i := 1339) (by decide +kernel)⟩
theorem lw_p18 : lw_okq (⟨"RubbleCityModel", "worksOf", "(I)I"⟩, 66) := ⟨⟨by decide +kernel, by decide +kernel⟩, List.mem_of_getElem? (i := 999) (by decide +kernel), List.mem_of_getElem? (i := 1342) (by decide +kernel), List.mem_of_getElem? (i := 1343) (by decide +kernel)⟩
theorem lw_p19 : lw_okq (⟨"RubbleCityModel", "comes", "(II)V"⟩, 66) := ⟨⟨by decide +kernel, by decide +kernel⟩, List.mem_of_getElem? (i := 999) (by decide +kernel), List.mem_of_getElem? (i := 1346) (by decide +kernel), List.mem_of_getElem? (i := 1347) (by decide +kernel)⟩
theorem lw_p20 : lw_okq (⟨"RubbleCityModel", "goesRail", "(I)V"⟩, 66) := ⟨⟨by decide +kernel, by decide +kernel⟩, List.mem_of_getElem? (i := 999) (by decide +kernel), List.mem_of_getElem? (i := 1350) (by decide +kernel), List.mem_of_getElem? (i := 1351) (by decide +kernel)⟩
theorem lw_p21 : lw_okq (⟨"RubbleCityModel", "wears", "(I)Z"⟩, 66) := ⟨⟨by decide +kernel, by decide +kernel⟩, List.mem_of_getElem? (i := 999) (by decide +kernel), List.mem_of_getElem? (i := 1354) (by decide +kernel), List.mem_of_getElem? (i := 1355) (by decide +kernel)⟩
theorem lw_p22 : lw_okq (⟨"RubbleCityModel", "weakOf", "(I)I"⟩, 66) := ⟨⟨by decide +kernel, by decide +kernel⟩, List.mem_of_getElem? (i := 999) (by decide +kernel), List.mem_of_getElem? (i := 1358) (by decide +kernel), List.mem_of_getElem? (i := 1359) (by decide +kernel)⟩
theorem lw_p23 : lw_okq (⟨"RubbleCityModel", "falls", "(I)V"⟩, 66) := ⟨⟨by decide +kernel, by decide +kernel⟩, List.mem_of_getElem? (i := 999) (by decide +kernel), List.mem_of_getElem? (i := 1362) (by decide +kernel), List.mem_of_getElem? (i := 1363) (by decide +kernel)⟩
theorem lw_p24 : lw_okq (⟨"RubbleCityModel", "isAt", "(I)I"⟩, 66) := ⟨⟨by decide +kernel, by decide +kernel⟩, List.mem_of_getElem? (i := 999) (by decide +kernel), List.mem_of_getElem? (i := 1366) (by decide +kernel), List.mem_of_getElem? (i := 1367) (by decide +kernel)⟩
theorem lw_p25 : lw_okq (⟨"RubbleCityModel", "isWall", "(I)Z"⟩, 66) := ⟨⟨by decide +kernel, by decide +kernel⟩, List.mem_of_getElem? (i := 999) (by decide +kernel), List.mem_of_getElem? (i := 1394) (by decide +kernel), List.mem_of_getElem? (i := 1395) (by decide +kernel)⟩
theorem lw_p26 : lw_okq (⟨"RubbleCityModel", "sum", "(II)I"⟩, 66) := ⟨⟨by decide +kernel, by decide +kernel⟩, List.mem_of_getElem? (i := 999) (by decide +kernel), List.mem_of_getElem? (i := 1402) (by decide +kernel), List.mem_of_getElem? (i := 1403) (by decide +kernel)⟩
theorem lw_p27 : lw_okq (⟨"RubbleCityModel", "late", "(II)I"⟩, 66) := ⟨⟨by decide +kernel, by decide +kernel⟩, List.mem_of_getElem? (i := 999) (by decide +kernel), List.mem_of_getElem? (i := 1414) (by decide +kernel), List.mem_of_getElem? (i := 1415) (by decide +kernel)⟩
theorem lw_p28 : lw_okq (⟨"RubbleCityModel", "nextOrder", "(I)Z"⟩, 66) := ⟨⟨by decide +kernel, by decide +kernel⟩, List.mem_of_getElem? (i := 999) (by decide +kernel), List.mem_of_getElem? (i := 1418) (by decide +kernel), List.mem_of_getElem? (i := 1419) (by decide +kernel)⟩
theorem lw_p29 : lw_okq (⟨"RubbleCityModel", "isRoom", "(I)Z"⟩, 66) := ⟨⟨by decide +kernel, by decide +kernel⟩, List.mem_of_getElem? (i := 999) (by decide +kernel), List.mem_of_getElem? (i := 1438) (by decide +kernel), List.mem_of_getElem? (i := 1439) (by decide +kernel)⟩
theorem lw_p30 : lw_okq (⟨"RubbleCityModel", "leftOver", "(I)I"⟩, 66) := ⟨⟨by decide +kernel, by decide +kernel⟩, List.mem_of_getElem? (i := 999) (by decide +kernel), List.mem_of_getElem? (i := 1454) (by decide +kernel), List.mem_of_getElem? (i := 1455) (by decide +kernel)⟩
theorem lw_p31 : lw_okq (⟨"RubbleCityModel", "isOver", "(II)Z"⟩, 66) := ⟨⟨by decide +kernel, by decide +kernel⟩, List.mem_of_getElem? (i := 999) (by decide +kernel), List.mem_of_getElem? (i := 1458) (by decide +kernel), List.mem_of_getElem? (i := 1459) (by decide +kernel)⟩
def lw_privs_2 : List (MethodName × Nat) := [(⟨"RubbleCityModel", "goesRow", "(I)V"⟩, 66), (⟨"RubbleCityModel", "passes", "(I)I"⟩, 66), (⟨"RubbleCityModel", "worksOf", "(I)I"⟩, 66), (⟨"RubbleCityModel", "comes", "(II)V"⟩, 66), (⟨"RubbleCityModel", "goesRail", "(I)V"⟩, 66), (⟨"RubbleCityModel", "wears", "(I)Z"⟩, 66), (⟨"RubbleCityModel", "weakOf", "(I)I"⟩, 66), (⟨"RubbleCityModel", "falls", "(I)V"⟩, 66), (⟨"RubbleCityModel", "isAt", "(I)I"⟩, 66), (⟨"RubbleCityModel", "isWall", "(I)Z"⟩, 66), (⟨"RubbleCityModel", "sum", "(II)I"⟩, 66), (⟨"RubbleCityModel", "late", "(II)I"⟩, 66), (⟨"RubbleCityModel", "nextOrder", "(I)Z"⟩, 66), (⟨"RubbleCityModel", "isRoom", "(I)Z"⟩, 66), (⟨"RubbleCityModel", "leftOver", "(I)I"⟩, 66), (⟨"RubbleCityModel", "isOver", "(II)Z"⟩, 66)]
theorem lw_r2 : ∀ q ∈ lw_privs_2, lw_okq q := List.forall_mem_cons.mpr ⟨lw_p16, List.forall_mem_cons.mpr ⟨lw_p17, List.forall_mem_cons.mpr ⟨lw_p18, List.forall_mem_cons.mpr ⟨lw_p19, List.forall_mem_cons.mpr ⟨lw_p20, List.forall_mem_cons.mpr ⟨lw_p21, List.forall_mem_cons.mpr ⟨lw_p22, List.forall_mem_cons.mpr ⟨lw_p23, List.forall_mem_cons.mpr ⟨lw_p24, List.forall_mem_cons.mpr ⟨lw_p25, List.forall_mem_cons.mpr ⟨lw_p26, List.forall_mem_cons.mpr ⟨lw_p27, List.forall_mem_cons.mpr ⟨lw_p28, List.forall_mem_cons.mpr ⟨lw_p29, List.forall_mem_cons.mpr ⟨lw_p30, List.forall_mem_cons.mpr ⟨lw_p31, fun _ h => absurd h List.not_mem_nil⟩⟩⟩⟩⟩⟩⟩⟩⟩⟩⟩⟩⟩⟩⟩⟩
theorem lw_p32 : lw_okq (⟨"RubbleCityModel", "likelyIn", "(I)I"⟩, 66) := ⟨⟨by decide +kernel, by decide +kernel⟩, List.mem_of_getElem? (i := 999) (by decide +kernel), List.mem_of_getElem? (i := 1467) (by decide +kernel), List.mem_of_getElem? (i := 1468) (by decide +kernel)⟩
theorem lw_p33 : lw_okq (⟨"RubbleCityModel", "lays", "(Z)V"⟩, 66) := ⟨⟨by decide +kernel, by decide +kernel⟩, List.mem_of_getElem? (i := 999) (by decide +kernel), List.mem_of_getElem? (i := 1496) (by decide +kernel), List.mem_of_getElem? (i := 1497) (by decide +kernel)⟩
def lw_privs_3 : List (MethodName × Nat) := [(⟨"RubbleCityModel", "likelyIn", "(I)I"⟩, 66), (⟨"RubbleCityModel", "lays", "(Z)V"⟩, 66)]
theorem lw_r3 : ∀ q ∈ lw_privs_3, lw_okq q := List.forall_mem_cons.mpr ⟨lw_p32, List.forall_mem_cons.mpr ⟨lw_p33, fun _ h => absurd h List.not_mem_nil⟩⟩
def lw_privs : List (MethodName × Nat) := lw_privs_1 ++ (lw_privs_2 ++ (lw_privs_3))
def lw_tbl : List Cond := k2_sels lw_privs ++ tables_1
theorem lw_privs_ok : ∀ q ∈ lw_privs, lw_okq q := by
  show ∀ q ∈ lw_privs_1 ++ (lw_privs_2 ++ (lw_privs_3)), lw_okq q
  exact List.forall_mem_append.mpr ⟨lw_r1, List.forall_mem_append.mpr ⟨lw_r2, lw_r3⟩⟩

/-! ===== BEGIN printed: names, fields, word lists, decode rows ===== -/
def RX0 : String := "RubbleCity$City"
def TX0 : u_T := fun k => match k with
  | 0 => ("RubbleCity$City", "kinds", "[I", true)
  | 1 => ("RubbleCity$City", "tip", "I", false)
  | 2 => ("RubbleCity$City", "peopleCount", "I", false)
  | 3 => ("RubbleCity$City", "strong", "[I", true)
  | 4 => ("RubbleCity$City", "age", "[I", true)
  | 5 => ("RubbleCity$City", "kin", "[I", true)
  | 6 => ("RubbleCity$City", "rowOf", "[I", true)
  | 7 => ("RubbleCity$City", "rows", "[LRubbleCity$Row;", true)
  | 8 => ("RubbleCity$City", "rails", "[LRubbleCity$Rail;", true)
  | 9 => ("RubbleCity$City", "wallCount", "I", false)
  | 10 => ("RubbleCity$City", "wallCell", "[I", true)
  | 11 => ("RubbleCity$City", "wallFallsTo", "[I", true)
  | 12 => ("RubbleCity$City", "rule", "LRubbleCity$Order;", false)
  | _ => ("RubbleCity$City", "facts", "[I", true)
def tyX0 : Nat → FieldType := fun k => match k with
  | 0 => .array .int
  | 1 => .int
  | 2 => .int
  | 3 => .array .int
  | 4 => .array .int
  | 5 => .array .int
  | 6 => .array .int
  | 7 => .array (.object "RubbleCity$Row")
  | 8 => .array (.object "RubbleCity$Rail")
  | 9 => .int
  | 10 => .array .int
  | 11 => .array .int
  | 12 => .object "RubbleCity$Order"
  | _ => .array .int
abbrev wsX00 : List Cond := u_ws RX0 TX0 14
theorem nmX0 : ∀ a, a < 14 → ∀ b, b < 14 → a ≠ b → (TX0 a).2.1 ≠ (TX0 b).2.1 := by decide +kernel
theorem tyX0_ok : ∀ k, k < 14 → parseFieldDescriptor (TX0 k).2.2.1 = some (tyX0 k) := by decide +kernel
abbrev cX0_init : ByteArray := prog_2_method_1_code
def yX0_init : MethodName := ⟨RX0, "<init>", "()V"⟩
abbrev cX0_setHands : ByteArray := prog_2_method_2_code
def yX0_setHands : MethodName := ⟨RX0, "setHands", "(ILRubbleCity$Sheet;)V"⟩
abbrev cX0_weakOf : ByteArray := prog_2_method_3_code
def yX0_weakOf : MethodName := ⟨RX0, "weakOf", "(I)I"⟩
abbrev cX0_said : ByteArray := prog_2_method_4_code
def yX0_said : MethodName := ⟨RX0, "said", "(LRubbleCity$State;II)I"⟩
abbrev cX0_passes : ByteArray := prog_2_method_5_code
def yX0_passes : MethodName := ⟨RX0, "passes", "(LRubbleCity$State;I)I"⟩
abbrev cX0_cellByDay : ByteArray := prog_2_method_6_code
def yX0_cellByDay : MethodName := ⟨RX0, "cellByDay", "(LRubbleCity$State;I)I"⟩
abbrev cX0_livingKin : ByteArray := prog_2_method_7_code
def yX0_livingKin : MethodName := ⟨RX0, "livingKin", "(LRubbleCity$State;I)I"⟩
abbrev cX0_playDay : ByteArray := prog_2_method_8_code
def yX0_playDay : MethodName := ⟨RX0, "playDay", "(LRubbleCity$State;)V"⟩
abbrev cX0_workRow : ByteArray := prog_2_method_9_code
def yX0_workRow : MethodName := ⟨RX0, "workRow", "(LRubbleCity$State;I)V"⟩
abbrev cX0_passOn : ByteArray := prog_2_method_10_code
def yX0_passOn : MethodName := ⟨RX0, "passOn", "(LRubbleCity$State;LRubbleCity$Row;I)V"⟩
abbrev cX0_bring : ByteArray := prog_2_method_11_code
def yX0_bring : MethodName := ⟨RX0, "bring", "(LRubbleCity$State;II)V"⟩
abbrev cX0_driveRail : ByteArray := prog_2_method_12_code
def yX0_driveRail : MethodName := ⟨RX0, "driveRail", "(LRubbleCity$State;I)V"⟩
abbrev cX0_wearOf : ByteArray := prog_2_method_13_code
def yX0_wearOf : MethodName := ⟨RX0, "wearOf", "(LRubbleCity$State;I)I"⟩
abbrev cX0_wearsOut : ByteArray := prog_2_method_14_code
def yX0_wearsOut : MethodName := ⟨RX0, "wearsOut", "(LRubbleCity$State;I)Z"⟩
abbrev cX0_fall : ByteArray := prog_2_method_15_code
def yX0_fall : MethodName := ⟨RX0, "fall", "(LRubbleCity$State;I)I"⟩
abbrev cX0_heal : ByteArray := prog_2_method_16_code
def yX0_heal : MethodName := ⟨RX0, "heal", "(LRubbleCity$State;)V"⟩
abbrev cX0_daysUntilFall : ByteArray := prog_2_method_17_code
def yX0_daysUntilFall : MethodName := ⟨RX0, "daysUntilFall", "(LRubbleCity$State;I)I"⟩
def RX1 : String := "RubbleCity$Order"
def TX1 : u_T := fun k => match k with
  | 0 => ("RubbleCity$Order", "size", "I", false)
  | 1 => ("RubbleCity$Order", "keys", "[I", true)
  | 2 => ("RubbleCity$Order", "numbers", "[I", true)
  | 3 => ("RubbleCity$Order", "testCounts", "[I", true)
  | 4 => ("RubbleCity$Order", "fields", "[I", true)
  | 5 => ("RubbleCity$Order", "signs", "[I", true)
  | _ => ("RubbleCity$Order", "bounds", "[I", true)
def tyX1 : Nat → FieldType := fun k => match k with
  | 0 => .int
  | 1 => .array .int
  | 2 => .array .int
  | 3 => .array .int
  | 4 => .array .int
  | 5 => .array .int
  | _ => .array .int
abbrev wsX10 : List Cond := u_ws RX1 TX1 7
theorem nmX1 : ∀ a, a < 7 → ∀ b, b < 7 → a ≠ b → (TX1 a).2.1 ≠ (TX1 b).2.1 := by decide +kernel
theorem tyX1_ok : ∀ k, k < 7 → parseFieldDescriptor (TX1 k).2.2.1 = some (tyX1 k) := by decide +kernel
abbrev cX1_init : ByteArray := prog_3_method_1_code
def yX1_init : MethodName := ⟨RX1, "<init>", "()V"⟩
abbrev cX1_holds : ByteArray := prog_3_method_2_code
def yX1_holds : MethodName := ⟨RX1, "holds", "(I[I)Z"⟩
def RX2 : String := "RubbleCity$Papers"
def TX2 : u_T := fun k => match k with
  | 0 => ("RubbleCity$Papers", "count", "I", false)
  | 1 => ("RubbleCity$Papers", "lot", "[I", true)
  | 2 => ("RubbleCity$Papers", "owner", "[I", true)
  | 3 => ("RubbleCity$Papers", "from", "[I", true)
  | 4 => ("RubbleCity$Papers", "told", "[I", true)
  | _ => ("RubbleCity$Papers", "burnt", "[I", true)
def tyX2 : Nat → FieldType := fun k => match k with
  | 0 => .int
  | 1 => .array .int
  | 2 => .array .int
  | 3 => .array .int
  | 4 => .array .int
  | _ => .array .int
abbrev wsX20 : List Cond := u_ws RX2 TX2 6
theorem nmX2 : ∀ a, a < 6 → ∀ b, b < 6 → a ≠ b → (TX2 a).2.1 ≠ (TX2 b).2.1 := by decide +kernel
theorem tyX2_ok : ∀ k, k < 6 → parseFieldDescriptor (TX2 k).2.2.1 = some (tyX2 k) := by decide +kernel
abbrev cX2_init : ByteArray := prog_4_method_1_code
def yX2_init : MethodName := ⟨RX2, "<init>", "()V"⟩
abbrev cX2_ownerOf : ByteArray := prog_4_method_2_code
def yX2_ownerOf : MethodName := ⟨RX2, "ownerOf", "(III)I"⟩
abbrev cX2_isKnown : ByteArray := prog_4_method_3_code
def yX2_isKnown : MethodName := ⟨RX2, "isKnown", "(II)Z"⟩
def RX3 : String := "RubbleCity$Pulls"
def TX3 : u_T := fun k => match k with
  | 0 => ("RubbleCity$Pulls", "size", "I", false)
  | 1 => ("RubbleCity$Pulls", "found", "[I", true)
  | 2 => ("RubbleCity$Pulls", "places", "[I", true)
  | _ => ("RubbleCity$Pulls", "daysLeft", "[I", true)
def tyX3 : Nat → FieldType := fun k => match k with
  | 0 => .int
  | 1 => .array .int
  | 2 => .array .int
  | _ => .array .int
abbrev wsX30 : List Cond := u_ws RX3 TX3 4
theorem nmX3 : ∀ a, a < 4 → ∀ b, b < 4 → a ≠ b → (TX3 a).2.1 ≠ (TX3 b).2.1 := by decide +kernel
theorem tyX3_ok : ∀ k, k < 4 → parseFieldDescriptor (TX3 k).2.2.1 = some (tyX3 k) := by decide +kernel
abbrev cX3_init : ByteArray := prog_5_method_1_code
def yX3_init : MethodName := ⟨RX3, "<init>", "()V"⟩
abbrev cX3_find : ByteArray := prog_5_method_2_code
def yX3_find : MethodName := ⟨RX3, "find", "(LRubbleCity$Sheet;)I"⟩
abbrev cX3_countLate : ByteArray := prog_5_method_3_code
def yX3_countLate : MethodName := ⟨RX3, "countLate", "()I"⟩
abbrev cX3_keep : ByteArray := prog_5_method_4_code
def yX3_keep : MethodName := ⟨RX3, "keep", "(LRubbleCity$Sheet;)V"⟩
abbrev cX3_goOn : ByteArray := prog_5_method_5_code
def yX3_goOn : MethodName := ⟨RX3, "goOn", "()Z"⟩
abbrev cX3_swap : ByteArray := prog_5_method_6_code
def yX3_swap : MethodName := ⟨RX3, "swap", "(II)V"⟩
def RX4 : String := "RubbleCity$Raids"
def TX4 : u_T := fun k => match k with
  | 0 => ("RubbleCity$Raids", "count", "I", false)
  | 1 => ("RubbleCity$Raids", "cells", "[[I", true)
  | 2 => ("RubbleCity$Raids", "length", "[I", true)
  | 3 => ("RubbleCity$Raids", "shellsLeft", "[I", true)
  | 4 => ("RubbleCity$Raids", "unprobed", "[I", true)
  | _ => ("RubbleCity$Raids", "probed", "[Z", true)
def tyX4 : Nat → FieldType := fun k => match k with
  | 0 => .int
  | 1 => .array (.array .int)
  | 2 => .array .int
  | 3 => .array .int
  | 4 => .array .int
  | _ => .array .boolean
abbrev wsX40 : List Cond := u_ws RX4 TX4 6
theorem nmX4 : ∀ a, a < 6 → ∀ b, b < 6 → a ≠ b → (TX4 a).2.1 ≠ (TX4 b).2.1 := by decide +kernel
theorem tyX4_ok : ∀ k, k < 6 → parseFieldDescriptor (TX4 k).2.2.1 = some (tyX4 k) := by decide +kernel
abbrev cX4_init : ByteArray := prog_6_method_1_code
def yX4_init : MethodName := ⟨RX4, "<init>", "()V"⟩
abbrev cX4_begin : ByteArray := prog_6_method_2_code
def yX4_begin : MethodName := ⟨RX4, "begin", "(IIII)I"⟩
abbrev cX4_isOver : ByteArray := prog_6_method_3_code
def yX4_isOver : MethodName := ⟨RX4, "isOver", "(II)Z"⟩
abbrev cX4_leftOver : ByteArray := prog_6_method_4_code
def yX4_leftOver : MethodName := ⟨RX4, "leftOver", "(I)I"⟩
abbrev cX4_find : ByteArray := prog_6_method_5_code
def yX4_find : MethodName := ⟨RX4, "find", "(II)V"⟩
abbrev cX4_chance : ByteArray := prog_6_method_6_code
def yX4_chance : MethodName := ⟨RX4, "chance", "(I)I"⟩
abbrev cX4_likeliest : ByteArray := prog_6_method_7_code
def yX4_likeliest : MethodName := ⟨RX4, "likeliest", "()I"⟩
def RX5 : String := "RubbleCity$Rail"
def TX5 : u_T := fun k => match k with
  | 0 => ("RubbleCity$Rail", "size", "I", false)
  | 1 => ("RubbleCity$Rail", "cars", "I", false)
  | 2 => ("RubbleCity$Rail", "first", "I", false)
  | _ => ("RubbleCity$Rail", "last", "I", false)
def tyX5 : Nat → FieldType := fun k => match k with
  | 0 => .int
  | 1 => .int
  | 2 => .int
  | _ => .int
abbrev wsX50 : List Cond := u_ws RX5 TX5 4
theorem nmX5 : ∀ a, a < 4 → ∀ b, b < 4 → a ≠ b → (TX5 a).2.1 ≠ (TX5 b).2.1 := by decide +kernel
theorem tyX5_ok : ∀ k, k < 4 → parseFieldDescriptor (TX5 k).2.2.1 = some (tyX5 k) := by decide +kernel
abbrev cX5_init : ByteArray := prog_7_method_1_code
def yX5_init : MethodName := ⟨RX5, "<init>", "()V"⟩
def RX6 : String := "RubbleCity$Rooms"
def TX6 : u_T := fun k => match k with
  | 0 => ("RubbleCity$Rooms", "count", "I", false)
  | 1 => ("RubbleCity$Rooms", "cell", "[I", true)
  | 2 => ("RubbleCity$Rooms", "bricks", "[I", true)
  | 3 => ("RubbleCity$Rooms", "beams", "[I", true)
  | 4 => ("RubbleCity$Rooms", "worth", "[I", true)
  | 5 => ("RubbleCity$Rooms", "bestSet", "I", false)
  | 6 => ("RubbleCity$Rooms", "bestWorth", "I", false)
  | 7 => ("RubbleCity$Rooms", "bricksLeft", "I", false)
  | _ => ("RubbleCity$Rooms", "beamsLeft", "I", false)
def tyX6 : Nat → FieldType := fun k => match k with
  | 0 => .int
  | 1 => .array .int
  | 2 => .array .int
  | 3 => .array .int
  | 4 => .array .int
  | 5 => .int
  | 6 => .int
  | 7 => .int
  | _ => .int
abbrev wsX60 : List Cond := u_ws RX6 TX6 9
theorem nmX6 : ∀ a, a < 9 → ∀ b, b < 9 → a ≠ b → (TX6 a).2.1 ≠ (TX6 b).2.1 := by decide +kernel
theorem tyX6_ok : ∀ k, k < 9 → parseFieldDescriptor (TX6 k).2.2.1 = some (tyX6 k) := by decide +kernel
abbrev cX6_init : ByteArray := prog_8_method_1_code
def yX6_init : MethodName := ⟨RX6, "<init>", "()V"⟩
abbrev cX6_findBest : ByteArray := prog_8_method_2_code
def yX6_findBest : MethodName := ⟨RX6, "findBest", "(LRubbleCity$State;I)I"⟩
abbrev cX6_choose : ByteArray := prog_8_method_3_code
def yX6_choose : MethodName := ⟨RX6, "choose", "(LRubbleCity$State;IIII)V"⟩
def RX7 : String := "RubbleCity$Row"
def TX7 : u_T := fun k => match k with
  | 0 => ("RubbleCity$Row", "hands", "[I", true)
  | 1 => ("RubbleCity$Row", "size", "I", false)
  | 2 => ("RubbleCity$Row", "from", "I", false)
  | _ => ("RubbleCity$Row", "to", "I", false)
def tyX7 : Nat → FieldType := fun k => match k with
  | 0 => .array .int
  | 1 => .int
  | 2 => .int
  | _ => .int
abbrev wsX70 : List Cond := u_ws RX7 TX7 4
theorem nmX7 : ∀ a, a < 4 → ∀ b, b < 4 → a ≠ b → (TX7 a).2.1 ≠ (TX7 b).2.1 := by decide +kernel
theorem tyX7_ok : ∀ k, k < 4 → parseFieldDescriptor (TX7 k).2.2.1 = some (tyX7 k) := by decide +kernel
abbrev cX7_init : ByteArray := prog_9_method_1_code
def yX7_init : MethodName := ⟨RX7, "<init>", "()V"⟩
def RX8 : String := "RubbleCity$Sheet"
def TX8 : u_T := fun k => match k with
  | 0 => ("RubbleCity$Sheet", "sort", "I", false)
  | 1 => ("RubbleCity$Sheet", "size", "I", false)
  | _ => ("RubbleCity$Sheet", "numbers", "[I", true)
def tyX8 : Nat → FieldType := fun k => match k with
  | 0 => .int
  | 1 => .int
  | _ => .array .int
abbrev wsX80 : List Cond := u_ws RX8 TX8 3
theorem nmX8 : ∀ a, a < 3 → ∀ b, b < 3 → a ≠ b → (TX8 a).2.1 ≠ (TX8 b).2.1 := by decide +kernel
theorem tyX8_ok : ∀ k, k < 3 → parseFieldDescriptor (TX8 k).2.2.1 = some (tyX8 k) := by decide +kernel
abbrev cX8_init : ByteArray := prog_10_method_1_code
def yX8_init : MethodName := ⟨RX8, "<init>", "()V"⟩
abbrev cX8_isMissing : ByteArray := prog_10_method_2_code
def yX8_isMissing : MethodName := ⟨RX8, "isMissing", "()Z"⟩
abbrev cX8_put : ByteArray := prog_10_method_3_code
def yX8_put : MethodName := ⟨RX8, "put", "(II)V"⟩
abbrev cX8_holds : ByteArray := prog_10_method_4_code
def yX8_holds : MethodName := ⟨RX8, "holds", "(II)Z"⟩
abbrev cX8_hasAheadOf : ByteArray := prog_10_method_5_code
def yX8_hasAheadOf : MethodName := ⟨RX8, "hasAheadOf", "(II)Z"⟩
def RX9 : String := "RubbleCity$State"
def TX9 : u_T := fun k => match k with
  | 0 => ("RubbleCity$State", "day", "I", false)
  | 1 => ("RubbleCity$State", "wet", "I", false)
  | 2 => ("RubbleCity$State", "wind", "I", false)
  | 3 => ("RubbleCity$State", "tipped", "I", false)
  | 4 => ("RubbleCity$State", "dust", "I", false)
  | 5 => ("RubbleCity$State", "kept", "[I", true)
  | 6 => ("RubbleCity$State", "loads", "[I", true)
  | 7 => ("RubbleCity$State", "home", "[I", true)
  | 8 => ("RubbleCity$State", "hurt", "[I", true)
  | 9 => ("RubbleCity$State", "worked", "[I", true)
  | 10 => ("RubbleCity$State", "given", "[I", true)
  | 11 => ("RubbleCity$State", "dead", "[Z", true)
  | 12 => ("RubbleCity$State", "stands", "[I", true)
  | 13 => ("RubbleCity$State", "up", "[Z", true)
  | 14 => ("RubbleCity$State", "warm", "[Z", true)
  | 15 => ("RubbleCity$State", "rowLoads", "[I", true)
  | 16 => ("RubbleCity$State", "rowStuck", "[I", true)
  | _ => ("RubbleCity$State", "railLoads", "[I", true)
def tyX9 : Nat → FieldType := fun k => match k with
  | 0 => .int
  | 1 => .int
  | 2 => .int
  | 3 => .int
  | 4 => .int
  | 5 => .array .int
  | 6 => .array .int
  | 7 => .array .int
  | 8 => .array .int
  | 9 => .array .int
  | 10 => .array .int
  | 11 => .array .boolean
  | 12 => .array .int
  | 13 => .array .boolean
  | 14 => .array .boolean
  | 15 => .array .int
  | 16 => .array .int
  | _ => .array .int
abbrev wsX90 : List Cond := u_ws RX9 TX9 18
theorem nmX9 : ∀ a, a < 18 → ∀ b, b < 18 → a ≠ b → (TX9 a).2.1 ≠ (TX9 b).2.1 := by decide +kernel
theorem tyX9_ok : ∀ k, k < 18 → parseFieldDescriptor (TX9 k).2.2.1 = some (tyX9 k) := by decide +kernel
abbrev cX9_init : ByteArray := prog_11_method_1_code
def yX9_init : MethodName := ⟨RX9, "<init>", "()V"⟩
abbrev cX9_become : ByteArray := prog_11_method_2_code
def yX9_become : MethodName := ⟨RX9, "become", "(LRubbleCity$State;)V"⟩
abbrev cX9_allLoads : ByteArray := prog_11_method_3_code
def yX9_allLoads : MethodName := ⟨RX9, "allLoads", "()I"⟩
abbrev cX9_allDead : ByteArray := prog_11_method_4_code
def yX9_allDead : MethodName := ⟨RX9, "allDead", "()I"⟩
abbrev cX9_allHurt : ByteArray := prog_11_method_5_code
def yX9_allHurt : MethodName := ⟨RX9, "allHurt", "()I"⟩
def RX10 : String := "RubbleCity$Tape"
def TX10 : u_T := fun k => match k with
  | 0 => ("RubbleCity$Tape", "bytes", "[I", true)
  | 1 => ("RubbleCity$Tape", "size", "I", false)
  | _ => ("RubbleCity$Tape", "place", "I", false)
def tyX10 : Nat → FieldType := fun k => match k with
  | 0 => .array .int
  | 1 => .int
  | _ => .int
abbrev wsX100 : List Cond := u_ws RX10 TX10 3
theorem nmX10 : ∀ a, a < 3 → ∀ b, b < 3 → a ≠ b → (TX10 a).2.1 ≠ (TX10 b).2.1 := by decide +kernel
theorem tyX10_ok : ∀ k, k < 3 → parseFieldDescriptor (TX10 k).2.2.1 = some (tyX10 k) := by decide +kernel
abbrev cX10_init : ByteArray := prog_12_method_1_code
def yX10_init : MethodName := ⟨RX10, "<init>", "()V"⟩
abbrev cX10_readInto : ByteArray := prog_12_method_2_code
def yX10_readInto : MethodName := ⟨RX10, "readInto", "(LRubbleCity$Order;)Z"⟩
abbrev cX10_readLine : ByteArray := prog_12_method_3_code
def yX10_readLine : MethodName := ⟨RX10, "readLine", "(LRubbleCity$Order;I)Z"⟩
abbrev cX10_readIf : ByteArray := prog_12_method_4_code
def yX10_readIf : MethodName := ⟨RX10, "readIf", "()Z"⟩
abbrev cX10_readTests : ByteArray := prog_12_method_5_code
def yX10_readTests : MethodName := ⟨RX10, "readTests", "(LRubbleCity$Order;I)Z"⟩
abbrev cX10_readTest : ByteArray := prog_12_method_6_code
def yX10_readTest : MethodName := ⟨RX10, "readTest", "(LRubbleCity$Order;I)Z"⟩
abbrev cX10_readSign : ByteArray := prog_12_method_7_code
def yX10_readSign : MethodName := ⟨RX10, "readSign", "(C)Z"⟩
abbrev cX10_readNumber : ByteArray := prog_12_method_8_code
def yX10_readNumber : MethodName := ⟨RX10, "readNumber", "()I"⟩
abbrev cX10_readWord : ByteArray := prog_12_method_9_code
def yX10_readWord : MethodName := ⟨RX10, "readWord", "(Ljava/lang/String;)I"⟩
abbrev cX10_byteAt : ByteArray := prog_12_method_10_code
def yX10_byteAt : MethodName := ⟨RX10, "byteAt", "(I)I"⟩
def RX11 : String := "RubbleCity"
def TX11 : u_T := fun k => match k with
  | 0 => ("RubbleCity", "city", "LRubbleCity$City;", true)
  | 1 => ("RubbleCity", "now", "LRubbleCity$State;", true)
  | 2 => ("RubbleCity", "aside", "LRubbleCity$State;", true)
  | 3 => ("RubbleCity", "imaged", "LRubbleCity$State;", true)
  | 4 => ("RubbleCity", "hasImage", "Z", false)
  | 5 => ("RubbleCity", "tape", "LRubbleCity$Tape;", true)
  | 6 => ("RubbleCity", "orders", "[LRubbleCity$Order;", true)
  | 7 => ("RubbleCity", "orderCount", "I", false)
  | 8 => ("RubbleCity", "rule", "I", false)
  | 9 => ("RubbleCity", "pulling", "LRubbleCity$Pulls;", true)
  | 10 => ("RubbleCity", "rooms", "LRubbleCity$Rooms;", true)
  | 11 => ("RubbleCity", "raids", "LRubbleCity$Raids;", true)
  | 12 => ("RubbleCity", "papers", "LRubbleCity$Papers;", true)
  | _ => ("RubbleCity", "sheets", "[LRubbleCity$Sheet;", true)
def tyX11 : Nat → FieldType := fun k => match k with
  | 0 => .object "RubbleCity$City"
  | 1 => .object "RubbleCity$State"
  | 2 => .object "RubbleCity$State"
  | 3 => .object "RubbleCity$State"
  | 4 => .boolean
  | 5 => .object "RubbleCity$Tape"
  | 6 => .array (.object "RubbleCity$Order")
  | 7 => .int
  | 8 => .int
  | 9 => .object "RubbleCity$Pulls"
  | 10 => .object "RubbleCity$Rooms"
  | 11 => .object "RubbleCity$Raids"
  | 12 => .object "RubbleCity$Papers"
  | _ => .array (.object "RubbleCity$Sheet")
abbrev wsX110 : List Cond := u_ws RX11 TX11 14
theorem nmX11 : ∀ a, a < 14 → ∀ b, b < 14 → a ≠ b → (TX11 a).2.1 ≠ (TX11 b).2.1 := by decide +kernel
theorem tyX11_ok : ∀ k, k < 14 → parseFieldDescriptor (TX11 k).2.2.1 = some (tyX11 k) := by decide +kernel
abbrev cX11_init : ByteArray := prog_1_method_1_code
def yX11_init : MethodName := ⟨RX11, "<init>", "()V"⟩
abbrev cX11_ruin : ByteArray := prog_1_method_2_code
def yX11_ruin : MethodName := ⟨RX11, "ruin", "(III)I"⟩
abbrev cX11_person : ByteArray := prog_1_method_3_code
def yX11_person : MethodName := ⟨RX11, "person", "(IIII)I"⟩
abbrev cX11_moves : ByteArray := prog_1_method_4_code
def yX11_moves : MethodName := ⟨RX11, "moves", "(II)I"⟩
abbrev cX11_wall : ByteArray := prog_1_method_5_code
def yX11_wall : MethodName := ⟨RX11, "wall", "(III)I"⟩
abbrev cX11_weather : ByteArray := prog_1_method_6_code
def yX11_weather : MethodName := ⟨RX11, "weather", "(II)I"⟩
abbrev cX11_tip : ByteArray := prog_1_method_7_code
def yX11_tip : MethodName := ⟨RX11, "tip", "(I)I"⟩
abbrev cX11_row : ByteArray := prog_1_method_8_code
def yX11_row : MethodName := ⟨RX11, "row", "(IIII)I"⟩
abbrev cX11_refusalOfHands : ByteArray := prog_1_method_9_code
def yX11_refusalOfHands : MethodName := ⟨RX11, "refusalOfHands", "(ILRubbleCity$Sheet;)I"⟩
abbrev cX11_rail : ByteArray := prog_1_method_10_code
def yX11_rail : MethodName := ⟨RX11, "rail", "(III)I"⟩
abbrev cX11_isWay : ByteArray := prog_1_method_11_code
def yX11_isWay : MethodName := ⟨RX11, "isWay", "(LRubbleCity$Sheet;)Z"⟩
abbrev cX11_room : ByteArray := prog_1_method_12_code
def yX11_room : MethodName := ⟨RX11, "room", "(IIII)I"⟩
abbrev cX11_feed : ByteArray := prog_1_method_13_code
def yX11_feed : MethodName := ⟨RX11, "feed", "(JI)I"⟩
abbrev cX11_order : ByteArray := prog_1_method_14_code
def yX11_order : MethodName := ⟨RX11, "order", "()I"⟩
abbrev cX11_force : ByteArray := prog_1_method_15_code
def yX11_force : MethodName := ⟨RX11, "force", "(I)I"⟩
abbrev cX11_says : ByteArray := prog_1_method_16_code
def yX11_says : MethodName := ⟨RX11, "says", "(II)I"⟩
abbrev cX11_run : ByteArray := prog_1_method_17_code
def yX11_run : MethodName := ⟨RX11, "run", "(I)I"⟩
abbrev cX11_cellTold : ByteArray := prog_1_method_18_code
def yX11_cellTold : MethodName := ⟨RX11, "cellTold", "(II)I"⟩
abbrev cX11_kindTold : ByteArray := prog_1_method_19_code
def yX11_kindTold : MethodName := ⟨RX11, "kindTold", "(II)I"⟩
abbrev cX11_personTold : ByteArray := prog_1_method_20_code
def yX11_personTold : MethodName := ⟨RX11, "personTold", "(II)I"⟩
abbrev cX11_rowTold : ByteArray := prog_1_method_21_code
def yX11_rowTold : MethodName := ⟨RX11, "rowTold", "(II)I"⟩
abbrev cX11_railTold : ByteArray := prog_1_method_22_code
def yX11_railTold : MethodName := ⟨RX11, "railTold", "(II)I"⟩
abbrev cX11_wallTold : ByteArray := prog_1_method_23_code
def yX11_wallTold : MethodName := ⟨RX11, "wallTold", "(II)I"⟩
abbrev cX11_count : ByteArray := prog_1_method_24_code
def yX11_count : MethodName := ⟨RX11, "count", "(I)I"⟩
abbrev cX11_pull : ByteArray := prog_1_method_25_code
def yX11_pull : MethodName := ⟨RX11, "pull", "(I)I"⟩
abbrev cX11_pulls : ByteArray := prog_1_method_26_code
def yX11_pulls : MethodName := ⟨RX11, "pulls", "(I)I"⟩
abbrev cX11_areWallsToPull : ByteArray := prog_1_method_27_code
def yX11_areWallsToPull : MethodName := ⟨RX11, "areWallsToPull", "(LRubbleCity$Sheet;)Z"⟩
abbrev cX11_pullTold : ByteArray := prog_1_method_28_code
def yX11_pullTold : MethodName := ⟨RX11, "pullTold", "(I)I"⟩
abbrev cX11_mends : ByteArray := prog_1_method_29_code
def yX11_mends : MethodName := ⟨RX11, "mends", "(I)I"⟩
abbrev cX11_mendTold : ByteArray := prog_1_method_30_code
def yX11_mendTold : MethodName := ⟨RX11, "mendTold", "()I"⟩
abbrev cX11_mend : ByteArray := prog_1_method_31_code
def yX11_mend : MethodName := ⟨RX11, "mend", "(I)I"⟩
abbrev cX11_roomTold : ByteArray := prog_1_method_32_code
def yX11_roomTold : MethodName := ⟨RX11, "roomTold", "(II)I"⟩
abbrev cX11_raid : ByteArray := prog_1_method_33_code
def yX11_raid : MethodName := ⟨RX11, "raid", "(IIII)I"⟩
abbrev cX11_probe : ByteArray := prog_1_method_34_code
def yX11_probe : MethodName := ⟨RX11, "probe", "(II)I"⟩
abbrev cX11_likely : ByteArray := prog_1_method_35_code
def yX11_likely : MethodName := ⟨RX11, "likely", "(II)J"⟩
abbrev cX11_next : ByteArray := prog_1_method_36_code
def yX11_next : MethodName := ⟨RX11, "next", "()I"⟩
abbrev cX11_paper : ByteArray := prog_1_method_37_code
def yX11_paper : MethodName := ⟨RX11, "paper", "(III)I"⟩
abbrev cX11_burn : ByteArray := prog_1_method_38_code
def yX11_burn : MethodName := ⟨RX11, "burn", "(I)I"⟩
abbrev cX11_owner : ByteArray := prog_1_method_39_code
def yX11_owner : MethodName := ⟨RX11, "owner", "(III)I"⟩
abbrev cX11_heirs : ByteArray := prog_1_method_40_code
def yX11_heirs : MethodName := ⟨RX11, "heirs", "(III)I"⟩
abbrev cX11_beside : ByteArray := prog_1_method_41_code
def yX11_beside : MethodName := ⟨RX11, "beside", "(II)J"⟩
abbrev cX11_clear : ByteArray := prog_1_method_42_code
def yX11_clear : MethodName := ⟨RX11, "clear", "(II)I"⟩
abbrev cX11_image : ByteArray := prog_1_method_43_code
def yX11_image : MethodName := ⟨RX11, "image", "()I"⟩
abbrev cX11_back : ByteArray := prog_1_method_44_code
def yX11_back : MethodName := ⟨RX11, "back", "()I"⟩
abbrev cX11_sheet : ByteArray := prog_1_method_45_code
def yX11_sheet : MethodName := ⟨RX11, "sheet", "(III)I"⟩
abbrev cX11_cell : ByteArray := prog_1_method_46_code
def yX11_cell : MethodName := ⟨RX11, "cell", "(III)I"⟩
abbrev cX11_copy : ByteArray := prog_1_method_47_code
def yX11_copy : MethodName := ⟨RX11, "copy", "(IIIII)I"⟩
abbrev cX11_people : ByteArray := prog_1_method_48_code
def yX11_people : MethodName := ⟨RX11, "people", "(IIII)I"⟩
abbrev cX11_personFrom : ByteArray := prog_1_method_49_code
def yX11_personFrom : MethodName := ⟨RX11, "personFrom", "(LRubbleCity$Sheet;I)I"⟩
abbrev cX11_taken : ByteArray := prog_1_method_50_code
def yX11_taken : MethodName := ⟨RX11, "taken", "(II)I"⟩
abbrev cX11_within : ByteArray := prog_1_method_51_code
def yX11_within : MethodName := ⟨RX11, "within", "(II)Z"⟩
abbrev cX11_between : ByteArray := prog_1_method_52_code
def yX11_between : MethodName := ⟨RX11, "between", "(III)Z"⟩
abbrev cX11_cellOnSide : ByteArray := prog_1_method_53_code
def yX11_cellOnSide : MethodName := ⟨RX11, "cellOnSide", "(II)I"⟩
abbrev cX11_areBeside : ByteArray := prog_1_method_54_code
def yX11_areBeside : MethodName := ⟨RX11, "areBeside", "(II)Z"⟩
abbrev cX11_isOfKind : ByteArray := prog_1_method_55_code
def yX11_isOfKind : MethodName := ⟨RX11, "isOfKind", "(II)Z"⟩
abbrev cX11_greatestDivisor : ByteArray := prog_1_method_56_code
def yX11_greatestDivisor : MethodName := ⟨RX11, "greatestDivisor", "(II)I"⟩
def RX12 : String := "RubbleCityModel"
def TX12 : u_T := fun k => match k with
  | 0 => ("RubbleCityModel", "p", "[I", true)
  | 1 => ("RubbleCityModel", "kept", "[I", true)
  | 2 => ("RubbleCityModel", "imaged", "[I", true)
  | 3 => ("RubbleCityModel", "hasImage", "Z", false)
  | 4 => ("RubbleCityModel", "ruinKind", "[I", true)
  | 5 => ("RubbleCityModel", "kindBricks", "[I", true)
  | 6 => ("RubbleCityModel", "kindBeams", "[I", true)
  | 7 => ("RubbleCityModel", "kindIron", "[I", true)
  | 8 => ("RubbleCityModel", "kindWeak", "[I", true)
  | 9 => ("RubbleCityModel", "tip", "I", false)
  | 10 => ("RubbleCityModel", "people", "I", false)
  | 11 => ("RubbleCityModel", "strong", "[I", true)
  | 12 => ("RubbleCityModel", "age", "[I", true)
  | 13 => ("RubbleCityModel", "kin", "[I", true)
  | 14 => ("RubbleCityModel", "hands", "[I", true)
  | 15 => ("RubbleCityModel", "handMany", "[I", true)
  | 16 => ("RubbleCityModel", "rowFrom", "[I", true)
  | 17 => ("RubbleCityModel", "rowTo", "[I", true)
  | 18 => ("RubbleCityModel", "way", "[I", true)
  | 19 => ("RubbleCityModel", "wayMany", "[I", true)
  | 20 => ("RubbleCityModel", "cars", "[I", true)
  | 21 => ("RubbleCityModel", "walls", "I", false)
  | 22 => ("RubbleCityModel", "wallCell", "[I", true)
  | 23 => ("RubbleCityModel", "wallTo", "[I", true)
  | 24 => ("RubbleCityModel", "rooms", "I", false)
  | 25 => ("RubbleCityModel", "roomCell", "[I", true)
  | 26 => ("RubbleCityModel", "roomBricks", "[I", true)
  | 27 => ("RubbleCityModel", "roomBeams", "[I", true)
  | 28 => ("RubbleCityModel", "roomWorth", "[I", true)
  | 29 => ("RubbleCityModel", "raids", "I", false)
  | 30 => ("RubbleCityModel", "raidFrom", "[I", true)
  | 31 => ("RubbleCityModel", "raidSide", "[I", true)
  | 32 => ("RubbleCityModel", "raidLong", "[I", true)
  | 33 => ("RubbleCityModel", "shells", "[I", true)
  | 34 => ("RubbleCityModel", "isProbed", "[Z", true)
  | 35 => ("RubbleCityModel", "papers", "I", false)
  | 36 => ("RubbleCityModel", "paperLot", "[I", true)
  | 37 => ("RubbleCityModel", "paperOwner", "[I", true)
  | 38 => ("RubbleCityModel", "paperFrom", "[I", true)
  | 39 => ("RubbleCityModel", "paperTold", "[I", true)
  | 40 => ("RubbleCityModel", "burnt", "[I", true)
  | 41 => ("RubbleCityModel", "pullMany", "I", false)
  | 42 => ("RubbleCityModel", "pullOrder", "[I", true)
  | 43 => ("RubbleCityModel", "mendSet", "I", false)
  | 44 => ("RubbleCityModel", "tape", "[I", true)
  | 45 => ("RubbleCityModel", "taped", "I", false)
  | 46 => ("RubbleCityModel", "orders", "I", false)
  | 47 => ("RubbleCityModel", "rule", "I", false)
  | 48 => ("RubbleCityModel", "lineMany", "[I", true)
  | 49 => ("RubbleCityModel", "lineKey", "[I", true)
  | 50 => ("RubbleCityModel", "lineNumber", "[I", true)
  | 51 => ("RubbleCityModel", "testMany", "[I", true)
  | 52 => ("RubbleCityModel", "testField", "[I", true)
  | 53 => ("RubbleCityModel", "testSign", "[I", true)
  | 54 => ("RubbleCityModel", "testNumber", "[I", true)
  | 55 => ("RubbleCityModel", "sheetSort", "[I", true)
  | 56 => ("RubbleCityModel", "sheetSize", "[I", true)
  | 57 => ("RubbleCityModel", "cells", "[I", true)
  | 58 => ("RubbleCityModel", "words", "[J", true)
  | 59 => ("RubbleCityModel", "sizes", "[I", true)
  | 60 => ("RubbleCityModel", "at", "I", false)
  | 61 => ("RubbleCityModel", "died", "I", false)
  | 62 => ("RubbleCityModel", "hurt", "I", false)
  | 63 => ("RubbleCityModel", "keptUp", "[I", true)
  | 64 => ("RubbleCityModel", "keptStands", "[I", true)
  | _ => ("RubbleCityModel", "tried", "[I", true)
def tyX12 : Nat → FieldType := fun k => match k with
  | 0 => .array .int
  | 1 => .array .int
  | 2 => .array .int
  | 3 => .boolean
  | 4 => .array .int
  | 5 => .array .int
  | 6 => .array .int
  | 7 => .array .int
  | 8 => .array .int
  | 9 => .int
  | 10 => .int
  | 11 => .array .int
  | 12 => .array .int
  | 13 => .array .int
  | 14 => .array .int
  | 15 => .array .int
  | 16 => .array .int
  | 17 => .array .int
  | 18 => .array .int
  | 19 => .array .int
  | 20 => .array .int
  | 21 => .int
  | 22 => .array .int
  | 23 => .array .int
  | 24 => .int
  | 25 => .array .int
  | 26 => .array .int
  | 27 => .array .int
  | 28 => .array .int
  | 29 => .int
  | 30 => .array .int
  | 31 => .array .int
  | 32 => .array .int
  | 33 => .array .int
  | 34 => .array .boolean
  | 35 => .int
  | 36 => .array .int
  | 37 => .array .int
  | 38 => .array .int
  | 39 => .array .int
  | 40 => .array .int
  | 41 => .int
  | 42 => .array .int
  | 43 => .int
  | 44 => .array .int
  | 45 => .int
  | 46 => .int
  | 47 => .int
  | 48 => .array .int
  | 49 => .array .int
  | 50 => .array .int
  | 51 => .array .int
  | 52 => .array .int
  | 53 => .array .int
  | 54 => .array .int
  | 55 => .array .int
  | 56 => .array .int
  | 57 => .array .int
  | 58 => .array .long
  | 59 => .array .int
  | 60 => .int
  | 61 => .int
  | 62 => .int
  | 63 => .array .int
  | 64 => .array .int
  | _ => .array .int
abbrev wsX120 : List Cond := u_ws RX12 TX12 66
theorem nmX12 : ∀ a, a < 66 → ∀ b, b < 66 → a ≠ b → (TX12 a).2.1 ≠ (TX12 b).2.1 := by decide +kernel
theorem tyX12_ok : ∀ k, k < 66 → parseFieldDescriptor (TX12 k).2.2.1 = some (tyX12 k) := by decide +kernel
abbrev cX12_init : ByteArray := prog_14_method_1_code
def yX12_init : MethodName := ⟨RX12, "<init>", "()V"⟩
abbrev cX12_in : ByteArray := prog_14_method_3_code
def yX12_in : MethodName := ⟨RX12, "in", "(III)Z"⟩
abbrev cX12_isCell : ByteArray := prog_14_method_4_code
def yX12_isCell : MethodName := ⟨RX12, "isCell", "(I)Z"⟩
abbrev cX12_isPerson : ByteArray := prog_14_method_5_code
def yX12_isPerson : MethodName := ⟨RX12, "isPerson", "(I)Z"⟩
abbrev cX12_nextTo : ByteArray := prog_14_method_6_code
def yX12_nextTo : MethodName := ⟨RX12, "nextTo", "(II)I"⟩
abbrev cX12_areBeside : ByteArray := prog_14_method_7_code
def yX12_areBeside : MethodName := ⟨RX12, "areBeside", "(II)Z"⟩
abbrev cX12_weakOf : ByteArray := prog_14_method_8_code
def yX12_weakOf : MethodName := ⟨RX12, "weakOf", "(I)I"⟩
abbrev cX12_ruin : ByteArray := prog_14_method_9_code
def yX12_ruin : MethodName := ⟨RX12, "ruin", "(III)I"⟩
abbrev cX12_person : ByteArray := prog_14_method_10_code
def yX12_person : MethodName := ⟨RX12, "person", "(IIII)I"⟩
abbrev cX12_moves : ByteArray := prog_14_method_11_code
def yX12_moves : MethodName := ⟨RX12, "moves", "(II)I"⟩
abbrev cX12_wall : ByteArray := prog_14_method_12_code
def yX12_wall : MethodName := ⟨RX12, "wall", "(III)I"⟩
abbrev cX12_weather : ByteArray := prog_14_method_13_code
def yX12_weather : MethodName := ⟨RX12, "weather", "(II)I"⟩
abbrev cX12_tip : ByteArray := prog_14_method_14_code
def yX12_tip : MethodName := ⟨RX12, "tip", "(I)I"⟩
abbrev cX12_isInOther : ByteArray := prog_14_method_15_code
def yX12_isInOther : MethodName := ⟨RX12, "isInOther", "(II)Z"⟩
abbrev cX12_barred : ByteArray := prog_14_method_16_code
def yX12_barred : MethodName := ⟨RX12, "barred", "(II)I"⟩
abbrev cX12_row : ByteArray := prog_14_method_17_code
def yX12_row : MethodName := ⟨RX12, "row", "(IIII)I"⟩
abbrev cX12_rail : ByteArray := prog_14_method_18_code
def yX12_rail : MethodName := ⟨RX12, "rail", "(III)I"⟩
abbrev cX12_room : ByteArray := prog_14_method_19_code
def yX12_room : MethodName := ⟨RX12, "room", "(IIII)I"⟩
abbrev cX12_feed : ByteArray := prog_14_method_20_code
def yX12_feed : MethodName := ⟨RX12, "feed", "(JI)I"⟩
abbrev cX12_byteHere : ByteArray := prog_14_method_21_code
def yX12_byteHere : MethodName := ⟨RX12, "byteHere", "()I"⟩
abbrev cX12_wordOf : ByteArray := prog_14_method_22_code
def yX12_wordOf : MethodName := ⟨RX12, "wordOf", "(II)I"⟩
abbrev cX12_number : ByteArray := prog_14_method_23_code
def yX12_number : MethodName := ⟨RX12, "number", "()I"⟩
abbrev cX12_test : ByteArray := prog_14_method_24_code
def yX12_test : MethodName := ⟨RX12, "test", "(I)Z"⟩
abbrev cX12_line : ByteArray := prog_14_method_25_code
def yX12_line : MethodName := ⟨RX12, "line", "(I)Z"⟩
abbrev cX12_order : ByteArray := prog_14_method_26_code
def yX12_order : MethodName := ⟨RX12, "order", "()I"⟩
abbrev cX12_force : ByteArray := prog_14_method_27_code
def yX12_force : MethodName := ⟨RX12, "force", "(I)I"⟩
abbrev cX12_fieldOf : ByteArray := prog_14_method_28_code
def yX12_fieldOf : MethodName := ⟨RX12, "fieldOf", "(II)I"⟩
abbrev cX12_holds : ByteArray := prog_14_method_29_code
def yX12_holds : MethodName := ⟨RX12, "holds", "(II)Z"⟩
abbrev cX12_saysOf : ByteArray := prog_14_method_30_code
def yX12_saysOf : MethodName := ⟨RX12, "saysOf", "(II)I"⟩
abbrev cX12_says : ByteArray := prog_14_method_31_code
def yX12_says : MethodName := ⟨RX12, "says", "(II)I"⟩
abbrev cX12_worksOf : ByteArray := prog_14_method_32_code
def yX12_worksOf : MethodName := ⟨RX12, "worksOf", "(I)I"⟩
abbrev cX12_passes : ByteArray := prog_14_method_33_code
def yX12_passes : MethodName := ⟨RX12, "passes", "(I)I"⟩
abbrev cX12_comes : ByteArray := prog_14_method_34_code
def yX12_comes : MethodName := ⟨RX12, "comes", "(II)V"⟩
abbrev cX12_goesRow : ByteArray := prog_14_method_35_code
def yX12_goesRow : MethodName := ⟨RX12, "goesRow", "(I)V"⟩
abbrev cX12_goesRail : ByteArray := prog_14_method_36_code
def yX12_goesRail : MethodName := ⟨RX12, "goesRail", "(I)V"⟩
abbrev cX12_isAt : ByteArray := prog_14_method_37_code
def yX12_isAt : MethodName := ⟨RX12, "isAt", "(I)I"⟩
abbrev cX12_falls : ByteArray := prog_14_method_38_code
def yX12_falls : MethodName := ⟨RX12, "falls", "(I)V"⟩
abbrev cX12_wears : ByteArray := prog_14_method_39_code
def yX12_wears : MethodName := ⟨RX12, "wears", "(I)Z"⟩
abbrev cX12_goes : ByteArray := prog_14_method_40_code
def yX12_goes : MethodName := ⟨RX12, "goes", "()V"⟩
abbrev cX12_run : ByteArray := prog_14_method_41_code
def yX12_run : MethodName := ⟨RX12, "run", "(I)I"⟩
abbrev cX12_cellTold : ByteArray := prog_14_method_42_code
def yX12_cellTold : MethodName := ⟨RX12, "cellTold", "(II)I"⟩
abbrev cX12_kindTold : ByteArray := prog_14_method_43_code
def yX12_kindTold : MethodName := ⟨RX12, "kindTold", "(II)I"⟩
abbrev cX12_personTold : ByteArray := prog_14_method_44_code
def yX12_personTold : MethodName := ⟨RX12, "personTold", "(II)I"⟩
abbrev cX12_rowTold : ByteArray := prog_14_method_45_code
def yX12_rowTold : MethodName := ⟨RX12, "rowTold", "(II)I"⟩
abbrev cX12_railTold : ByteArray := prog_14_method_46_code
def yX12_railTold : MethodName := ⟨RX12, "railTold", "(II)I"⟩
abbrev cX12_isWall : ByteArray := prog_14_method_47_code
def yX12_isWall : MethodName := ⟨RX12, "isWall", "(I)Z"⟩
abbrev cX12_wallTold : ByteArray := prog_14_method_48_code
def yX12_wallTold : MethodName := ⟨RX12, "wallTold", "(II)I"⟩
abbrev cX12_sum : ByteArray := prog_14_method_49_code
def yX12_sum : MethodName := ⟨RX12, "sum", "(II)I"⟩
abbrev cX12_count : ByteArray := prog_14_method_50_code
def yX12_count : MethodName := ⟨RX12, "count", "(I)I"⟩
abbrev cX12_pull : ByteArray := prog_14_method_51_code
def yX12_pull : MethodName := ⟨RX12, "pull", "(I)I"⟩
abbrev cX12_late : ByteArray := prog_14_method_52_code
def yX12_late : MethodName := ⟨RX12, "late", "(II)I"⟩
abbrev cX12_nextOrder : ByteArray := prog_14_method_53_code
def yX12_nextOrder : MethodName := ⟨RX12, "nextOrder", "(I)Z"⟩
abbrev cX12_pulls : ByteArray := prog_14_method_54_code
def yX12_pulls : MethodName := ⟨RX12, "pulls", "(I)I"⟩
abbrev cX12_pullTold : ByteArray := prog_14_method_55_code
def yX12_pullTold : MethodName := ⟨RX12, "pullTold", "(I)I"⟩
abbrev cX12_mends : ByteArray := prog_14_method_56_code
def yX12_mends : MethodName := ⟨RX12, "mends", "(I)I"⟩
abbrev cX12_mendTold : ByteArray := prog_14_method_57_code
def yX12_mendTold : MethodName := ⟨RX12, "mendTold", "()I"⟩
abbrev cX12_isRoom : ByteArray := prog_14_method_58_code
def yX12_isRoom : MethodName := ⟨RX12, "isRoom", "(I)Z"⟩
abbrev cX12_mend : ByteArray := prog_14_method_59_code
def yX12_mend : MethodName := ⟨RX12, "mend", "(I)I"⟩
abbrev cX12_roomTold : ByteArray := prog_14_method_60_code
def yX12_roomTold : MethodName := ⟨RX12, "roomTold", "(II)I"⟩
abbrev cX12_raid : ByteArray := prog_14_method_61_code
def yX12_raid : MethodName := ⟨RX12, "raid", "(IIII)I"⟩
abbrev cX12_isOver : ByteArray := prog_14_method_62_code
def yX12_isOver : MethodName := ⟨RX12, "isOver", "(II)Z"⟩
abbrev cX12_leftOver : ByteArray := prog_14_method_63_code
def yX12_leftOver : MethodName := ⟨RX12, "leftOver", "(I)I"⟩
abbrev cX12_probe : ByteArray := prog_14_method_64_code
def yX12_probe : MethodName := ⟨RX12, "probe", "(II)I"⟩
abbrev cX12_likelyIn : ByteArray := prog_14_method_65_code
def yX12_likelyIn : MethodName := ⟨RX12, "likelyIn", "(I)I"⟩
abbrev cX12_likely : ByteArray := prog_14_method_66_code
def yX12_likely : MethodName := ⟨RX12, "likely", "(II)J"⟩
abbrev cX12_next : ByteArray := prog_14_method_67_code
def yX12_next : MethodName := ⟨RX12, "next", "()I"⟩
abbrev cX12_paper : ByteArray := prog_14_method_68_code
def yX12_paper : MethodName := ⟨RX12, "paper", "(III)I"⟩
abbrev cX12_burn : ByteArray := prog_14_method_69_code
def yX12_burn : MethodName := ⟨RX12, "burn", "(I)I"⟩
abbrev cX12_owner : ByteArray := prog_14_method_70_code
def yX12_owner : MethodName := ⟨RX12, "owner", "(III)I"⟩
abbrev cX12_heirs : ByteArray := prog_14_method_71_code
def yX12_heirs : MethodName := ⟨RX12, "heirs", "(III)I"⟩
abbrev cX12_lays : ByteArray := prog_14_method_72_code
def yX12_lays : MethodName := ⟨RX12, "lays", "(Z)V"⟩
abbrev cX12_beside : ByteArray := prog_14_method_73_code
def yX12_beside : MethodName := ⟨RX12, "beside", "(II)J"⟩
abbrev cX12_clear : ByteArray := prog_14_method_74_code
def yX12_clear : MethodName := ⟨RX12, "clear", "(II)I"⟩
abbrev cX12_image : ByteArray := prog_14_method_75_code
def yX12_image : MethodName := ⟨RX12, "image", "()I"⟩
abbrev cX12_back : ByteArray := prog_14_method_76_code
def yX12_back : MethodName := ⟨RX12, "back", "()I"⟩
abbrev cX12_sheet : ByteArray := prog_14_method_77_code
def yX12_sheet : MethodName := ⟨RX12, "sheet", "(III)I"⟩
abbrev cX12_cell : ByteArray := prog_14_method_78_code
def yX12_cell : MethodName := ⟨RX12, "cell", "(III)I"⟩
abbrev cX12_copy : ByteArray := prog_14_method_79_code
def yX12_copy : MethodName := ⟨RX12, "copy", "(IIIII)I"⟩
abbrev cX12_people : ByteArray := prog_14_method_80_code
def yX12_people : MethodName := ⟨RX12, "people", "(IIII)I"⟩
abbrev cX12_isUnder : ByteArray := prog_14_method_81_code
def yX12_isUnder : MethodName := ⟨RX12, "isUnder", "(II)Z"⟩
abbrev cX12_taken : ByteArray := prog_14_method_82_code
def yX12_taken : MethodName := ⟨RX12, "taken", "(II)I"⟩
def RJ9 : String := "java/lang/Math"
abbrev cJ9_max_7cf53 : ByteArray := prog_15_method_65_code
def yJ9_max_7cf53 : MethodName := ⟨RJ9, "max", "(II)I"⟩
abbrev cJ9_min_7cf53 : ByteArray := prog_15_method_69_code
def yJ9_min_7cf53 : MethodName := ⟨RJ9, "min", "(II)I"⟩
def RJ0 : String := "java/lang/String"
abbrev cJ0_length_8abf5 : ByteArray := prog_16_method_54_code
def yJ0_length_8abf5 : MethodName := ⟨RJ0, "length", "()I"⟩
abbrev cJ0_charAt_5068e : ByteArray := prog_16_method_56_code
def yJ0_charAt_5068e : MethodName := ⟨RJ0, "charAt", "(I)C"⟩
abbrev cJ0_coder_7d493 : ByteArray := prog_16_method_152_code
def yJ0_coder_7d493 : MethodName := ⟨RJ0, "coder", "()B"⟩
abbrev cJ0_isLatin1_aae02 : ByteArray := prog_16_method_154_code
def yJ0_isLatin1_aae02 : MethodName := ⟨RJ0, "isLatin1", "()Z"⟩
abbrev cJ0_checkIndex_df160 : ByteArray := prog_16_method_155_code
def yJ0_checkIndex_df160 : MethodName := ⟨RJ0, "checkIndex", "(II)V"⟩
def RJ1 : String := "java/lang/StringLatin1"
abbrev cJ1_charAt_3b067 : ByteArray := prog_17_method_2_code
def yJ1_charAt_3b067 : MethodName := ⟨RJ1, "charAt", "([BI)C"⟩
def RJ2 : String := "java/lang/StringUTF16"
abbrev cJ2_getChar_3b067 : ByteArray := prog_18_method_5_code
def yJ2_getChar_3b067 : MethodName := ⟨RJ2, "getChar", "([BI)C"⟩
abbrev cJ2_length_9d52b : ByteArray := prog_18_method_6_code
def yJ2_length_9d52b : MethodName := ⟨RJ2, "length", "([B)I"⟩
abbrev cJ2_charAt_3b067 : ByteArray := prog_18_method_83_code
def yJ2_charAt_3b067 : MethodName := ⟨RJ2, "charAt", "([BI)C"⟩
abbrev cJ2_checkIndex_2214a : ByteArray := prog_18_method_91_code
def yJ2_checkIndex_2214a : MethodName := ⟨RJ2, "checkIndex", "(I[B)V"⟩
def RJ10 : String := "java/lang/System"
def RJ7 : String := "java/util/Arrays"
abbrev cJ7_fill_53178 : ByteArray := prog_20_method_103_code
def yJ7_fill_53178 : MethodName := ⟨RJ7, "fill", "([II)V"⟩
def RJ3 : String := "jdk/internal/util/Preconditions"
abbrev cJ3_checkIndex_8e157 : ByteArray := prog_21_method_11_code
def yJ3_checkIndex_8e157 : MethodName := ⟨RJ3, "checkIndex", "(IILjava/util/function/BiFunction;)I"⟩
def RL : String := "RubbleCityLaw"
abbrev cL_law : ByteArray := code
def yL_law : MethodName := ⟨RL, "law", "([I)Z"⟩

abbrev vwCl : List vw_C := [(RX0, TX0, 14), (RX1, TX1, 7), (RX2, TX2, 6), (RX3, TX3, 4), (RX4, TX4, 6), (RX5, TX5, 4), (RX6, TX6, 9), (RX7, TX7, 4), (RX8, TX8, 3), (RX9, TX9, 18), (RX10, TX10, 3), (RX11, TX11, 14), (RX12, TX12, 66)]
theorem vr_outer (c : ClassId) (N h0 : Nat) : ∀ i : Nat, Jvm.Free.Multi.outerC c N h0 i = arrV c N (fun j => va_rf (if j < i then some (h0 + 1 + j) else none))
  | 0 => by
    show ({ cls := c, slots := Array.replicate N .null, vm := .none } : Cell) = _
    rw [arrV_new]
    refine congrArg (arrV c N) (funext fun j => ?_)
    simp [va_rf]
  | i + 1 => by
    show (Jvm.Free.Multi.outerC c N h0 i).setSlot i (.ref (h0 + 1 + i)) = _
    rw [vr_outer c N h0 i, arrV_store]
    refine congrArg (arrV c N) (funext fun j => ?_)
    by_cases e : j = i
    · subst e
      simp [updV, va_rf]
    · by_cases h : j < i
      · simp [updV, e, h, Nat.lt_succ_of_lt h]
      · simp [updV, e, h, show ¬ j < i + 1 by omega]
end
section
/-! AN INTERPRETER of the bytecode over lists: places instead of addresses. A reference r below 16 is a thing that was there before (statics, the script, texts); r = 16 + i is cell i of the list of cells. All checks that a row of the kit asks for are made by the interpreter itself: where one fails it answers none. -/
abbrev im_A : Type := List Int32 ⊕ (List Int64 ⊕ List (Option Nat))
abbrev im_E : Type := (Nat × im_A) ⊕ (Nat × List Value)
abbrev im_H : Type := List im_E
abbrev im_L : Type := List (Nat × Value)
abbrev im_C : Type := Nat × im_L × List Value × im_H
/-- one step: a next state; a call (method, arguments with the receiver, rest of the stack); the end -/
abbrev im_O : Type := im_C ⊕ ((Nat × List Value × List Value) ⊕ Option Value)
/-- an instruction, its numbers (target, class, place ..) -/
abbrev im_I : Type := Instr × List Nat
/-- a method: its name, bytes, locals, return type, the class's number (99: none), parameters without the receiver, static or not, places of its words, code by chunks of 16 bytes -/
abbrev im_M : Type := MethodName × ByteArray × Nat × Option FieldType × Nat × Nat × Bool × List Nat × List (List (Nat × im_I))
def im_at (M : im_M) (pc : Nat) : Option im_I :=
  match M.2.2.2.2.2.2.2.2[pc / 16]? with
  | none => none
  | some l => (l.find? (fun q => q.1 == pc)).map (·.2)
def im_lk (lv : im_L) (k : Nat) : Option Value := (lv.find? (fun q => q.1 == k)).map (·.2)
def im_pt (lv : im_L) (k : Nat) (v : Value) : im_L := (k, v) :: lv.filter (fun q => !(q.1 == k) && !(q.1 + 1 == k && q.2.category == 2))
-- what stands on the stack
def im_1i : List Value → Option (Int32 × List Value)
  | .int x :: r => some (x, r)
  | _ => none
def im_1l : List Value → Option (Int64 × List Value)
  | .long x :: r => some (x, r)
  | _ => none
def im_1r : List Value → Option (Nat × List Value)
  | .ref a :: r => some (a, r)
  | _ => none
def im_pop : List Value → Option (Value × List Value)
  | v :: r => some (v, r)
  | _ => none
def im_1v (v : Value) : Option Int32 := match v with
  | .int x => some x
  | _ => none
-- cells
def im_obj (h : im_H) (r ci : Nat) : Option (List Value) :=
  if 16 ≤ r then
    match h[r - 16]? with
    | some (.inr (c, fs)) => if c = ci then some fs else none
    | _ => none
  else none
def im_ia (h : im_H) (r t : Nat) : Option (List Int32) :=
  if 16 ≤ r then
    match h[r - 16]? with
    | some (.inl (c, .inl l)) => if c = t then some l else none
    | _ => none
  else none
def im_la (h : im_H) (r : Nat) : Option (List Int64) :=
  if 16 ≤ r then
    match h[r - 16]? with
    | some (.inl (c, .inr (.inl l))) => if c = 2 then some l else none
    | _ => none
  else none
def im_qa (h : im_H) (r : Nat) : Option (Nat × List (Option Nat)) :=
  if 16 ≤ r then
    match h[r - 16]? with
    | some (.inl (t, .inr (.inr l))) => some (t, l)
    | _ => none
  else none
def im_len (h : im_H) (r : Nat) : Option Nat :=
  if 16 ≤ r then
    match h[r - 16]? with
    | some (.inl (t, .inl l)) => if t < 2 then some l.length else none
    | some (.inl (t, .inr (.inl l))) => if t = 2 then some l.length else none
    | some (.inl (t, .inr (.inr l))) => if 3 ≤ t ∧ t < 8 then some l.length else none
    | _ => none
  else none
/-- is i a place of a row of n -/
def im_in (i : Int32) (n : Nat) : Bool := !(decide (i < 0) || decide (n ≤ i.toNatClampNeg))
def im_rf (o : Option Nat) : Value := match o with
  | some r => .ref r
  | none => .null
/-- may v lie in a field of this type as it is -/
def im_fit (ty : FieldType) (v : Value) : Bool := match ty, v with
  | .int, .int _ => true
  | .boolean, .int x => decide (x = 0) || decide (x = 1)
  | .array _, .ref _ => true
  | .array _, .null => true
  | .object _, .ref _ => true
  | .object _, .null => true
  | _, _ => false
def im_cat (st : List Value) : Bool := decide ((st.map fun v => v.category).sum ≤ 8)
/-- the first n of a stack, the deepest first, and the rest -/
def im_take (n : Nat) (st : List Value) : Option (List Value × List Value) := if n ≤ st.length then some ((st.take n).reverse, st.drop n) else none
def im_nx (pc : Nat) (lv : im_L) (st : List Value) (h : im_H) : Option im_O := some (.inl (pc, lv, st, h))
def im_bin (pc : Nat) (lv : im_L) (st : List Value) (h : im_H) (f : Int32 → Int32 → Option Int32) : Option im_O :=
  (im_1i st).bind fun q => (im_1i q.2).bind fun w => (f w.1 q.1).bind fun z => im_nx (pc + 1) lv (.int z :: w.2) h
def im_binl (pc : Nat) (lv : im_L) (st : List Value) (h : im_H) (f : Int64 → Int64 → Value) : Option im_O :=
  (im_1l st).bind fun q => (im_1l q.2).bind fun w => im_nx (pc + 1) lv (f w.1 q.1 :: w.2) h
def im_shl (pc : Nat) (lv : im_L) (st : List Value) (h : im_H) (f : Int64 → Int32 → Int64) : Option im_O :=
  (im_1i st).bind fun q => (im_1l q.2).bind fun w => im_nx (pc + 1) lv (.long (f w.1 q.1) :: w.2) h
def im_un (pc : Nat) (lv : im_L) (st : List Value) (h : im_H) (f : Int32 → Value) : Option im_O :=
  (im_1i st).bind fun q => im_nx (pc + 1) lv (f q.1 :: q.2) h
def im_cnd (cnd : ClassFile.Cond) (x y : Int32) : Bool := match cnd with
  | .eq => decide (x = y)
  | .ne => decide (¬ x = y)
  | .lt => decide (x < y)
  | .ge => decide (y ≤ x)
  | .gt => decide (y < x)
  | .le => decide (x ≤ y)
def im_ld (pc : Nat) (lv : im_L) (st : List Value) (h : im_H) (k : Nat) : Option im_O := (im_lk lv k).bind fun v => im_nx pc lv (v :: st) h
def im_isI (v : Value) : Bool := match v with
  | .int _ => true
  | _ => false
def im_isL (v : Value) : Bool := match v with
  | .long _ => true
  | _ => false
def im_isR (v : Value) : Bool := match v with
  | .ref _ => true
  | _ => false
/-- what the interpreter knows beside the cells: the static rows by their places, the classes' field types, the long constants, the texts -/
abbrev im_K : Type := List (List Int32) × List (List FieldType) × List Int64 × List (List Int32)
def im_cpy {α : Type} (l0 l1 : List α) (sp dp n : Nat) : List α := l1.take dp ++ ((l0.drop sp).take n ++ l1.drop (dp + n))
def im_bits (l : List Int32) : Bool := l.all (fun x => decide (x = 0) || decide (x = 1))
/-- System.arraycopy, rows of ints (t = 0) or of booleans (t = 1) -/
def im_copy (pc : Nat) (lv : im_L) (st : List Value) (h : im_H) (t : Nat) : Option im_O :=
  (im_1i st).bind fun n => (im_1i n.2).bind fun dp => (im_1r dp.2).bind fun d => (im_1i d.2).bind fun sp => (im_1r sp.2).bind fun s0 =>
  (im_ia h s0.1 t).bind fun l0 => (im_ia h d.1 t).bind fun l1 =>
  if !(decide (n.1 < 0)) && !(decide (dp.1 < 0)) && !(decide (sp.1 < 0)) && decide (sp.1.toNatClampNeg + n.1.toNatClampNeg ≤ l0.length) && decide (dp.1.toNatClampNeg + n.1.toNatClampNeg ≤ l1.length) && (t == 0 || im_bits l0) && im_cat s0.2 then
    im_nx (pc + 3) lv s0.2 (h.set (d.1 - 16) (.inl (t, .inl (im_cpy l0 l1 sp.1.toNatClampNeg dp.1.toNatClampNeg n.1.toNatClampNeg))))
  else none
def im_ret (ret : Option FieldType) (st : List Value) : Option im_O :=
  (im_1i st).bind fun q => match ret, q.2 with
  | some .int, [] => some (.inr (.inr (some (.int q.1))))
  | some .boolean, [] => if q.1 = 0 ∨ q.1 = 1 then some (.inr (.inr (some (.int q.1)))) else none
  | _, _ => none
/-- the outer row of new int[N][K] -/
def im_mul (a N : Nat) : List (Option Nat) := (List.range N).map (fun i => some (a + 1 + i))
def im_ins (K : im_K) (M : im_M) (i : Instr) (a b w z : Nat) (pc : Nat) (lv : im_L) (st : List Value) (h : im_H) : Option im_O :=
  match i with
  | .aload_n k => (im_lk lv k).bind fun v => if im_isR v then im_nx (pc + 1) lv (v :: st) h else none
  | .aload k => (im_lk lv k).bind fun v => if im_isR v then im_nx (pc + 2) lv (v :: st) h else none
  | .iload_n k => (im_lk lv k).bind fun v => if im_isI v then im_nx (pc + 1) lv (v :: st) h else none
  | .iload k => (im_lk lv k).bind fun v => if im_isI v then im_nx (pc + 2) lv (v :: st) h else none
  | .lload_n k => (im_lk lv k).bind fun v => if im_isL v then im_nx (pc + 1) lv (v :: st) h else none
  | .iconst n => im_nx (pc + 1) lv (.int (Int32.ofInt n) :: st) h
  | .bipush n => im_nx (pc + 2) lv (.int (Int8.ofInt n).toInt32 :: st) h
  | .sipush n => im_nx (pc + 3) lv (.int (Int16.ofInt n).toInt32 :: st) h
  | .aconst_null => im_nx (pc + 1) lv (.null :: st) h
  | .ldc _ => if a < 4 then im_nx (pc + 2) lv (.ref (6 + a) :: st) h else none
  | .ldc2_w _ => (K.2.2.1[a]?).bind fun x => im_nx (pc + 3) lv (.long x :: st) h
  | .istore_n k => (im_1i st).bind fun q => if k < M.2.2.1 then im_nx (pc + 1) (im_pt lv k (.int q.1)) q.2 h else none
  | .istore k => (im_1i st).bind fun q => if k < M.2.2.1 then im_nx (pc + 2) (im_pt lv k (.int q.1)) q.2 h else none
  | .astore_n k => (im_1r st).bind fun q => if k < M.2.2.1 then im_nx (pc + 1) (im_pt lv k (.ref q.1)) q.2 h else none
  | .astore k => (im_1r st).bind fun q => if k < M.2.2.1 then im_nx (pc + 2) (im_pt lv k (.ref q.1)) q.2 h else none
  | .iinc k n => (im_lk lv k).bind fun v => (im_1v v).bind fun x => if k < M.2.2.1 then im_nx (pc + 3) (im_pt lv k (.int (x + Int32.ofInt n))) st h else none
  | .pop => (im_pop st).bind fun q => if q.1.category = 1 then im_nx (pc + 1) lv q.2 h else none
  | .pop2 => (im_pop st).bind fun q => if q.1.category = 2 then im_nx (pc + 1) lv q.2 h else none
  | .dup => (im_pop st).bind fun q => if q.1.category = 1 then im_nx (pc + 1) lv (q.1 :: q.1 :: q.2) h else none
  | .dup2 => (im_pop st).bind fun q => (im_pop q.2).bind fun u => if q.1.category = 1 ∧ u.1.category = 1 then im_nx (pc + 1) lv (q.1 :: u.1 :: q.1 :: u.1 :: u.2) h else none
  | .iadd => im_bin pc lv st h fun x y => some (x + y)
  | .isub => im_bin pc lv st h fun x y => some (x - y)
  | .imul => im_bin pc lv st h fun x y => some (x * y)
  | .iand => im_bin pc lv st h fun x y => some (x &&& y)
  | .ior => im_bin pc lv st h fun x y => some (x ||| y)
  | .ishl => im_bin pc lv st h fun x y => some (x <<< (y &&& 31))
  | .ishr => im_bin pc lv st h fun x y => some (x >>> (y &&& 31))
  | .idiv => im_bin pc lv st h fun x y => if y = 0 then none else some (x / y)
  | .irem => im_bin pc lv st h fun x y => if y = 0 then none else some (x - x / y * y)
  | .land => im_binl pc lv st h fun x y => .long (x &&& y)
  | .lor => im_binl pc lv st h fun x y => .long (x ||| y)
  | .lcmp => im_binl pc lv st h fun x y => .int (lg_cmp x y)
  | .lshl => im_shl pc lv st h fun x y => x <<< (y.toInt64 &&& 63)
  | .lshr => im_shl pc lv st h fun x y => x >>> (y.toInt64 &&& 63)
  | .i2l => im_un pc lv st h fun x => .long x.toInt64
  | .i2b => im_un pc lv st h fun x => .int x.toInt8.toInt32
  | .i2s => im_un pc lv st h fun x => .int x.toInt16.toInt32
  | .l2i => (im_1l st).bind fun q => im_nx (pc + 1) lv (.int q.1.toInt32 :: q.2) h
  | .ifCond cnd _ => (im_1i st).bind fun q => im_nx (bif im_cnd cnd q.1 0 then a else pc + 3) lv q.2 h
  | .if_icmp cnd _ => (im_1i st).bind fun q => (im_1i q.2).bind fun u => im_nx (bif im_cnd cnd u.1 q.1 then a else pc + 3) lv u.2 h
  | .ifnonnull _ => match st with
    | .ref _ :: r => im_nx a lv r h
    | .null :: r => im_nx (pc + 3) lv r h
    | _ => none
  | .goto _ => im_nx a lv st h
  | .tableswitch dflt lo hi offs => (im_1i st).bind fun q =>
      if q.1.toInt < lo ∨ hi < q.1.toInt then (if (pc : Int) + dflt = (a : Int) then im_nx a lv q.2 h else none)
      else (offs[(q.1.toInt - lo).toNat]?).bind fun off => if (pc : Int) + off = ((((pc : Int) + off).toNat : Nat) : Int) then im_nx ((pc : Int) + off).toNat lv q.2 h else none
  | .lookupswitch dflt ps => (im_1i st).bind fun q =>
      if (ps.toList.zip (ps.toList.drop 1)).all (fun (a, next) => a.1 < next.1) = true ∧ (pc : Int) + Op.lookupswitch.offset ps.toList dflt q.1.toInt = ((((pc : Int) + Op.lookupswitch.offset ps.toList dflt q.1.toInt).toNat : Nat) : Int) then im_nx ((pc : Int) + Op.lookupswitch.offset ps.toList dflt q.1.toInt).toNat lv q.2 h else none
  | .getfield _ => (im_1r st).bind fun q => (im_obj h q.1 a).bind fun fs => (fs[b]?).bind fun v => im_nx (pc + 3) lv (v :: q.2) h
  | .putfield _ => (im_pop st).bind fun v => (im_1r v.2).bind fun q => (im_obj h q.1 a).bind fun fs => (K.2.1[a]?).bind fun tys => (tys[b]?).bind fun ty =>
      if im_fit ty v.1 = true ∧ b < fs.length then im_nx (pc + 3) lv q.2 (h.set (q.1 - 16) (.inr (a, fs.set b v.1))) else none
  | .getstatic _ => if a < 5 then im_nx (pc + 3) lv (.ref a :: st) h else none
  | .new _ => (K.2.1[a]?).bind fun tys => im_nx (pc + 3) lv (.ref (16 + h.length) :: st) (h ++ [.inr (a, tys.map defaultValue)])
  | .newarray _ => (im_1i st).bind fun q => if q.1 < 0 ∨ 4096 < q.1.toNatClampNeg then none else
      match a with
      | 0 => im_nx (pc + 2) lv (.ref (16 + h.length) :: q.2) (h ++ [.inl (0, .inl (List.replicate q.1.toNatClampNeg 0))])
      | 1 => im_nx (pc + 2) lv (.ref (16 + h.length) :: q.2) (h ++ [.inl (1, .inl (List.replicate q.1.toNatClampNeg 0))])
      | 2 => im_nx (pc + 2) lv (.ref (16 + h.length) :: q.2) (h ++ [.inl (2, .inr (.inl (List.replicate q.1.toNatClampNeg 0)))])
      | _ => none
  | .anewarray _ => (im_1i st).bind fun q => if q.1 < 0 ∨ 4096 < q.1.toNatClampNeg then none else im_nx (pc + 3) lv (.ref (16 + h.length) :: q.2) (h ++ [.inl (a, .inr (.inr (List.replicate q.1.toNatClampNeg none)))])
  | .multianewarray _ _ => (im_1i st).bind fun k => (im_1i k.2).bind fun n => if k.1 < 0 ∨ 4096 < k.1.toNatClampNeg ∨ n.1 < 0 ∨ 4096 < n.1.toNatClampNeg then none else
      im_nx (pc + 4) lv (.ref (16 + h.length) :: n.2) ((h ++ [.inl (7, .inr (.inr (im_mul (16 + h.length) n.1.toNatClampNeg)))]) ++ List.replicate n.1.toNatClampNeg (.inl (0, .inl (List.replicate k.1.toNatClampNeg 0))))
  | .arraylength => (im_1r st).bind fun q => (if 16 ≤ q.1 then im_len h q.1 else (K.1[q.1]?).map List.length).bind fun n => im_nx (pc + 1) lv (.int (Int32.ofNat n) :: q.2) h
  | .iaload => (im_1i st).bind fun q => (im_1r q.2).bind fun r => (if 16 ≤ r.1 then im_ia h r.1 0 else K.1[r.1]?).bind fun l =>
      if im_in q.1 l.length then im_nx (pc + 1) lv (.int (l.getD q.1.toNatClampNeg 0) :: r.2) h else none
  | .baload => (im_1i st).bind fun q => (im_1r q.2).bind fun r => (im_ia h r.1 1).bind fun l =>
      if im_in q.1 l.length then im_nx (pc + 1) lv (.int (l.getD q.1.toNatClampNeg 0) :: r.2) h else none
  | .laload => (im_1i st).bind fun q => (im_1r q.2).bind fun r => (im_la h r.1).bind fun l =>
      if im_in q.1 l.length then im_nx (pc + 1) lv (.long (l.getD q.1.toNatClampNeg 0) :: r.2) h else none
  | .aaload => (im_1i st).bind fun q => (im_1r q.2).bind fun r => (im_qa h r.1).bind fun l =>
      if im_in q.1 l.2.length ∧ 3 ≤ l.1 ∧ l.1 < 8 then im_nx (pc + 1) lv (im_rf (l.2.getD q.1.toNatClampNeg none) :: r.2) h else none
  | .iastore => (im_1i st).bind fun x => (im_1i x.2).bind fun q => (im_1r q.2).bind fun r => (im_ia h r.1 0).bind fun l =>
      if im_in q.1 l.length then im_nx (pc + 1) lv r.2 (h.set (r.1 - 16) (.inl (0, .inl (l.set q.1.toNatClampNeg x.1)))) else none
  | .bastore => (im_1i st).bind fun x => (im_1i x.2).bind fun q => (im_1r q.2).bind fun r => (im_ia h r.1 1).bind fun l =>
      if im_in q.1 l.length ∧ (x.1 = 0 ∨ x.1 = 1) then im_nx (pc + 1) lv r.2 (h.set (r.1 - 16) (.inl (1, .inl (l.set q.1.toNatClampNeg x.1)))) else none
  | .lastore => (im_1l st).bind fun x => (im_1i x.2).bind fun q => (im_1r q.2).bind fun r => (im_la h r.1).bind fun l =>
      if im_in q.1 l.length then im_nx (pc + 1) lv r.2 (h.set (r.1 - 16) (.inl (2, .inr (.inl (l.set q.1.toNatClampNeg x.1))))) else none
  | .aastore => (im_1r st).bind fun x => (im_1i x.2).bind fun q => (im_1r q.2).bind fun r => (im_qa h r.1).bind fun l => (im_obj h x.1 (match l.1 with | 3 => 7 | 4 => 5 | 5 => 1 | 6 => 8 | _ => 99)).bind fun _ =>
      if im_in q.1 l.2.length ∧ 3 ≤ l.1 ∧ l.1 < 7 then im_nx (pc + 1) lv r.2 (h.set (r.1 - 16) (.inl (l.1, .inr (.inr (l.2.set q.1.toNatClampNeg (some x.1)))))) else none
  | .invokestatic _ => match b with
      | 0 => (im_take w st).bind fun q => if im_cat q.2 then some (.inr (.inl (a, q.1, q.2))) else none
      | 3 => im_copy pc lv st h z
      | 5 => (im_1i st).bind fun q => (im_1i q.2).bind fun u => if im_cat u.2 then im_nx (pc + 3) lv (.int (if u.1 < q.1 then q.1 else u.1) :: u.2) h else none
      | 6 => (im_1i st).bind fun q => (im_1i q.2).bind fun u => if im_cat u.2 then im_nx (pc + 3) lv (.int (if q.1 < u.1 then q.1 else u.1) :: u.2) h else none
      | _ => none
  | .invokespecial _ => match b with
      | 0 => (im_take w st).bind fun q => (im_1r q.2).bind fun r => if im_cat r.2 then some (.inr (.inl (a, .ref r.1 :: q.1, r.2))) else none
      | 4 => (im_1r st).bind fun r => if im_cat r.2 then im_nx (pc + 3) lv r.2 h else none
      | _ => none
  | .invokevirtual _ => match b with
      | 0 => (im_take w st).bind fun q => (im_1r q.2).bind fun r => (im_obj h r.1 z).bind fun _ => if im_cat r.2 then some (.inr (.inl (a, .ref r.1 :: q.1, r.2))) else none
      | 1 => (im_1r st).bind fun r => if 6 ≤ r.1 ∧ im_cat r.2 then (K.2.2.2[r.1 - 6]?).bind fun l => im_nx (pc + 3) lv (.int (Int32.ofNat l.length) :: r.2) h else none
      | 2 => (im_1i st).bind fun q => (im_1r q.2).bind fun r => if 6 ≤ r.1 ∧ im_cat r.2 then (K.2.2.2[r.1 - 6]?).bind fun l => if im_in q.1 l.length then im_nx (pc + 3) lv (.int (l.getD q.1.toNatClampNeg 0) :: r.2) h else none else none
      | _ => none
  | .ireturn => im_ret M.2.2.2.1 st
  | .lreturn => (im_1l st).bind fun q => match M.2.2.2.1, q.2 with
      | some .long, [] => some (.inr (.inr (some (.long q.1))))
      | _, _ => none
  | .return_ => match M.2.2.2.1, st with
      | none, [] => some (.inr (.inr none))
      | _, _ => none
  | _ => none
def im_step (K : im_K) (M : im_M) (c : im_C) : Option im_O :=
  match im_at M c.1 with
  | none => none
  | some q => im_ins K M q.1 (q.2.getD 0 0) (q.2.getD 1 0) (q.2.getD 2 0) (q.2.getD 3 0) c.1 c.2.1 c.2.2.1 c.2.2.2
/-- a body, with what calls do given -/
def im_run (K : im_K) (M : im_M) (call : Nat → List Value → im_H → Option (Option Value × im_H)) : Nat → im_C → Option (Option Value × im_H)
  | 0, _ => none
  | n + 1, c => match im_step K M c with
    | none => none
    | some (.inl c2) => im_run K M call n c2
    | some (.inr (.inl q)) => match call q.1 q.2.1 c.2.2.2 with
      | none => none
      | some r => im_run K M call n (c.1 + 3, c.2.1, r.1.toList ++ q.2.2, r.2)
    | some (.inr (.inr v)) => some (v, c.2.2.2)
/-- a method of the table, calls at most d deep -/
def im_call (K : im_K) (ms : List im_M) : Nat → Nat → Nat → List Value → im_H → Option (Option Value × im_H)
  | 0, _, _, _, _ => none
  | d + 1, f, j, as, h => match ms[j]? with
    | none => none
    | some M => if (lg_sl as).length ≤ M.2.2.1 then im_run K M (im_call K ms d f) f (0, lv_args 0 as, [], h) else none
/-- what a list of cells takes of the room -/
def im_sl1 (e : im_E) : Nat := match e with
  | .inl (_, .inl l) => l.length
  | .inl (_, .inr (.inl l)) => l.length
  | .inl (_, .inr (.inr l)) => l.length
  | .inr (_, fs) => fs.length
def im_sl (h : im_H) : Nat := (h.map im_sl1).sum
end
section
def im_lc : List Int64 := [-4611686018427387904, 2003792491, 1667330660, 1937006969, 126943973305959, 6383461, 7039342, 1752527476, 7824756, 2003398244, 6578553, 131320544716132, 543778336, 255, 4294967295]
def im_str : List (String × Nat × String) := [("RubbleCity$Tape", 32, "work card stay "), ("RubbleCity$Tape", 59, " if "), ("RubbleCity$Tape", 76, "strong age kin hurt wet wind day worked "), ("RubbleCity$Tape", 81, "< > = ")]
def im_txt : List (List Int32) := [[119, 111, 114, 107, 32, 99, 97, 114, 100, 32, 115, 116, 97, 121, 32], [32, 105, 102, 32], [115, 116, 114, 111, 110, 103, 32, 97, 103, 101, 32, 107, 105, 110, 32, 104, 117, 114, 116, 32, 119, 101, 116, 32, 119, 105, 110, 100, 32, 100, 97, 121, 32, 119, 111, 114, 107, 101, 100, 32], [60, 32, 62, 32, 61, 32]]
def im_fty : List (List FieldType) := [[.array .int, .int, .int, .array .int, .array .int, .array .int, .array .int, .array (.object "RubbleCity$Row"), .array (.object "RubbleCity$Rail"), .int, .array .int, .array .int, .object "RubbleCity$Order", .array .int], [.int, .array .int, .array .int, .array .int, .array .int, .array .int, .array .int], [.int, .array .int, .array .int, .array .int, .array .int, .array .int], [.int, .array .int, .array .int, .array .int], [.int, .array (.array .int), .array .int, .array .int, .array .int, .array .boolean], [.int, .int, .int, .int], [.int, .array .int, .array .int, .array .int, .array .int, .int, .int, .int, .int], [.array .int, .int, .int, .int], [.int, .int, .array .int], [.int, .int, .int, .int, .int, .array .int, .array .int, .array .int, .array .int, .array .int, .array .int, .array .boolean, .array .int, .array .boolean, .array .boolean, .array .int, .array .int, .array .int], [.array .int, .int, .int], [.object "RubbleCity$City", .object "RubbleCity$State", .object "RubbleCity$State", .object "RubbleCity$State", .boolean, .object "RubbleCity$Tape", .array (.object "RubbleCity$Order"), .int, .int, .object "RubbleCity$Pulls", .object "RubbleCity$Rooms", .object "RubbleCity$Raids", .object "RubbleCity$Papers", .array (.object "RubbleCity$Sheet")], [.array .int, .array .int, .array .int, .boolean, .array .int, .array .int, .array .int, .array .int, .array .int, .int, .int, .array .int, .array .int, .array .int, .array .int, .array .int, .array .int, .array .int, .array .int, .array .int, .array .int, .int, .array .int, .array .int, .int, .array .int, .array .int, .array .int, .array .int, .int, .array .int, .array .int, .array .int, .array .int, .array .boolean, .int, .array .int, .array .int, .array .int, .array .int, .array .int, .int, .array .int, .int, .array .int, .int, .int, .int, .array .int, .array .int, .array .int, .array .int, .array .int, .array .int, .array .int, .array .int, .array .int, .array .int, .array .long, .array .int, .int, .int, .int, .array .int, .array .int, .array .int]]
def mX0_init : im_M := (yX0_init, cX0_init, 2, none, 0, 0, false, [289, 258, 288, 0], [[(0, .aload_n 0, []), (1, .invokespecial 3, [0, 4, 0, 0, 290]), (4, .aload_n 0, []), (5, .bipush 100, []), (7, .newarray .int, []), (9, .putfield 9, [0, 0, 0, 0, 350]), (12, .aload_n 0, []), (13, .iconst (-1), []), (14, .putfield 15, [0, 1, 0, 0, 352])],
  [(17, .aload_n 0, []), (18, .iconst 0, []), (19, .putfield 19, [0, 2, 0, 0, 354]), (22, .aload_n 0, []), (23, .bipush 24, []), (25, .newarray .int, []), (27, .putfield 22, [0, 3, 0, 0, 356]), (30, .aload_n 0, []), (31, .bipush 24, [])],
  [(33, .newarray .int, []), (35, .putfield 25, [0, 4, 0, 0, 358]), (38, .aload_n 0, []), (39, .bipush 24, []), (41, .newarray .int, []), (43, .putfield 28, [0, 5, 0, 0, 360]), (46, .aload_n 0, []), (47, .bipush 24, [])],
  [(49, .newarray .int, []), (51, .putfield 31, [0, 6, 0, 0, 362]), (54, .aload_n 0, []), (55, .iconst 4, []), (56, .anewarray 34, [3, 0, 0, 0, 291]), (59, .putfield 36, [0, 7, 0, 0, 364]), (62, .aload_n 0, []), (63, .iconst 3, [])],
  [(64, .anewarray 40, [4, 0, 0, 0, 293]), (67, .putfield 42, [0, 8, 0, 0, 366]), (70, .aload_n 0, []), (71, .iconst 0, []), (72, .putfield 46, [0, 9, 0, 0, 368]), (75, .aload_n 0, []), (76, .bipush 16, []), (78, .newarray .int, [])],
  [(80, .putfield 49, [0, 10, 0, 0, 370]), (83, .aload_n 0, []), (84, .bipush 16, []), (86, .newarray .int, []), (88, .putfield 52, [0, 11, 0, 0, 372]), (91, .aload_n 0, []), (92, .aconst_null, []), (93, .putfield 55, [0, 12, 0, 0, 374])],
  [(96, .aload_n 0, []), (97, .bipush 8, []), (99, .newarray .int, []), (101, .putfield 61, [0, 13, 0, 0, 376]), (104, .aload_n 0, []), (105, .getfield 9, [0, 0, 0, 0, 350]), (108, .iconst (-1), []), (109, .invokestatic 64, [197, 0, 2, 99, 295])],
  [(112, .aload_n 0, []), (113, .getfield 31, [0, 6, 0, 0, 362]), (116, .iconst (-1), []), (117, .invokestatic 64, [197, 0, 2, 99, 295]), (120, .iconst 0, []), (121, .istore_n 1, []), (122, .iload_n 1, []), (123, .iconst 4, []), (124, .if_icmp .ge 22, [146]), (127, .aload_n 0, [])],
  [(128, .getfield 36, [0, 7, 0, 0, 364]), (131, .iload_n 1, []), (132, .new 34, [7, 0, 0, 0, 291]), (135, .dup, []), (136, .invokespecial 70, [39, 0, 0, 7, 299]), (139, .aastore, []), (140, .iinc 1 1, []), (143, .goto (-21), [122])],
  [(146, .iconst 0, []), (147, .istore_n 1, []), (148, .iload_n 1, []), (149, .iconst 3, []), (150, .if_icmp .ge 22, [172]), (153, .aload_n 0, []), (154, .getfield 42, [0, 8, 0, 0, 366]), (157, .iload_n 1, []), (158, .new 40, [5, 0, 0, 0, 293])],
  [(161, .dup, []), (162, .invokespecial 71, [35, 0, 0, 5, 325]), (165, .aastore, []), (166, .iinc 1 1, []), (169, .goto (-21), [148]), (172, .return_, [])]])
def mX0_setHands : im_M := (yX0_setHands, cX0_setHands, 4, none, 0, 2, false, [841, 258, 839, 840], [[(0, .iconst 0, []), (1, .istore_n 3, []), (2, .iload_n 3, []), (3, .bipush 24, []), (5, .if_icmp .ge 26, [31]), (8, .aload_n 0, []), (9, .getfield 31, [0, 6, 0, 0, 362]), (12, .iload_n 3, []), (13, .iaload, []), (14, .iload_n 1, []), (15, .if_icmp .ne 10, [25])],
  [(18, .aload_n 0, []), (19, .getfield 31, [0, 6, 0, 0, 362]), (22, .iload_n 3, []), (23, .iconst (-1), []), (24, .iastore, []), (25, .iinc 3 1, []), (28, .goto (-26), [2]), (31, .aload_n 0, [])],
  [(32, .getfield 36, [0, 7, 0, 0, 364]), (35, .iload_n 1, []), (36, .aaload, []), (37, .aload_n 2, []), (38, .getfield 72, [8, 1, 0, 0, 714]), (41, .putfield 77, [7, 1, 0, 0, 306]), (44, .iconst 0, []), (45, .istore_n 3, []), (46, .iload_n 3, []), (47, .aload_n 2, [])],
  [(48, .getfield 72, [8, 1, 0, 0, 714]), (51, .if_icmp .ge 38, [89]), (54, .aload_n 0, []), (55, .getfield 36, [0, 7, 0, 0, 364]), (58, .iload_n 1, []), (59, .aaload, []), (60, .getfield 78, [7, 0, 0, 0, 304]), (63, .iload_n 3, [])],
  [(64, .aload_n 2, []), (65, .getfield 81, [8, 2, 0, 0, 717]), (68, .iload_n 3, []), (69, .iaload, []), (70, .iastore, []), (71, .aload_n 0, []), (72, .getfield 31, [0, 6, 0, 0, 362]), (75, .aload_n 2, []), (76, .getfield 81, [8, 2, 0, 0, 717]), (79, .iload_n 3, [])],
  [(80, .iaload, []), (81, .iload_n 1, []), (82, .iastore, []), (83, .iinc 3 1, []), (86, .goto (-40), [46]), (89, .return_, [])]])
def mX0_weakOf : im_M := (yX0_weakOf, cX0_weakOf, 2, (some .int), 0, 1, false, [1035, 258, 1033, 1034], [[(0, .aload_n 0, []), (1, .getfield 9, [0, 0, 0, 0, 350]), (4, .iload_n 1, []), (5, .iaload, []), (6, .iconst (-1), []), (7, .if_icmp .ne 7, [14]), (10, .iconst 3, []), (11, .goto 13, [24]), (14, .getstatic 84, [3, 1, 0, 0, 1036])],
  [(17, .aload_n 0, []), (18, .getfield 9, [0, 0, 0, 0, 350]), (21, .iload_n 1, []), (22, .iaload, []), (23, .iaload, []), (24, .ireturn, [])]])
def mX0_said : im_M := (yX0_said, cX0_said, 5, (some .int), 0, 3, false, [964, 258, 962, 963], [[(0, .aload_n 0, []), (1, .getfield 55, [0, 12, 0, 0, 374]), (4, .ifnonnull 23, [27]), (7, .iload_n 3, []), (8, .ifCond .ne 8, [16]), (11, .bipush 8, []), (13, .goto 13, [26])],
  [(16, .iload_n 3, []), (17, .iconst 1, []), (18, .if_icmp .ne 7, [25]), (21, .iconst 1, []), (22, .goto 4, [26]), (25, .iconst 0, []), (26, .ireturn, []), (27, .aload_n 0, []), (28, .getfield 61, [0, 13, 0, 0, 376]), (31, .iconst 0, [])],
  [(32, .aload_n 0, []), (33, .getfield 22, [0, 3, 0, 0, 356]), (36, .iload_n 2, []), (37, .iaload, []), (38, .iastore, []), (39, .aload_n 0, []), (40, .getfield 61, [0, 13, 0, 0, 376]), (43, .iconst 1, []), (44, .aload_n 0, []), (45, .getfield 25, [0, 4, 0, 0, 358])],
  [(48, .iload_n 2, []), (49, .iaload, []), (50, .iastore, []), (51, .aload_n 0, []), (52, .getfield 61, [0, 13, 0, 0, 376]), (55, .iconst 2, []), (56, .aload_n 0, []), (57, .getfield 28, [0, 5, 0, 0, 360]), (60, .iload_n 2, []), (61, .iaload, []), (62, .iastore, []), (63, .aload_n 0, [])],
  [(64, .getfield 61, [0, 13, 0, 0, 376]), (67, .iconst 3, []), (68, .aload_n 1, []), (69, .getfield 87, [9, 8, 0, 0, 439]), (72, .iload_n 2, []), (73, .iaload, []), (74, .iastore, []), (75, .aload_n 0, []), (76, .getfield 61, [0, 13, 0, 0, 376]), (79, .iconst 4, [])],
  [(80, .aload_n 1, []), (81, .getfield 92, [9, 1, 0, 0, 417]), (84, .iastore, []), (85, .aload_n 0, []), (86, .getfield 61, [0, 13, 0, 0, 376]), (89, .iconst 5, []), (90, .aload_n 1, []), (91, .getfield 95, [9, 2, 0, 0, 420]), (94, .iastore, []), (95, .aload_n 0, [])],
  [(96, .getfield 61, [0, 13, 0, 0, 376]), (99, .bipush 6, []), (101, .aload_n 1, []), (102, .getfield 98, [9, 0, 0, 0, 414]), (105, .iastore, []), (106, .aload_n 0, []), (107, .getfield 61, [0, 13, 0, 0, 376]), (110, .bipush 7, [])],
  [(112, .aload_n 1, []), (113, .getfield 101, [9, 9, 0, 0, 442]), (116, .iload_n 2, []), (117, .iaload, []), (118, .iastore, []), (119, .iconst 0, []), (120, .istore 4, []), (122, .iload 4, []), (124, .aload_n 0, []), (125, .getfield 55, [0, 12, 0, 0, 374])],
  [(128, .getfield 104, [1, 0, 0, 0, 675]), (131, .if_icmp .ge 50, [181]), (134, .aload_n 0, []), (135, .getfield 55, [0, 12, 0, 0, 374]), (138, .getfield 105, [1, 1, 0, 0, 678]), (141, .iload 4, []), (143, .iaload, [])],
  [(144, .iload_n 3, []), (145, .if_icmp .ne 30, [175]), (148, .aload_n 0, []), (149, .getfield 55, [0, 12, 0, 0, 374]), (152, .iload 4, []), (154, .aload_n 0, []), (155, .getfield 61, [0, 13, 0, 0, 376]), (158, .invokevirtual 108, [18, 0, 2, 1, 965])],
  [(161, .ifCond .eq 14, [175]), (164, .aload_n 0, []), (165, .getfield 55, [0, 12, 0, 0, 374]), (168, .getfield 112, [1, 2, 0, 0, 681]), (171, .iload 4, []), (173, .iaload, []), (174, .ireturn, []), (175, .iinc 4 1, [])],
  [(178, .goto (-56), [122]), (181, .iconst 0, []), (182, .ireturn, [])]])
def mX0_passes : im_M := (yX0_passes, cX0_passes, 4, (some .int), 0, 2, false, [984, 258, 982, 983], [[(0, .aload_n 1, []), (1, .getfield 113, [9, 11, 0, 0, 449]), (4, .iload_n 2, []), (5, .baload, []), (6, .ifCond .ne 13, [19]), (9, .aload_n 0, []), (10, .aload_n 1, []), (11, .iload_n 2, []), (12, .iconst 2, []), (13, .invokevirtual 117, [3, 0, 3, 0, 985])],
  [(16, .ifCond .eq 5, [21]), (19, .iconst 0, []), (20, .ireturn, []), (21, .aload_n 0, []), (22, .aload_n 1, []), (23, .iload_n 2, []), (24, .iconst 0, []), (25, .invokevirtual 117, [3, 0, 3, 0, 985]), (28, .bipush 14, []), (30, .invokestatic 121, [0, 6, 2, 0, 986])],
  [(33, .istore_n 3, []), (34, .iload_n 3, []), (35, .aload_n 0, []), (36, .getfield 22, [0, 3, 0, 0, 356]), (39, .iload_n 2, []), (40, .iaload, []), (41, .aload_n 1, []), (42, .getfield 87, [9, 8, 0, 0, 439]), (45, .iload_n 2, []), (46, .iaload, []), (47, .isub, [])],
  [(48, .iconst 0, []), (49, .invokestatic 127, [0, 5, 2, 0, 989]), (52, .imul, []), (53, .ireturn, [])]])
def mX0_cellByDay : im_M := (yX0_cellByDay, cX0_cellByDay, 4, (some .int), 0, 2, false, [1045, 258, 1043, 1044], [[(0, .aload_n 0, []), (1, .getfield 31, [0, 6, 0, 0, 362]), (4, .iload_n 2, []), (5, .iaload, []), (6, .istore_n 3, []), (7, .iload_n 3, []), (8, .iconst (-1), []), (9, .if_icmp .eq 24, [33]), (12, .aload_n 0, []), (13, .aload_n 1, []), (14, .iload_n 2, []), (15, .invokevirtual 130, [4, 0, 2, 0, 981])],
  [(18, .ifCond .le 15, [33]), (21, .aload_n 0, []), (22, .getfield 36, [0, 7, 0, 0, 364]), (25, .iload_n 3, []), (26, .aaload, []), (27, .getfield 134, [7, 2, 0, 0, 309]), (30, .goto 9, [39])],
  [(33, .aload_n 1, []), (34, .getfield 137, [9, 7, 0, 0, 437]), (37, .iload_n 2, []), (38, .iaload, []), (39, .ireturn, [])]])
def mX0_livingKin : im_M := (yX0_livingKin, cX0_livingKin, 5, (some .int), 0, 2, false, [1234, 258, 1232, 1233], [[(0, .iconst 0, []), (1, .istore_n 3, []), (2, .iconst 0, []), (3, .istore 4, []), (5, .iload 4, []), (7, .aload_n 0, []), (8, .getfield 19, [0, 2, 0, 0, 354]), (11, .if_icmp .ge 48, [59]), (14, .iload 4, [])],
  [(16, .iload_n 2, []), (17, .if_icmp .eq 36, [53]), (20, .aload_n 0, []), (21, .getfield 28, [0, 5, 0, 0, 360]), (24, .iload 4, []), (26, .iaload, []), (27, .aload_n 0, []), (28, .getfield 28, [0, 5, 0, 0, 360]), (31, .iload_n 2, [])],
  [(32, .iaload, []), (33, .if_icmp .ne 20, [53]), (36, .aload_n 1, []), (37, .getfield 113, [9, 11, 0, 0, 449]), (40, .iload 4, []), (42, .baload, []), (43, .ifCond .ne 10, [53]), (46, .iload_n 3, []), (47, .iconst 1, [])],
  [(48, .iload 4, []), (50, .ishl, []), (51, .ior, []), (52, .istore_n 3, []), (53, .iinc 4 1, []), (56, .goto (-51), [5]), (59, .iload_n 3, []), (60, .ireturn, [])]])
def mX0_playDay : im_M := (yX0_playDay, cX0_playDay, 3, none, 0, 1, false, [976, 258, 974, 975], [[(0, .iconst 0, []), (1, .istore_n 2, []), (2, .iload_n 2, []), (3, .iconst 4, []), (4, .if_icmp .ge 15, [19]), (7, .aload_n 0, []), (8, .aload_n 1, []), (9, .iload_n 2, []), (10, .invokevirtual 140, [8, 0, 2, 0, 977]), (13, .iinc 2 1, [])],
  [(16, .goto (-14), [2]), (19, .iconst 0, []), (20, .istore_n 2, []), (21, .iload_n 2, []), (22, .iconst 3, []), (23, .if_icmp .ge 15, [38]), (26, .aload_n 0, []), (27, .aload_n 1, []), (28, .iload_n 2, []), (29, .invokevirtual 144, [11, 0, 2, 0, 1004])],
  [(32, .iinc 2 1, []), (35, .goto (-14), [21]), (38, .iconst 0, []), (39, .istore_n 2, []), (40, .iload_n 2, []), (41, .aload_n 0, []), (42, .getfield 46, [0, 9, 0, 0, 368]), (45, .if_icmp .ge 34, [79])],
  [(48, .aload_n 1, []), (49, .getfield 147, [9, 13, 0, 0, 455]), (52, .iload_n 2, []), (53, .baload, []), (54, .ifCond .eq 19, [73]), (57, .aload_n 0, []), (58, .aload_n 1, []), (59, .iload_n 2, []), (60, .invokevirtual 150, [13, 0, 2, 0, 1024]), (63, .ifCond .eq 10, [73])],
  [(66, .aload_n 0, []), (67, .aload_n 1, []), (68, .iload_n 2, []), (69, .invokevirtual 154, [14, 0, 2, 0, 1038]), (72, .pop, []), (73, .iinc 2 1, []), (76, .goto (-36), [40]), (79, .iconst 0, [])],
  [(80, .istore_n 2, []), (81, .iload_n 2, []), (82, .aload_n 0, []), (83, .getfield 19, [0, 2, 0, 0, 354]), (86, .if_icmp .ge 39, [125]), (89, .aload_n 1, []), (90, .getfield 113, [9, 11, 0, 0, 449]), (93, .iload_n 2, []), (94, .baload, []), (95, .ifCond .ne 24, [119])],
  [(98, .aload_n 1, []), (99, .getfield 157, [9, 10, 0, 0, 445]), (102, .iload_n 2, []), (103, .dup2, []), (104, .iaload, []), (105, .aload_n 0, []), (106, .aload_n 1, []), (107, .iload_n 2, []), (108, .iconst 1, []), (109, .invokevirtual 117, [3, 0, 3, 0, 985])],
  [(112, .bipush 9, []), (114, .invokestatic 121, [0, 6, 2, 0, 986]), (117, .iadd, []), (118, .iastore, []), (119, .iinc 2 1, []), (122, .goto (-41), [81]), (125, .aload_n 1, []), (126, .getfield 98, [9, 0, 0, 0, 414])],
  [(129, .bipush 7, []), (131, .irem, []), (132, .bipush 6, []), (134, .if_icmp .ne 8, [142]), (137, .aload_n 0, []), (138, .aload_n 1, []), (139, .invokevirtual 160, [15, 0, 1, 0, 1046]), (142, .aload_n 1, []), (143, .dup, [])],
  [(144, .getfield 98, [9, 0, 0, 0, 414]), (147, .iconst 1, []), (148, .iadd, []), (149, .putfield 98, [9, 0, 0, 0, 414]), (152, .return_, [])]])
def mX0_workRow : im_M := (yX0_workRow, cX0_workRow, 7, none, 0, 2, false, [980, 258, 978, 979], [[(0, .aload_n 0, []), (1, .getfield 36, [0, 7, 0, 0, 364]), (4, .iload_n 2, []), (5, .aaload, []), (6, .astore_n 3, []), (7, .aload_n 1, []), (8, .getfield 164, [9, 15, 0, 0, 460]), (11, .iload_n 2, []), (12, .iconst 0, []), (13, .iastore, []), (14, .aload_n 1, []), (15, .getfield 167, [9, 16, 0, 0, 463])],
  [(18, .iload_n 2, []), (19, .iconst (-1), []), (20, .iastore, []), (21, .iconst 0, []), (22, .istore 4, []), (24, .iconst 0, []), (25, .istore 5, []), (27, .iload 5, []), (29, .aload_n 3, []), (30, .getfield 77, [7, 1, 0, 0, 306])],
  [(33, .if_icmp .ge 52, [85]), (36, .aload_n 0, []), (37, .aload_n 1, []), (38, .aload_n 3, []), (39, .getfield 78, [7, 0, 0, 0, 304]), (42, .iload 5, []), (44, .iaload, []), (45, .invokevirtual 130, [4, 0, 2, 0, 981])],
  [(48, .istore 6, []), (50, .iload 5, []), (52, .ifCond .eq 10, [62]), (55, .iload 6, []), (57, .iload 4, []), (59, .if_icmp .ge 20, [79]), (62, .iload 6, [])],
  [(64, .istore 4, []), (66, .aload_n 1, []), (67, .getfield 167, [9, 16, 0, 0, 463]), (70, .iload_n 2, []), (71, .aload_n 3, []), (72, .getfield 78, [7, 0, 0, 0, 304]), (75, .iload 5, []), (77, .iaload, []), (78, .iastore, []), (79, .iinc 5 1, [])],
  [(82, .goto (-55), [27]), (85, .iload 4, []), (87, .aload_n 1, []), (88, .getfield 170, [9, 6, 0, 0, 434]), (91, .aload_n 3, []), (92, .getfield 134, [7, 2, 0, 0, 309]), (95, .iaload, [])],
  [(96, .invokestatic 121, [0, 6, 2, 0, 986]), (99, .istore 5, []), (101, .iload 5, []), (103, .ifCond .le 19, [122]), (106, .aload_n 0, []), (107, .aload_n 1, []), (108, .aload_n 3, []), (109, .iload 5, []), (111, .invokevirtual 173, [9, 0, 3, 0, 990])],
  [(114, .aload_n 1, []), (115, .getfield 164, [9, 15, 0, 0, 460]), (118, .iload_n 2, []), (119, .iload 5, []), (121, .iastore, []), (122, .return_, [])]])
def mX0_passOn : im_M := (yX0_passOn, cX0_passOn, 8, none, 0, 3, false, [993, 258, 991, 992], [[(0, .iload_n 3, []), (1, .bipush 10, []), (3, .idiv, []), (4, .istore 4, []), (6, .aload_n 0, []), (7, .getfield 9, [0, 0, 0, 0, 350]), (10, .aload_n 2, []), (11, .getfield 134, [7, 2, 0, 0, 309]), (14, .iaload, []), (15, .istore 5, [])],
  [(17, .iload 5, []), (19, .iconst (-1), []), (20, .if_icmp .eq 57, [77]), (23, .aload_n 1, []), (24, .getfield 177, [9, 5, 0, 0, 430]), (27, .iconst 0, []), (28, .dup2, []), (29, .iaload, []), (30, .iload 4, [])],
  [(32, .getstatic 180, [0, 1, 0, 0, 994]), (35, .iload 5, []), (37, .iaload, []), (38, .imul, []), (39, .iadd, []), (40, .iastore, []), (41, .aload_n 1, []), (42, .getfield 177, [9, 5, 0, 0, 430]), (45, .iconst 1, []), (46, .dup2, []), (47, .iaload, [])],
  [(48, .iload 4, []), (50, .getstatic 183, [1, 1, 0, 0, 996]), (53, .iload 5, []), (55, .iaload, []), (56, .imul, []), (57, .iadd, []), (58, .iastore, []), (59, .aload_n 1, []), (60, .getfield 177, [9, 5, 0, 0, 430]), (63, .iconst 2, [])],
  [(64, .dup2, []), (65, .iaload, []), (66, .iload 4, []), (68, .getstatic 186, [2, 1, 0, 0, 998]), (71, .iload 5, []), (73, .iaload, []), (74, .imul, []), (75, .iadd, []), (76, .iastore, []), (77, .aload_n 1, []), (78, .dup, []), (79, .getfield 189, [9, 4, 0, 0, 426])],
  [(82, .iload 4, []), (84, .iconst 4, []), (85, .imul, []), (86, .iadd, []), (87, .putfield 189, [9, 4, 0, 0, 426]), (90, .aload_n 1, []), (91, .getfield 170, [9, 6, 0, 0, 434]), (94, .aload_n 2, []), (95, .getfield 134, [7, 2, 0, 0, 309])],
  [(98, .dup2, []), (99, .iaload, []), (100, .iload_n 3, []), (101, .isub, []), (102, .iastore, []), (103, .aload_n 0, []), (104, .aload_n 1, []), (105, .aload_n 2, []), (106, .getfield 192, [7, 3, 0, 0, 313]), (109, .iload_n 3, []), (110, .iload 4, [])],
  [(112, .iconst 4, []), (113, .imul, []), (114, .isub, []), (115, .invokevirtual 195, [10, 0, 3, 0, 1000]), (118, .iconst 0, []), (119, .istore 6, []), (121, .iload 6, []), (123, .aload_n 2, []), (124, .getfield 77, [7, 1, 0, 0, 306]), (127, .if_icmp .ge 41, [168])],
  [(130, .aload_n 2, []), (131, .getfield 78, [7, 0, 0, 0, 304]), (134, .iload 6, []), (136, .iaload, []), (137, .istore 7, []), (139, .aload_n 1, []), (140, .getfield 101, [9, 9, 0, 0, 442]), (143, .iload 7, [])],
  [(145, .dup2, []), (146, .iaload, []), (147, .aload_n 0, []), (148, .aload_n 1, []), (149, .iload 7, []), (151, .iconst 0, []), (152, .invokevirtual 117, [3, 0, 3, 0, 985]), (155, .bipush 14, []), (157, .invokestatic 121, [0, 6, 2, 0, 986])],
  [(160, .iadd, []), (161, .iastore, []), (162, .iinc 6 1, []), (165, .goto (-44), [121]), (168, .return_, [])]])
def mX0_bring : im_M := (yX0_bring, cX0_bring, 4, none, 0, 3, false, [1003, 258, 1001, 1002], [[(0, .iload_n 2, []), (1, .aload_n 0, []), (2, .getfield 15, [0, 1, 0, 0, 352]), (5, .if_icmp .ne 16, [21]), (8, .aload_n 1, []), (9, .dup, []), (10, .getfield 199, [9, 3, 0, 0, 423]), (13, .iload_n 3, []), (14, .iadd, []), (15, .putfield 199, [9, 3, 0, 0, 423])],
  [(18, .goto 13, [31]), (21, .aload_n 1, []), (22, .getfield 170, [9, 6, 0, 0, 434]), (25, .iload_n 2, []), (26, .dup2, []), (27, .iaload, []), (28, .iload_n 3, []), (29, .iadd, []), (30, .iastore, []), (31, .return_, [])]])
def mX0_driveRail : im_M := (yX0_driveRail, cX0_driveRail, 5, none, 0, 2, false, [1007, 258, 1005, 1006], [[(0, .aload_n 0, []), (1, .getfield 42, [0, 8, 0, 0, 366]), (4, .iload_n 2, []), (5, .aaload, []), (6, .astore_n 3, []), (7, .aload_n 1, []), (8, .getfield 202, [9, 17, 0, 0, 466]), (11, .iload_n 2, []), (12, .iconst 0, []), (13, .iastore, []), (14, .aload_n 3, []), (15, .getfield 205, [5, 0, 0, 0, 331])],
  [(18, .iconst 2, []), (19, .if_icmp .ge 4, [23]), (22, .return_, []), (23, .bipush 60, []), (25, .aload_n 3, []), (26, .getfield 206, [5, 1, 0, 0, 334]), (29, .imul, []), (30, .aload_n 3, []), (31, .getfield 205, [5, 0, 0, 0, 331])],
  [(34, .iconst 1, []), (35, .isub, []), (36, .idiv, []), (37, .aload_n 1, []), (38, .getfield 170, [9, 6, 0, 0, 434]), (41, .aload_n 3, []), (42, .getfield 209, [5, 2, 0, 0, 337]), (45, .iaload, []), (46, .invokestatic 121, [0, 6, 2, 0, 986])],
  [(49, .istore 4, []), (51, .aload_n 1, []), (52, .getfield 202, [9, 17, 0, 0, 466]), (55, .iload_n 2, []), (56, .iload 4, []), (58, .iastore, []), (59, .aload_n 1, []), (60, .getfield 170, [9, 6, 0, 0, 434]), (63, .aload_n 3, [])],
  [(64, .getfield 209, [5, 2, 0, 0, 337]), (67, .dup2, []), (68, .iaload, []), (69, .iload 4, []), (71, .isub, []), (72, .iastore, []), (73, .aload_n 0, []), (74, .aload_n 1, []), (75, .aload_n 3, []), (76, .getfield 212, [5, 3, 0, 0, 340]), (79, .iload 4, [])],
  [(81, .invokevirtual 195, [10, 0, 3, 0, 1000]), (84, .return_, [])]])
def mX0_wearOf : im_M := (yX0_wearOf, cX0_wearOf, 3, (some .int), 0, 2, false, [1031, 258, 1029, 1030], [[(0, .aload_n 1, []), (1, .getfield 92, [9, 1, 0, 0, 417]), (4, .aload_n 0, []), (5, .aload_n 0, []), (6, .getfield 49, [0, 10, 0, 0, 370]), (9, .iload_n 2, []), (10, .iaload, []), (11, .invokevirtual 215, [2, 0, 1, 0, 1032]), (14, .imul, []), (15, .bipush 10, [])],
  [(17, .idiv, []), (18, .ireturn, [])]])
def mX0_wearsOut : im_M := (yX0_wearsOut, cX0_wearsOut, 3, (some .boolean), 0, 2, false, [1027, 258, 1025, 1026], [[(0, .aload_n 1, []), (1, .getfield 219, [9, 12, 0, 0, 452]), (4, .iload_n 2, []), (5, .dup2, []), (6, .iaload, []), (7, .aload_n 0, []), (8, .aload_n 1, []), (9, .iload_n 2, []), (10, .invokevirtual 222, [12, 0, 2, 0, 1028]), (13, .isub, []), (14, .iastore, []), (15, .aload_n 1, [])],
  [(16, .getfield 219, [9, 12, 0, 0, 452]), (19, .iload_n 2, []), (20, .iaload, []), (21, .iconst 3, []), (22, .aload_n 1, []), (23, .getfield 95, [9, 2, 0, 0, 420]), (26, .imul, []), (27, .if_icmp .gt 7, [34]), (30, .iconst 1, []), (31, .goto 4, [35])],
  [(34, .iconst 0, []), (35, .ireturn, [])]])
def mX0_fall : im_M := (yX0_fall, cX0_fall, 6, (some .int), 0, 2, false, [1041, 258, 1039, 1040], [[(0, .aload_n 0, []), (1, .getfield 52, [0, 11, 0, 0, 372]), (4, .iload_n 2, []), (5, .iaload, []), (6, .istore_n 3, []), (7, .iconst 0, []), (8, .istore 4, []), (10, .aload_n 1, []), (11, .getfield 147, [9, 13, 0, 0, 455]), (14, .iload_n 2, []), (15, .iconst 0, [])],
  [(16, .bastore, []), (17, .aload_n 1, []), (18, .getfield 170, [9, 6, 0, 0, 434]), (21, .iload_n 3, []), (22, .dup2, []), (23, .iaload, []), (24, .bipush 20, []), (26, .iadd, []), (27, .iastore, []), (28, .iconst 0, []), (29, .istore 5, []), (31, .iload 5, [])],
  [(33, .aload_n 0, []), (34, .getfield 19, [0, 2, 0, 0, 354]), (37, .if_icmp .ge 67, [104]), (40, .aload_n 0, []), (41, .aload_n 1, []), (42, .iload 5, []), (44, .invokevirtual 225, [5, 0, 2, 0, 1042]), (47, .iload_n 3, [])],
  [(48, .if_icmp .ne 50, [98]), (51, .aload_n 1, []), (52, .getfield 87, [9, 8, 0, 0, 439]), (55, .iload 5, []), (57, .dup2, []), (58, .iaload, []), (59, .iconst 3, []), (60, .iadd, []), (61, .iastore, []), (62, .iinc 4 3, [])],
  [(65, .aload_n 1, []), (66, .getfield 87, [9, 8, 0, 0, 439]), (69, .iload 5, []), (71, .iaload, []), (72, .bipush 9, []), (74, .if_icmp .lt 24, [98]), (77, .aload_n 1, []), (78, .getfield 113, [9, 11, 0, 0, 449])],
  [(81, .iload 5, []), (83, .baload, []), (84, .ifCond .ne 14, [98]), (87, .aload_n 1, []), (88, .getfield 113, [9, 11, 0, 0, 449]), (91, .iload 5, []), (93, .iconst 1, []), (94, .bastore, []), (95, .iinc 4 100, [])],
  [(98, .iinc 5 1, []), (101, .goto (-70), [31]), (104, .iload 4, []), (106, .ireturn, [])]])
def mX0_heal : im_M := (yX0_heal, cX0_heal, 3, none, 0, 1, false, [1049, 258, 1047, 1048], [[(0, .iconst 0, []), (1, .istore_n 2, []), (2, .iload_n 2, []), (3, .aload_n 0, []), (4, .getfield 19, [0, 2, 0, 0, 354]), (7, .if_icmp .ge 37, [44]), (10, .aload_n 1, []), (11, .getfield 113, [9, 11, 0, 0, 449]), (14, .iload_n 2, []), (15, .baload, [])],
  [(16, .ifCond .ne 22, [38]), (19, .aload_n 1, []), (20, .getfield 87, [9, 8, 0, 0, 439]), (23, .iload_n 2, []), (24, .iaload, []), (25, .ifCond .le 13, [38]), (28, .aload_n 1, []), (29, .getfield 87, [9, 8, 0, 0, 439])],
  [(32, .iload_n 2, []), (33, .dup2, []), (34, .iaload, []), (35, .iconst 1, []), (36, .isub, []), (37, .iastore, []), (38, .iinc 2 1, []), (41, .goto (-39), [2]), (44, .return_, [])]])
def mX0_daysUntilFall : im_M := (yX0_daysUntilFall, cX0_daysUntilFall, 4, (some .int), 0, 2, false, [1109, 258, 1107, 1108], [[(0, .iconst 1, []), (1, .istore_n 3, []), (2, .iload_n 3, []), (3, .bipush 6, []), (5, .if_icmp .gt 35, [40]), (8, .aload_n 1, []), (9, .getfield 219, [9, 12, 0, 0, 452]), (12, .iload_n 2, []), (13, .iaload, []), (14, .iload_n 3, []), (15, .aload_n 0, [])],
  [(16, .aload_n 1, []), (17, .iload_n 2, []), (18, .invokevirtual 222, [12, 0, 2, 0, 1028]), (21, .imul, []), (22, .isub, []), (23, .iconst 3, []), (24, .aload_n 1, []), (25, .getfield 95, [9, 2, 0, 0, 420]), (28, .imul, []), (29, .if_icmp .gt 5, [34])],
  [(32, .iload_n 3, []), (33, .ireturn, []), (34, .iinc 3 1, []), (37, .goto (-35), [2]), (40, .bipush 7, []), (42, .ireturn, [])]])
def mX1_init : im_M := (yX1_init, cX1_init, 1, none, 1, 0, false, [671, 268, 670, 0], [[(0, .aload_n 0, []), (1, .invokespecial 3, [0, 4, 0, 0, 672]), (4, .aload_n 0, []), (5, .iconst 0, []), (6, .putfield 9, [1, 0, 0, 0, 673]), (9, .aload_n 0, []), (10, .bipush 8, []), (12, .newarray .int, []), (14, .putfield 15, [1, 1, 0, 0, 676])],
  [(17, .aload_n 0, []), (18, .bipush 8, []), (20, .newarray .int, []), (22, .putfield 19, [1, 2, 0, 0, 679]), (25, .aload_n 0, []), (26, .bipush 8, []), (28, .newarray .int, []), (30, .putfield 22, [1, 3, 0, 0, 682])],
  [(33, .aload_n 0, []), (34, .bipush 24, []), (36, .newarray .int, []), (38, .putfield 25, [1, 4, 0, 0, 684]), (41, .aload_n 0, []), (42, .bipush 24, []), (44, .newarray .int, []), (46, .putfield 28, [1, 5, 0, 0, 686])],
  [(49, .aload_n 0, []), (50, .bipush 24, []), (52, .newarray .int, []), (54, .putfield 31, [1, 6, 0, 0, 688]), (57, .return_, [])]])
def mX1_holds : im_M := (yX1_holds, cX1_holds, 8, (some .boolean), 1, 2, false, [968, 268, 966, 967], [[(0, .iconst 0, []), (1, .istore_n 3, []), (2, .iload_n 3, []), (3, .aload_n 0, []), (4, .getfield 22, [1, 3, 0, 0, 682]), (7, .iload_n 1, []), (8, .iaload, []), (9, .if_icmp .ge 98, [107]), (12, .iconst 3, []), (13, .iload_n 1, []), (14, .imul, []), (15, .iload_n 3, [])],
  [(16, .iadd, []), (17, .istore 4, []), (19, .aload_n 2, []), (20, .aload_n 0, []), (21, .getfield 25, [1, 4, 0, 0, 684]), (24, .iload 4, []), (26, .iaload, []), (27, .iaload, []), (28, .istore 5, []), (30, .aload_n 0, []), (31, .getfield 31, [1, 6, 0, 0, 688])],
  [(34, .iload 4, []), (36, .iaload, []), (37, .istore 6, []), (39, .iload 5, []), (41, .iload 6, []), (43, .if_icmp .ne 22, [65]), (46, .aload_n 0, []), (47, .getfield 28, [1, 5, 0, 0, 686])],
  [(50, .iload 4, []), (52, .iaload, []), (53, .iconst 2, []), (54, .if_icmp .eq 7, [61]), (57, .iconst 1, []), (58, .goto 34, [92]), (61, .iconst 0, []), (62, .goto 30, [92])],
  [(65, .aload_n 0, []), (66, .getfield 28, [1, 5, 0, 0, 686]), (69, .iload 4, []), (71, .iaload, []), (72, .iload 5, []), (74, .iload 6, []), (76, .if_icmp .ge 7, [83]), (79, .iconst 0, [])],
  [(80, .goto 4, [84]), (83, .iconst 1, []), (84, .if_icmp .eq 7, [91]), (87, .iconst 1, []), (88, .goto 4, [92]), (91, .iconst 0, []), (92, .istore 7, []), (94, .iload 7, [])],
  [(96, .ifCond .eq 5, [101]), (99, .iconst 0, []), (100, .ireturn, []), (101, .iinc 3 1, []), (104, .goto (-102), [2]), (107, .iconst 1, []), (108, .ireturn, [])]])
def mX2_init : im_M := (yX2_init, cX2_init, 1, none, 2, 0, false, [638, 267, 637, 0], [[(0, .aload_n 0, []), (1, .invokespecial 3, [0, 4, 0, 0, 639]), (4, .aload_n 0, []), (5, .iconst 0, []), (6, .putfield 9, [2, 0, 0, 0, 641]), (9, .aload_n 0, []), (10, .bipush 24, []), (12, .newarray .int, []), (14, .putfield 15, [2, 1, 0, 0, 643])],
  [(17, .aload_n 0, []), (18, .bipush 24, []), (20, .newarray .int, []), (22, .putfield 19, [2, 2, 0, 0, 645]), (25, .aload_n 0, []), (26, .bipush 24, []), (28, .newarray .int, []), (30, .putfield 22, [2, 3, 0, 0, 647])],
  [(33, .aload_n 0, []), (34, .bipush 24, []), (36, .newarray .int, []), (38, .putfield 25, [2, 4, 0, 0, 649]), (41, .aload_n 0, []), (42, .bipush 24, []), (44, .newarray .int, []), (46, .putfield 28, [2, 5, 0, 0, 651])],
  [(49, .aload_n 0, []), (50, .getfield 28, [2, 5, 0, 0, 651]), (53, .iconst (-1), []), (54, .invokestatic 31, [197, 0, 2, 99, 640]), (57, .return_, [])]])
def mX2_ownerOf : im_M := (yX2_ownerOf, cX2_ownerOf, 7, (some .int), 2, 3, false, [1221, 267, 1219, 1220], [[(0, .iconst (-1), []), (1, .istore 4, []), (3, .iconst 0, []), (4, .istore 5, []), (6, .iload 5, []), (8, .aload_n 0, []), (9, .getfield 9, [2, 0, 0, 0, 641]), (12, .if_icmp .ge 80, [92]), (15, .aload_n 0, [])],
  [(16, .getfield 15, [2, 1, 0, 0, 643]), (19, .iload 5, []), (21, .iaload, []), (22, .iload_n 1, []), (23, .if_icmp .ne 28, [51]), (26, .aload_n 0, []), (27, .getfield 22, [2, 3, 0, 0, 647]), (30, .iload 5, [])],
  [(32, .iaload, []), (33, .iload_n 2, []), (34, .if_icmp .gt 17, [51]), (37, .aload_n 0, []), (38, .iload 5, []), (40, .iload_n 3, []), (41, .invokevirtual 37, [21, 0, 2, 2, 1222]), (44, .ifCond .eq 7, [51]), (47, .iconst 1, [])],
  [(48, .goto 4, [52]), (51, .iconst 0, []), (52, .istore 6, []), (54, .iload 6, []), (56, .ifCond .eq 30, [86]), (59, .iload 4, []), (61, .iconst (-1), []), (62, .if_icmp .eq 20, [82])],
  [(65, .aload_n 0, []), (66, .getfield 22, [2, 3, 0, 0, 647]), (69, .iload 5, []), (71, .iaload, []), (72, .aload_n 0, []), (73, .getfield 22, [2, 3, 0, 0, 647]), (76, .iload 4, []), (78, .iaload, []), (79, .if_icmp .lt 7, [86])],
  [(82, .iload 5, []), (84, .istore 4, []), (86, .iinc 5 1, []), (89, .goto (-83), [6]), (92, .iload 4, []), (94, .iconst (-1), []), (95, .if_icmp .ne 7, [102])],
  [(98, .iconst (-1), []), (99, .goto 10, [109]), (102, .aload_n 0, []), (103, .getfield 19, [2, 2, 0, 0, 645]), (106, .iload 4, []), (108, .iaload, []), (109, .ireturn, [])]])
def mX2_isKnown : im_M := (yX2_isKnown, cX2_isKnown, 3, (some .boolean), 2, 2, false, [1225, 267, 1223, 1224], [[(0, .aload_n 0, []), (1, .getfield 25, [2, 4, 0, 0, 649]), (4, .iload_n 1, []), (5, .iaload, []), (6, .iload_n 2, []), (7, .if_icmp .gt 27, [34]), (10, .aload_n 0, []), (11, .getfield 28, [2, 5, 0, 0, 651]), (14, .iload_n 1, []), (15, .iaload, [])],
  [(16, .iconst (-1), []), (17, .if_icmp .eq 13, [30]), (20, .aload_n 0, []), (21, .getfield 28, [2, 5, 0, 0, 651]), (24, .iload_n 1, []), (25, .iaload, []), (26, .iload_n 2, []), (27, .if_icmp .le 7, [34]), (30, .iconst 1, []), (31, .goto 4, [35])],
  [(34, .iconst 0, []), (35, .ireturn, [])]])
def mX3_init : im_M := (yX3_init, cX3_init, 1, none, 3, 0, false, [547, 264, 546, 0], [[(0, .aload_n 0, []), (1, .invokespecial 3, [0, 4, 0, 0, 548]), (4, .aload_n 0, []), (5, .iconst 0, []), (6, .putfield 9, [3, 0, 0, 0, 549]), (9, .aload_n 0, []), (10, .bipush 6, []), (12, .newarray .int, []), (14, .putfield 15, [3, 1, 0, 0, 551])],
  [(17, .aload_n 0, []), (18, .bipush 6, []), (20, .newarray .int, []), (22, .putfield 19, [3, 2, 0, 0, 553]), (25, .aload_n 0, []), (26, .bipush 6, []), (28, .newarray .int, []), (30, .putfield 22, [3, 3, 0, 0, 554])],
  [(33, .return_, [])]])
def mX3_find : im_M := (yX3_find, cX3_find, 5, (some .int), 3, 1, false, [1113, 264, 1111, 1112], [[(0, .bipush 7, []), (2, .istore_n 2, []), (3, .aload_n 0, []), (4, .aload_n 1, []), (5, .getfield 25, [8, 1, 0, 0, 713]), (8, .putfield 9, [3, 0, 0, 0, 549]), (11, .iconst 0, []), (12, .istore_n 3, []), (13, .iload_n 3, []), (14, .aload_n 0, []), (15, .getfield 9, [3, 0, 0, 0, 549])],
  [(18, .if_icmp .ge 16, [34]), (21, .aload_n 0, []), (22, .getfield 19, [3, 2, 0, 0, 553]), (25, .iload_n 3, []), (26, .iload_n 3, []), (27, .iastore, []), (28, .iinc 3 1, []), (31, .goto (-18), [13])],
  [(34, .iconst 0, []), (35, .istore_n 3, []), (36, .iload_n 3, []), (37, .sipush 720, []), (40, .if_icmp .ge 39, [79]), (43, .aload_n 0, []), (44, .invokevirtual 28, [24, 0, 0, 3, 1114]), (47, .istore 4, [])],
  [(49, .iload 4, []), (51, .iload_n 2, []), (52, .if_icmp .ge 11, [63]), (55, .iload 4, []), (57, .istore_n 2, []), (58, .aload_n 0, []), (59, .aload_n 1, []), (60, .invokevirtual 32, [25, 0, 1, 3, 1118]), (63, .aload_n 0, [])],
  [(64, .invokevirtual 36, [26, 0, 0, 3, 1122]), (67, .ifCond .ne 6, [73]), (70, .goto 9, [79]), (73, .iinc 3 1, []), (76, .goto (-40), [36]), (79, .iload_n 2, [])],
  [(80, .ireturn, [])]])
def mX3_countLate : im_M := (yX3_countLate, cX3_countLate, 3, (some .int), 3, 0, false, [1117, 264, 1115, 1116], [[(0, .iconst 0, []), (1, .istore_n 1, []), (2, .iconst 0, []), (3, .istore_n 2, []), (4, .iload_n 2, []), (5, .aload_n 0, []), (6, .getfield 9, [3, 0, 0, 0, 549]), (9, .if_icmp .ge 32, [41]), (12, .iload_n 1, []), (13, .aload_n 0, []), (14, .getfield 22, [3, 3, 0, 0, 554])],
  [(17, .aload_n 0, []), (18, .getfield 19, [3, 2, 0, 0, 553]), (21, .iload_n 2, []), (22, .iaload, []), (23, .iaload, []), (24, .iload_n 2, []), (25, .if_icmp .gt 7, [32]), (28, .iconst 1, []), (29, .goto 4, [33])],
  [(32, .iconst 0, []), (33, .iadd, []), (34, .istore_n 1, []), (35, .iinc 2 1, []), (38, .goto (-34), [4]), (41, .iload_n 1, []), (42, .ireturn, [])]])
def mX3_keep : im_M := (yX3_keep, cX3_keep, 3, none, 3, 1, false, [1121, 264, 1119, 1120], [[(0, .iconst 0, []), (1, .istore_n 2, []), (2, .iload_n 2, []), (3, .aload_n 0, []), (4, .getfield 9, [3, 0, 0, 0, 549]), (7, .if_icmp .ge 26, [33]), (10, .aload_n 0, []), (11, .getfield 15, [3, 1, 0, 0, 551]), (14, .iload_n 2, []), (15, .aload_n 1, [])],
  [(16, .getfield 40, [8, 2, 0, 0, 718]), (19, .aload_n 0, []), (20, .getfield 19, [3, 2, 0, 0, 553]), (23, .iload_n 2, []), (24, .iaload, []), (25, .iaload, []), (26, .iastore, []), (27, .iinc 2 1, []), (30, .goto (-28), [2])],
  [(33, .return_, [])]])
def mX3_goOn : im_M := (yX3_goOn, cX3_goOn, 5, (some .boolean), 3, 0, false, [1125, 264, 1123, 1124], [[(0, .aload_n 0, []), (1, .getfield 9, [3, 0, 0, 0, 549]), (4, .iconst 2, []), (5, .isub, []), (6, .istore_n 1, []), (7, .iload_n 1, []), (8, .ifCond .lt 26, [34]), (11, .aload_n 0, []), (12, .getfield 19, [3, 2, 0, 0, 553]), (15, .iload_n 1, [])],
  [(16, .iaload, []), (17, .aload_n 0, []), (18, .getfield 19, [3, 2, 0, 0, 553]), (21, .iload_n 1, []), (22, .iconst 1, []), (23, .iadd, []), (24, .iaload, []), (25, .if_icmp .le 9, [34]), (28, .iinc 1 (-1), []), (31, .goto (-24), [7])],
  [(34, .iload_n 1, []), (35, .ifCond .ge 5, [40]), (38, .iconst 0, []), (39, .ireturn, []), (40, .aload_n 0, []), (41, .getfield 9, [3, 0, 0, 0, 549]), (44, .iconst 1, []), (45, .isub, []), (46, .istore_n 2, []), (47, .iload_n 2, [])],
  [(48, .iload_n 1, []), (49, .if_icmp .le 24, [73]), (52, .aload_n 0, []), (53, .getfield 19, [3, 2, 0, 0, 553]), (56, .iload_n 2, []), (57, .iaload, []), (58, .aload_n 0, []), (59, .getfield 19, [3, 2, 0, 0, 553]), (62, .iload_n 1, []), (63, .iaload, [])],
  [(64, .if_icmp .ge 9, [73]), (67, .iinc 2 (-1), []), (70, .goto (-23), [47]), (73, .aload_n 0, []), (74, .iload_n 1, []), (75, .iload_n 2, []), (76, .invokevirtual 43, [27, 0, 2, 3, 1126]), (79, .iload_n 1, [])],
  [(80, .iconst 1, []), (81, .iadd, []), (82, .istore_n 3, []), (83, .aload_n 0, []), (84, .getfield 9, [3, 0, 0, 0, 549]), (87, .iconst 1, []), (88, .isub, []), (89, .istore 4, []), (91, .iload_n 3, []), (92, .iload 4, []), (94, .if_icmp .ge 19, [113])],
  [(97, .aload_n 0, []), (98, .iload_n 3, []), (99, .iload 4, []), (101, .invokevirtual 43, [27, 0, 2, 3, 1126]), (104, .iinc 3 1, []), (107, .iinc 4 (-1), []), (110, .goto (-19), [91])],
  [(113, .iconst 1, []), (114, .ireturn, [])]])
def mX3_swap : im_M := (yX3_swap, cX3_swap, 4, none, 3, 2, false, [1129, 264, 1127, 1128], [[(0, .aload_n 0, []), (1, .getfield 19, [3, 2, 0, 0, 553]), (4, .iload_n 1, []), (5, .iaload, []), (6, .istore_n 3, []), (7, .aload_n 0, []), (8, .getfield 19, [3, 2, 0, 0, 553]), (11, .iload_n 1, []), (12, .aload_n 0, []), (13, .getfield 19, [3, 2, 0, 0, 553])],
  [(16, .iload_n 2, []), (17, .iaload, []), (18, .iastore, []), (19, .aload_n 0, []), (20, .getfield 19, [3, 2, 0, 0, 553]), (23, .iload_n 2, []), (24, .iload_n 3, []), (25, .iastore, []), (26, .return_, [])]])
def mX4_init : im_M := (yX4_init, cX4_init, 1, none, 4, 0, false, [609, 266, 608, 0], [[(0, .aload_n 0, []), (1, .invokespecial 3, [0, 4, 0, 0, 610]), (4, .aload_n 0, []), (5, .iconst 0, []), (6, .putfield 9, [4, 0, 0, 0, 613]), (9, .aload_n 0, []), (10, .bipush 8, []), (12, .bipush 10, []), (14, .multianewarray 15 2, [7, 0, 0, 0, 611])],
  [(18, .putfield 17, [4, 1, 0, 0, 615]), (21, .aload_n 0, []), (22, .bipush 8, []), (24, .newarray .int, []), (26, .putfield 20, [4, 2, 0, 0, 616]), (29, .aload_n 0, []), (30, .bipush 8, [])],
  [(32, .newarray .int, []), (34, .putfield 24, [4, 3, 0, 0, 617]), (37, .aload_n 0, []), (38, .bipush 8, []), (40, .newarray .int, []), (42, .putfield 27, [4, 4, 0, 0, 618]), (45, .aload_n 0, []), (46, .bipush 100, [])],
  [(48, .newarray .boolean, [1]), (50, .putfield 30, [4, 5, 0, 0, 619]), (53, .return_, [])]])
def mX4_begin : im_M := (yX4_begin, cX4_begin, 8, (some .int), 4, 4, false, [1165, 266, 1163, 1164], [[(0, .aload_n 0, []), (1, .getfield 9, [4, 0, 0, 0, 613]), (4, .istore 5, []), (6, .iload_n 1, []), (7, .istore 6, []), (9, .aload_n 0, []), (10, .getfield 20, [4, 2, 0, 0, 616]), (13, .iload 5, []), (15, .iconst 0, [])],
  [(16, .iastore, []), (17, .aload_n 0, []), (18, .getfield 27, [4, 4, 0, 0, 618]), (21, .iload 5, []), (23, .iconst 0, []), (24, .iastore, []), (25, .iconst 0, []), (26, .istore 7, []), (28, .iload 7, []), (30, .iload_n 3, []), (31, .if_icmp .ge 71, [102])],
  [(34, .iload 6, []), (36, .iconst (-1), []), (37, .if_icmp .eq 65, [102]), (40, .aload_n 0, []), (41, .getfield 17, [4, 1, 0, 0, 615]), (44, .iload 5, []), (46, .aaload, []), (47, .iload 7, [])],
  [(49, .iload 6, []), (51, .iastore, []), (52, .aload_n 0, []), (53, .getfield 20, [4, 2, 0, 0, 616]), (56, .iload 5, []), (58, .dup2, []), (59, .iaload, []), (60, .iconst 1, []), (61, .iadd, []), (62, .iastore, []), (63, .aload_n 0, [])],
  [(64, .getfield 27, [4, 4, 0, 0, 618]), (67, .iload 5, []), (69, .dup2, []), (70, .iaload, []), (71, .aload_n 0, []), (72, .getfield 30, [4, 5, 0, 0, 619]), (75, .iload 6, []), (77, .baload, []), (78, .ifCond .eq 7, [85])],
  [(81, .iconst 0, []), (82, .goto 4, [86]), (85, .iconst 1, []), (86, .iadd, []), (87, .iastore, []), (88, .iload 6, []), (90, .iload_n 2, []), (91, .invokestatic 34, [112, 0, 2, 11, 1166]), (94, .istore 6, [])],
  [(96, .iinc 7 1, []), (99, .goto (-71), [28]), (102, .aload_n 0, []), (103, .getfield 24, [4, 3, 0, 0, 617]), (106, .iload 5, []), (108, .iload 4, []), (110, .iastore, []), (111, .aload_n 0, [])],
  [(112, .dup, []), (113, .getfield 9, [4, 0, 0, 0, 613]), (116, .iconst 1, []), (117, .iadd, []), (118, .putfield 9, [4, 0, 0, 0, 613]), (121, .iload 5, []), (123, .ireturn, [])]])
def mX4_isOver : im_M := (yX4_isOver, cX4_isOver, 4, (some .boolean), 4, 2, false, [1178, 266, 1176, 1177], [[(0, .iconst 0, []), (1, .istore_n 3, []), (2, .iload_n 3, []), (3, .aload_n 0, []), (4, .getfield 20, [4, 2, 0, 0, 616]), (7, .iload_n 1, []), (8, .iaload, []), (9, .if_icmp .ge 23, [32]), (12, .aload_n 0, []), (13, .getfield 17, [4, 1, 0, 0, 615])],
  [(16, .iload_n 1, []), (17, .aaload, []), (18, .iload_n 3, []), (19, .iaload, []), (20, .iload_n 2, []), (21, .if_icmp .ne 5, [26]), (24, .iconst 1, []), (25, .ireturn, []), (26, .iinc 3 1, []), (29, .goto (-27), [2])],
  [(32, .iconst 0, []), (33, .ireturn, [])]])
def mX4_leftOver : im_M := (yX4_leftOver, cX4_leftOver, 4, (some .int), 4, 1, false, [1174, 266, 1172, 1173], [[(0, .iconst 0, []), (1, .istore_n 2, []), (2, .iconst 0, []), (3, .istore_n 3, []), (4, .iload_n 3, []), (5, .aload_n 0, []), (6, .getfield 9, [4, 0, 0, 0, 613]), (9, .if_icmp .ge 31, [40]), (12, .iload_n 2, []), (13, .aload_n 0, []), (14, .iload_n 3, []), (15, .iload_n 1, [])],
  [(16, .invokevirtual 38, [30, 0, 2, 4, 1175]), (19, .ifCond .eq 12, [31]), (22, .aload_n 0, []), (23, .getfield 24, [4, 3, 0, 0, 617]), (26, .iload_n 3, []), (27, .iaload, []), (28, .goto 4, [32]), (31, .iconst 0, [])],
  [(32, .iadd, []), (33, .istore_n 2, []), (34, .iinc 3 1, []), (37, .goto (-33), [4]), (40, .iload_n 2, []), (41, .ireturn, [])]])
def mX4_find : im_M := (yX4_find, cX4_find, 6, none, 4, 2, false, [1182, 266, 1180, 1181], [[(0, .iload_n 2, []), (1, .istore_n 3, []), (2, .aload_n 0, []), (3, .getfield 30, [4, 5, 0, 0, 619]), (6, .iload_n 1, []), (7, .iconst 1, []), (8, .bastore, []), (9, .iconst 0, []), (10, .istore 4, []), (12, .iload 4, []), (14, .aload_n 0, []), (15, .getfield 9, [4, 0, 0, 0, 613])],
  [(18, .if_icmp .ge 60, [78]), (21, .aload_n 0, []), (22, .iload 4, []), (24, .iload_n 1, []), (25, .invokevirtual 38, [30, 0, 2, 4, 1175]), (28, .ifCond .eq 44, [72]), (31, .iload_n 3, [])],
  [(32, .aload_n 0, []), (33, .getfield 24, [4, 3, 0, 0, 617]), (36, .iload 4, []), (38, .iaload, []), (39, .invokestatic 42, [0, 6, 2, 0, 1183]), (42, .istore 5, []), (44, .aload_n 0, []), (45, .getfield 24, [4, 3, 0, 0, 617])],
  [(48, .iload 4, []), (50, .dup2, []), (51, .iaload, []), (52, .iload 5, []), (54, .isub, []), (55, .iastore, []), (56, .iload_n 3, []), (57, .iload 5, []), (59, .isub, []), (60, .istore_n 3, []), (61, .aload_n 0, []), (62, .getfield 27, [4, 4, 0, 0, 618])],
  [(65, .iload 4, []), (67, .dup2, []), (68, .iaload, []), (69, .iconst 1, []), (70, .isub, []), (71, .iastore, []), (72, .iinc 4 1, []), (75, .goto (-63), [12]), (78, .return_, [])]])
def mX4_chance : im_M := (yX4_chance, cX4_chance, 4, (some .int), 4, 1, false, [1192, 266, 1190, 1191], [[(0, .aload_n 0, []), (1, .getfield 30, [4, 5, 0, 0, 619]), (4, .iload_n 1, []), (5, .baload, []), (6, .ifCond .eq 5, [11]), (9, .iconst 0, []), (10, .ireturn, []), (11, .iconst 0, []), (12, .istore_n 2, []), (13, .iconst 0, []), (14, .istore_n 3, []), (15, .iload_n 3, [])],
  [(16, .aload_n 0, []), (17, .getfield 9, [4, 0, 0, 0, 613]), (20, .if_icmp .ge 47, [67]), (23, .aload_n 0, []), (24, .getfield 27, [4, 4, 0, 0, 618]), (27, .iload_n 3, []), (28, .iaload, []), (29, .ifCond .le 32, [61])],
  [(32, .aload_n 0, []), (33, .iload_n 3, []), (34, .iload_n 1, []), (35, .invokevirtual 38, [30, 0, 2, 4, 1175]), (38, .ifCond .eq 23, [61]), (41, .iload_n 2, []), (42, .aload_n 0, []), (43, .getfield 24, [4, 3, 0, 0, 617]), (46, .iload_n 3, []), (47, .iaload, [])],
  [(48, .sipush 2520, []), (51, .aload_n 0, []), (52, .getfield 27, [4, 4, 0, 0, 618]), (55, .iload_n 3, []), (56, .iaload, []), (57, .idiv, []), (58, .imul, []), (59, .iadd, []), (60, .istore_n 2, []), (61, .iinc 3 1, [])],
  [(64, .goto (-49), [15]), (67, .iload_n 2, []), (68, .ireturn, [])]])
def mX4_likeliest : im_M := (yX4_likeliest, cX4_likeliest, 5, (some .int), 4, 0, false, [1204, 266, 1202, 1203], [[(0, .iconst (-1), []), (1, .istore_n 1, []), (2, .iconst 0, []), (3, .istore_n 2, []), (4, .iconst 0, []), (5, .istore_n 3, []), (6, .iload_n 3, []), (7, .bipush 100, []), (9, .if_icmp .ge 27, [36]), (12, .aload_n 0, []), (13, .iload_n 3, []), (14, .invokevirtual 47, [33, 0, 1, 4, 1205])],
  [(17, .istore 4, []), (19, .iload 4, []), (21, .iload_n 2, []), (22, .if_icmp .le 8, [30]), (25, .iload 4, []), (27, .istore_n 2, []), (28, .iload_n 3, []), (29, .istore_n 1, []), (30, .iinc 3 1, [])],
  [(33, .goto (-27), [6]), (36, .iload_n 1, []), (37, .ireturn, [])]])
def mX5_init : im_M := (yX5_init, cX5_init, 1, none, 5, 0, false, [327, 261, 326, 0], [[(0, .aload_n 0, []), (1, .invokespecial 1, [0, 4, 0, 0, 328]), (4, .aload_n 0, []), (5, .iconst 0, []), (6, .putfield 7, [5, 0, 0, 0, 329]), (9, .aload_n 0, []), (10, .iconst 0, []), (11, .putfield 13, [5, 1, 0, 0, 332]), (14, .aload_n 0, []), (15, .iconst 0, [])],
  [(16, .putfield 16, [5, 2, 0, 0, 335]), (19, .aload_n 0, []), (20, .iconst 0, []), (21, .putfield 19, [5, 3, 0, 0, 338]), (24, .return_, [])]])
def mX6_init : im_M := (yX6_init, cX6_init, 1, none, 6, 0, false, [569, 265, 568, 0], [[(0, .aload_n 0, []), (1, .invokespecial 3, [0, 4, 0, 0, 570]), (4, .aload_n 0, []), (5, .iconst 0, []), (6, .putfield 9, [6, 0, 0, 0, 571]), (9, .aload_n 0, []), (10, .bipush 12, []), (12, .newarray .int, []), (14, .putfield 15, [6, 1, 0, 0, 573])],
  [(17, .aload_n 0, []), (18, .bipush 12, []), (20, .newarray .int, []), (22, .putfield 19, [6, 2, 0, 0, 575]), (25, .aload_n 0, []), (26, .bipush 12, []), (28, .newarray .int, []), (30, .putfield 22, [6, 3, 0, 0, 577])],
  [(33, .aload_n 0, []), (34, .bipush 12, []), (36, .newarray .int, []), (38, .putfield 25, [6, 4, 0, 0, 579]), (41, .aload_n 0, []), (42, .iconst 0, []), (43, .putfield 28, [6, 5, 0, 0, 581]), (46, .aload_n 0, []), (47, .iconst 0, [])],
  [(48, .putfield 31, [6, 6, 0, 0, 583]), (51, .aload_n 0, []), (52, .iconst 0, []), (53, .putfield 34, [6, 7, 0, 0, 584]), (56, .aload_n 0, []), (57, .iconst 0, []), (58, .putfield 37, [6, 8, 0, 0, 585]), (61, .return_, [])]])
def mX6_findBest : im_M := (yX6_findBest, cX6_findBest, 3, (some .int), 6, 2, false, [1141, 265, 1139, 1140], [[(0, .aload_n 0, []), (1, .iconst 0, []), (2, .putfield 28, [6, 5, 0, 0, 581]), (5, .aload_n 0, []), (6, .iconst 0, []), (7, .putfield 31, [6, 6, 0, 0, 583]), (10, .aload_n 0, []), (11, .aload_n 1, []), (12, .getfield 40, [9, 5, 0, 0, 429]), (15, .iconst 0, [])],
  [(16, .iaload, []), (17, .putfield 34, [6, 7, 0, 0, 584]), (20, .aload_n 0, []), (21, .aload_n 1, []), (22, .getfield 40, [9, 5, 0, 0, 429]), (25, .iconst 1, []), (26, .iaload, []), (27, .putfield 37, [6, 8, 0, 0, 585]), (30, .aload_n 0, []), (31, .aload_n 1, [])],
  [(32, .aload_n 0, []), (33, .getfield 9, [6, 0, 0, 0, 571]), (36, .iconst 1, []), (37, .isub, []), (38, .iload_n 2, []), (39, .iconst 0, []), (40, .iconst 0, []), (41, .invokevirtual 45, [38, 0, 5, 6, 1142]), (44, .aload_n 0, []), (45, .getfield 31, [6, 6, 0, 0, 583])],
  [(48, .ireturn, [])]])
def mX6_choose : im_M := (yX6_choose, cX6_choose, 6, none, 6, 5, false, [1145, 265, 1144, 2], [[(0, .iload_n 2, []), (1, .ifCond .ge 25, [26]), (4, .iload 5, []), (6, .aload_n 0, []), (7, .getfield 31, [6, 6, 0, 0, 583]), (10, .if_icmp .le 15, [25]), (13, .aload_n 0, []), (14, .iload 5, [])],
  [(16, .putfield 31, [6, 6, 0, 0, 583]), (19, .aload_n 0, []), (20, .iload 4, []), (22, .putfield 28, [6, 5, 0, 0, 581]), (25, .return_, []), (26, .aload_n 0, []), (27, .aload_n 1, []), (28, .iload_n 2, []), (29, .iconst 1, []), (30, .isub, []), (31, .iload_n 3, [])],
  [(32, .iload 4, []), (34, .iload 5, []), (36, .invokevirtual 45, [38, 0, 5, 6, 1142]), (39, .iload_n 3, []), (40, .ifCond .le 124, [164]), (43, .aload_n 1, []), (44, .getfield 49, [9, 14, 0, 0, 457]), (47, .iload_n 2, [])],
  [(48, .baload, []), (49, .ifCond .ne 115, [164]), (52, .aload_n 0, []), (53, .getfield 19, [6, 2, 0, 0, 575]), (56, .iload_n 2, []), (57, .iaload, []), (58, .aload_n 0, []), (59, .getfield 34, [6, 7, 0, 0, 584]), (62, .if_icmp .gt 102, [164])],
  [(65, .aload_n 0, []), (66, .getfield 22, [6, 3, 0, 0, 577]), (69, .iload_n 2, []), (70, .iaload, []), (71, .aload_n 0, []), (72, .getfield 37, [6, 8, 0, 0, 585]), (75, .if_icmp .gt 89, [164]), (78, .aload_n 0, []), (79, .dup, [])],
  [(80, .getfield 34, [6, 7, 0, 0, 584]), (83, .aload_n 0, []), (84, .getfield 19, [6, 2, 0, 0, 575]), (87, .iload_n 2, []), (88, .iaload, []), (89, .isub, []), (90, .putfield 34, [6, 7, 0, 0, 584]), (93, .aload_n 0, []), (94, .dup, []), (95, .getfield 37, [6, 8, 0, 0, 585])],
  [(98, .aload_n 0, []), (99, .getfield 22, [6, 3, 0, 0, 577]), (102, .iload_n 2, []), (103, .iaload, []), (104, .isub, []), (105, .putfield 37, [6, 8, 0, 0, 585]), (108, .aload_n 0, []), (109, .aload_n 1, []), (110, .iload_n 2, []), (111, .iconst 1, [])],
  [(112, .isub, []), (113, .iload_n 3, []), (114, .iconst 1, []), (115, .isub, []), (116, .iload 4, []), (118, .iconst 1, []), (119, .iload_n 2, []), (120, .ishl, []), (121, .ior, []), (122, .iload 5, []), (124, .aload_n 0, []), (125, .getfield 25, [6, 4, 0, 0, 579])],
  [(128, .iload_n 2, []), (129, .iaload, []), (130, .iadd, []), (131, .invokevirtual 45, [38, 0, 5, 6, 1142]), (134, .aload_n 0, []), (135, .dup, []), (136, .getfield 34, [6, 7, 0, 0, 584]), (139, .aload_n 0, []), (140, .getfield 19, [6, 2, 0, 0, 575]), (143, .iload_n 2, [])],
  [(144, .iaload, []), (145, .iadd, []), (146, .putfield 34, [6, 7, 0, 0, 584]), (149, .aload_n 0, []), (150, .dup, []), (151, .getfield 37, [6, 8, 0, 0, 585]), (154, .aload_n 0, []), (155, .getfield 22, [6, 3, 0, 0, 577]), (158, .iload_n 2, []), (159, .iaload, [])],
  [(160, .iadd, []), (161, .putfield 37, [6, 8, 0, 0, 585]), (164, .return_, [])]])
def mX7_init : im_M := (yX7_init, cX7_init, 1, none, 7, 0, false, [301, 260, 300, 0], [[(0, .aload_n 0, []), (1, .invokespecial 3, [0, 4, 0, 0, 302]), (4, .aload_n 0, []), (5, .bipush 8, []), (7, .newarray .int, []), (9, .putfield 9, [7, 0, 0, 0, 303]), (12, .aload_n 0, []), (13, .iconst 0, []), (14, .putfield 15, [7, 1, 0, 0, 305])],
  [(17, .aload_n 0, []), (18, .iconst 0, []), (19, .putfield 19, [7, 2, 0, 0, 308]), (22, .aload_n 0, []), (23, .iconst 0, []), (24, .putfield 22, [7, 3, 0, 0, 311]), (27, .return_, [])]])
def mX8_init : im_M := (yX8_init, cX8_init, 1, none, 8, 0, false, [708, 269, 707, 0], [[(0, .aload_n 0, []), (1, .invokespecial 3, [0, 4, 0, 0, 709]), (4, .aload_n 0, []), (5, .iconst (-1), []), (6, .putfield 11, [8, 0, 0, 0, 710]), (9, .aload_n 0, []), (10, .iconst 0, []), (11, .putfield 15, [8, 1, 0, 0, 712]), (14, .aload_n 0, []), (15, .bipush 40, [])],
  [(17, .newarray .int, []), (19, .putfield 18, [8, 2, 0, 0, 716]), (22, .return_, [])]])
def mX8_isMissing : im_M := (yX8_isMissing, cX8_isMissing, 1, (some .boolean), 8, 0, false, [826, 269, 824, 825], [[(0, .aload_n 0, []), (1, .getfield 11, [8, 0, 0, 0, 710]), (4, .iconst (-1), []), (5, .if_icmp .ne 7, [12]), (8, .iconst 1, []), (9, .goto 4, [13]), (12, .iconst 0, []), (13, .ireturn, [])]])
def mX8_put : im_M := (yX8_put, cX8_put, 3, none, 8, 2, false, [1290, 269, 1288, 1289], [[(0, .aload_n 0, []), (1, .getfield 18, [8, 2, 0, 0, 716]), (4, .iload_n 1, []), (5, .aload_n 0, []), (6, .getfield 11, [8, 0, 0, 0, 710]), (9, .ifCond .ne 8, [17]), (12, .iload_n 2, []), (13, .i2b, []), (14, .goto 17, [31])],
  [(17, .aload_n 0, []), (18, .getfield 11, [8, 0, 0, 0, 710]), (21, .iconst 1, []), (22, .if_icmp .ne 8, [30]), (25, .iload_n 2, []), (26, .i2s, []), (27, .goto 4, [31]), (30, .iload_n 2, []), (31, .iastore, [])],
  [(32, .return_, [])]])
def mX8_holds : im_M := (yX8_holds, cX8_holds, 3, (some .boolean), 8, 2, false, [1298, 269, 1296, 1297], [[(0, .iload_n 1, []), (1, .ifCond .lt 21, [22]), (4, .iload_n 2, []), (5, .ifCond .lt 17, [22]), (8, .iload_n 2, []), (9, .aload_n 0, []), (10, .getfield 15, [8, 1, 0, 0, 712]), (13, .iload_n 1, []), (14, .isub, []), (15, .if_icmp .gt 7, [22])],
  [(18, .iconst 1, []), (19, .goto 4, [23]), (22, .iconst 0, []), (23, .ireturn, [])]])
def mX8_hasAheadOf : im_M := (yX8_hasAheadOf, cX8_hasAheadOf, 4, (some .boolean), 8, 2, false, [837, 269, 835, 836], [[(0, .iconst 0, []), (1, .istore_n 3, []), (2, .iload_n 3, []), (3, .iload_n 1, []), (4, .if_icmp .ge 21, [25]), (7, .aload_n 0, []), (8, .getfield 18, [8, 2, 0, 0, 716]), (11, .iload_n 3, []), (12, .iaload, []), (13, .iload_n 2, []), (14, .if_icmp .ne 5, [19])],
  [(17, .iconst 1, []), (18, .ireturn, []), (19, .iinc 3 1, []), (22, .goto (-20), [2]), (25, .iconst 0, []), (26, .ireturn, [])]])
def mX9_init : im_M := (yX9_init, cX9_init, 1, none, 9, 0, false, [410, 262, 409, 0], [[(0, .aload_n 0, []), (1, .invokespecial 3, [0, 4, 0, 0, 411]), (4, .aload_n 0, []), (5, .iconst 0, []), (6, .putfield 9, [9, 0, 0, 0, 413]), (9, .aload_n 0, []), (10, .iconst 0, []), (11, .putfield 15, [9, 1, 0, 0, 416]), (14, .aload_n 0, []), (15, .iconst 0, [])],
  [(16, .putfield 18, [9, 2, 0, 0, 419]), (19, .aload_n 0, []), (20, .iconst 0, []), (21, .putfield 21, [9, 3, 0, 0, 422]), (24, .aload_n 0, []), (25, .iconst 0, []), (26, .putfield 24, [9, 4, 0, 0, 425]), (29, .aload_n 0, []), (30, .iconst 3, []), (31, .newarray .int, [])],
  [(33, .putfield 27, [9, 5, 0, 0, 428]), (36, .aload_n 0, []), (37, .bipush 100, []), (39, .newarray .int, []), (41, .putfield 31, [9, 6, 0, 0, 432]), (44, .aload_n 0, []), (45, .bipush 24, []), (47, .newarray .int, [])],
  [(49, .putfield 34, [9, 7, 0, 0, 435]), (52, .aload_n 0, []), (53, .bipush 24, []), (55, .newarray .int, []), (57, .putfield 37, [9, 8, 0, 0, 438]), (60, .aload_n 0, []), (61, .bipush 24, []), (63, .newarray .int, [])],
  [(65, .putfield 40, [9, 9, 0, 0, 441]), (68, .aload_n 0, []), (69, .bipush 24, []), (71, .newarray .int, []), (73, .putfield 43, [9, 10, 0, 0, 444]), (76, .aload_n 0, []), (77, .bipush 24, []), (79, .newarray .boolean, [1])],
  [(81, .putfield 46, [9, 11, 0, 0, 447]), (84, .aload_n 0, []), (85, .bipush 16, []), (87, .newarray .int, []), (89, .putfield 50, [9, 12, 0, 0, 450]), (92, .aload_n 0, []), (93, .bipush 16, []), (95, .newarray .boolean, [1])],
  [(97, .putfield 53, [9, 13, 0, 0, 453]), (100, .aload_n 0, []), (101, .bipush 12, []), (103, .newarray .boolean, [1]), (105, .putfield 56, [9, 14, 0, 0, 456]), (108, .aload_n 0, []), (109, .iconst 4, []), (110, .newarray .int, [])],
  [(112, .putfield 59, [9, 15, 0, 0, 459]), (115, .aload_n 0, []), (116, .iconst 4, []), (117, .newarray .int, []), (119, .putfield 62, [9, 16, 0, 0, 462]), (122, .aload_n 0, []), (123, .iconst 3, []), (124, .newarray .int, []), (126, .putfield 65, [9, 17, 0, 0, 465])],
  [(129, .aload_n 0, []), (130, .getfield 34, [9, 7, 0, 0, 435]), (133, .iconst (-1), []), (134, .invokestatic 68, [197, 0, 2, 99, 412]), (137, .return_, [])]])
def mX9_become : im_M := (yX9_become, cX9_become, 2, none, 9, 1, false, [1242, 262, 1240, 1241], [[(0, .aload_n 0, []), (1, .aload_n 1, []), (2, .getfield 9, [9, 0, 0, 0, 413]), (5, .putfield 9, [9, 0, 0, 0, 413]), (8, .aload_n 0, []), (9, .aload_n 1, []), (10, .getfield 15, [9, 1, 0, 0, 416]), (13, .putfield 15, [9, 1, 0, 0, 416])],
  [(16, .aload_n 0, []), (17, .aload_n 1, []), (18, .getfield 18, [9, 2, 0, 0, 419]), (21, .putfield 18, [9, 2, 0, 0, 419]), (24, .aload_n 0, []), (25, .aload_n 1, []), (26, .getfield 21, [9, 3, 0, 0, 422]), (29, .putfield 21, [9, 3, 0, 0, 422])],
  [(32, .aload_n 0, []), (33, .aload_n 1, []), (34, .getfield 24, [9, 4, 0, 0, 425]), (37, .putfield 24, [9, 4, 0, 0, 425]), (40, .aload_n 1, []), (41, .getfield 27, [9, 5, 0, 0, 428]), (44, .iconst 0, []), (45, .aload_n 0, []), (46, .getfield 27, [9, 5, 0, 0, 428])],
  [(49, .iconst 0, []), (50, .iconst 3, []), (51, .invokestatic 74, [0, 3, 5, 0, 1243]), (54, .aload_n 1, []), (55, .getfield 31, [9, 6, 0, 0, 432]), (58, .iconst 0, []), (59, .aload_n 0, []), (60, .getfield 31, [9, 6, 0, 0, 432]), (63, .iconst 0, [])],
  [(64, .bipush 100, []), (66, .invokestatic 74, [0, 3, 5, 0, 1243]), (69, .aload_n 1, []), (70, .getfield 34, [9, 7, 0, 0, 435]), (73, .iconst 0, []), (74, .aload_n 0, []), (75, .getfield 34, [9, 7, 0, 0, 435]), (78, .iconst 0, []), (79, .bipush 24, [])],
  [(81, .invokestatic 74, [0, 3, 5, 0, 1243]), (84, .aload_n 1, []), (85, .getfield 37, [9, 8, 0, 0, 438]), (88, .iconst 0, []), (89, .aload_n 0, []), (90, .getfield 37, [9, 8, 0, 0, 438]), (93, .iconst 0, []), (94, .bipush 24, [])],
  [(96, .invokestatic 74, [0, 3, 5, 0, 1243]), (99, .aload_n 1, []), (100, .getfield 40, [9, 9, 0, 0, 441]), (103, .iconst 0, []), (104, .aload_n 0, []), (105, .getfield 40, [9, 9, 0, 0, 441]), (108, .iconst 0, []), (109, .bipush 24, []), (111, .invokestatic 74, [0, 3, 5, 0, 1243])],
  [(114, .aload_n 1, []), (115, .getfield 43, [9, 10, 0, 0, 444]), (118, .iconst 0, []), (119, .aload_n 0, []), (120, .getfield 43, [9, 10, 0, 0, 444]), (123, .iconst 0, []), (124, .bipush 24, []), (126, .invokestatic 74, [0, 3, 5, 0, 1243])],
  [(129, .aload_n 1, []), (130, .getfield 46, [9, 11, 0, 0, 447]), (133, .iconst 0, []), (134, .aload_n 0, []), (135, .getfield 46, [9, 11, 0, 0, 447]), (138, .iconst 0, []), (139, .bipush 24, []), (141, .invokestatic 74, [0, 3, 5, 1, 1243])],
  [(144, .aload_n 1, []), (145, .getfield 50, [9, 12, 0, 0, 450]), (148, .iconst 0, []), (149, .aload_n 0, []), (150, .getfield 50, [9, 12, 0, 0, 450]), (153, .iconst 0, []), (154, .bipush 16, []), (156, .invokestatic 74, [0, 3, 5, 0, 1243]), (159, .aload_n 1, [])],
  [(160, .getfield 53, [9, 13, 0, 0, 453]), (163, .iconst 0, []), (164, .aload_n 0, []), (165, .getfield 53, [9, 13, 0, 0, 453]), (168, .iconst 0, []), (169, .bipush 16, []), (171, .invokestatic 74, [0, 3, 5, 1, 1243]), (174, .aload_n 1, []), (175, .getfield 56, [9, 14, 0, 0, 456])],
  [(178, .iconst 0, []), (179, .aload_n 0, []), (180, .getfield 56, [9, 14, 0, 0, 456]), (183, .iconst 0, []), (184, .bipush 12, []), (186, .invokestatic 74, [0, 3, 5, 1, 1243]), (189, .aload_n 1, []), (190, .getfield 59, [9, 15, 0, 0, 459])],
  [(193, .iconst 0, []), (194, .aload_n 0, []), (195, .getfield 59, [9, 15, 0, 0, 459]), (198, .iconst 0, []), (199, .iconst 4, []), (200, .invokestatic 74, [0, 3, 5, 0, 1243]), (203, .aload_n 1, []), (204, .getfield 62, [9, 16, 0, 0, 462]), (207, .iconst 0, [])],
  [(208, .aload_n 0, []), (209, .getfield 62, [9, 16, 0, 0, 462]), (212, .iconst 0, []), (213, .iconst 4, []), (214, .invokestatic 74, [0, 3, 5, 0, 1243]), (217, .aload_n 1, []), (218, .getfield 65, [9, 17, 0, 0, 465]), (221, .iconst 0, []), (222, .aload_n 0, []), (223, .getfield 65, [9, 17, 0, 0, 465])],
  [(226, .iconst 0, []), (227, .iconst 3, []), (228, .invokestatic 74, [0, 3, 5, 0, 1243]), (231, .return_, [])]])
def mX9_allLoads : im_M := (yX9_allLoads, cX9_allLoads, 3, (some .int), 9, 0, false, [1088, 262, 1086, 1087], [[(0, .iconst 0, []), (1, .istore_n 1, []), (2, .iconst 0, []), (3, .istore_n 2, []), (4, .iload_n 2, []), (5, .bipush 100, []), (7, .if_icmp .ge 18, [25]), (10, .iload_n 1, []), (11, .aload_n 0, []), (12, .getfield 31, [9, 6, 0, 0, 432]), (15, .iload_n 2, [])],
  [(16, .iaload, []), (17, .iadd, []), (18, .istore_n 1, []), (19, .iinc 2 1, []), (22, .goto (-18), [4]), (25, .iload_n 1, []), (26, .ireturn, [])]])
def mX9_allDead : im_M := (yX9_allDead, cX9_allDead, 3, (some .int), 9, 0, false, [1092, 262, 1090, 1091], [[(0, .iconst 0, []), (1, .istore_n 1, []), (2, .iconst 0, []), (3, .istore_n 2, []), (4, .iload_n 2, []), (5, .bipush 24, []), (7, .if_icmp .ge 26, [33]), (10, .iload_n 1, []), (11, .aload_n 0, []), (12, .getfield 46, [9, 11, 0, 0, 447]), (15, .iload_n 2, [])],
  [(16, .baload, []), (17, .ifCond .eq 7, [24]), (20, .iconst 1, []), (21, .goto 4, [25]), (24, .iconst 0, []), (25, .iadd, []), (26, .istore_n 1, []), (27, .iinc 2 1, []), (30, .goto (-26), [4])],
  [(33, .iload_n 1, []), (34, .ireturn, [])]])
def mX9_allHurt : im_M := (yX9_allHurt, cX9_allHurt, 3, (some .int), 9, 0, false, [1249, 262, 1247, 1248], [[(0, .iconst 0, []), (1, .istore_n 1, []), (2, .iconst 0, []), (3, .istore_n 2, []), (4, .iload_n 2, []), (5, .bipush 24, []), (7, .if_icmp .ge 18, [25]), (10, .iload_n 1, []), (11, .aload_n 0, []), (12, .getfield 37, [9, 8, 0, 0, 438]), (15, .iload_n 2, [])],
  [(16, .iaload, []), (17, .iadd, []), (18, .istore_n 1, []), (19, .iinc 2 1, []), (22, .goto (-18), [4]), (25, .iload_n 1, []), (26, .ireturn, [])]])
def mX10_init : im_M := (yX10_init, cX10_init, 1, none, 10, 0, false, [526, 263, 525, 0], [[(0, .aload_n 0, []), (1, .invokespecial 3, [0, 4, 0, 0, 527]), (4, .aload_n 0, []), (5, .sipush 160, []), (8, .newarray .int, []), (10, .putfield 9, [10, 0, 0, 0, 528]), (13, .aload_n 0, []), (14, .iconst 0, []), (15, .putfield 15, [10, 1, 0, 0, 530])],
  [(18, .aload_n 0, []), (19, .iconst 0, []), (20, .putfield 19, [10, 2, 0, 0, 532]), (23, .return_, [])]])
def mX10_readInto : im_M := (yX10_readInto, cX10_readInto, 3, (some .boolean), 10, 1, false, [864, 263, 862, 863], [[(0, .aload_n 0, []), (1, .iconst 0, []), (2, .putfield 19, [10, 2, 0, 0, 532]), (5, .aload_n 1, []), (6, .iconst 0, []), (7, .putfield 22, [1, 0, 0, 0, 674]), (10, .iconst 0, []), (11, .istore_n 2, []), (12, .iload_n 2, []), (13, .bipush 8, []), (15, .if_icmp .ge 43, [58])],
  [(18, .aload_n 0, []), (19, .aload_n 1, []), (20, .iload_n 2, []), (21, .invokevirtual 25, [52, 0, 2, 10, 865]), (24, .ifCond .ne 5, [29]), (27, .iconst 0, []), (28, .ireturn, []), (29, .aload_n 1, []), (30, .dup, []), (31, .getfield 22, [1, 0, 0, 0, 674])],
  [(34, .iconst 1, []), (35, .iadd, []), (36, .putfield 22, [1, 0, 0, 0, 674]), (39, .aload_n 0, []), (40, .getfield 19, [10, 2, 0, 0, 532]), (43, .aload_n 0, []), (44, .getfield 15, [10, 1, 0, 0, 530]), (47, .if_icmp .ne 5, [52])],
  [(50, .iconst 1, []), (51, .ireturn, []), (52, .iinc 2 1, []), (55, .goto (-43), [12]), (58, .iconst 0, []), (59, .ireturn, [])]])
def mX10_readLine : im_M := (yX10_readLine, cX10_readLine, 3, (some .boolean), 10, 2, false, [868, 263, 866, 867], [[(0, .aload_n 1, []), (1, .getfield 29, [1, 1, 0, 0, 677]), (4, .iload_n 2, []), (5, .aload_n 0, []), (6, .ldc 32, [0, 0, 0, 0, 869]), (8, .invokevirtual 34, [58, 0, 1, 10, 870]), (11, .iastore, []), (12, .aload_n 1, []), (13, .getfield 29, [1, 1, 0, 0, 677])],
  [(16, .iload_n 2, []), (17, .iaload, []), (18, .ifCond .lt 12, [30]), (21, .aload_n 0, []), (22, .bipush 32, []), (24, .invokevirtual 38, [56, 0, 1, 10, 929]), (27, .ifCond .ne 5, [32]), (30, .iconst 0, []), (31, .ireturn, [])],
  [(32, .aload_n 1, []), (33, .getfield 42, [1, 2, 0, 0, 680]), (36, .iload_n 2, []), (37, .aload_n 0, []), (38, .invokevirtual 45, [57, 0, 0, 10, 933]), (41, .iastore, []), (42, .aload_n 1, []), (43, .getfield 49, [1, 3, 0, 0, 683]), (46, .iload_n 2, []), (47, .iconst 0, [])],
  [(48, .iastore, []), (49, .aload_n 1, []), (50, .getfield 42, [1, 2, 0, 0, 680]), (53, .iload_n 2, []), (54, .iaload, []), (55, .ifCond .ge 5, [60]), (58, .iconst 0, []), (59, .ireturn, []), (60, .aload_n 0, []), (61, .bipush 59, []), (63, .invokevirtual 38, [56, 0, 1, 10, 929])],
  [(66, .ifCond .eq 5, [71]), (69, .iconst 1, []), (70, .ireturn, []), (71, .aload_n 0, []), (72, .invokevirtual 52, [53, 0, 0, 10, 937]), (75, .ifCond .eq 16, [91]), (78, .aload_n 0, []), (79, .aload_n 1, [])],
  [(80, .iload_n 2, []), (81, .invokevirtual 56, [54, 0, 2, 10, 942]), (84, .ifCond .eq 7, [91]), (87, .iconst 1, []), (88, .goto 4, [92]), (91, .iconst 0, []), (92, .ireturn, [])]])
def mX10_readIf : im_M := (yX10_readIf, cX10_readIf, 2, (some .boolean), 10, 0, false, [940, 263, 938, 939], [[(0, .iconst 0, []), (1, .istore_n 1, []), (2, .iload_n 1, []), (3, .ldc 59, [1, 0, 0, 0, 941]), (5, .invokevirtual 61, [0, 1, 0, 0, 874]), (8, .if_icmp .ge 24, [32]), (11, .aload_n 0, []), (12, .ldc 59, [1, 0, 0, 0, 941]), (14, .iload_n 1, []), (15, .invokevirtual 66, [0, 2, 1, 0, 884])],
  [(18, .invokevirtual 38, [56, 0, 1, 10, 929]), (21, .ifCond .ne 5, [26]), (24, .iconst 0, []), (25, .ireturn, []), (26, .iinc 1 1, []), (29, .goto (-27), [2])],
  [(32, .iconst 1, []), (33, .ireturn, [])]])
def mX10_readTests : im_M := (yX10_readTests, cX10_readTests, 4, (some .boolean), 10, 2, false, [945, 263, 943, 944], [[(0, .iconst 0, []), (1, .istore_n 3, []), (2, .iload_n 3, []), (3, .iconst 3, []), (4, .if_icmp .ge 61, [65]), (7, .aload_n 0, []), (8, .aload_n 1, []), (9, .iconst 3, []), (10, .iload_n 2, []), (11, .imul, []), (12, .iload_n 3, []), (13, .iadd, []), (14, .invokevirtual 70, [55, 0, 2, 10, 946])],
  [(17, .ifCond .ne 5, [22]), (20, .iconst 0, []), (21, .ireturn, []), (22, .aload_n 1, []), (23, .getfield 49, [1, 3, 0, 0, 683]), (26, .iload_n 2, []), (27, .dup2, []), (28, .iaload, []), (29, .iconst 1, []), (30, .iadd, []), (31, .iastore, [])],
  [(32, .aload_n 0, []), (33, .bipush 59, []), (35, .invokevirtual 38, [56, 0, 1, 10, 929]), (38, .ifCond .eq 5, [43]), (41, .iconst 1, []), (42, .ireturn, []), (43, .iload_n 3, []), (44, .iconst 2, []), (45, .if_icmp .eq 12, [57])],
  [(48, .aload_n 0, []), (49, .bipush 38, []), (51, .invokevirtual 38, [56, 0, 1, 10, 929]), (54, .ifCond .ne 5, [59]), (57, .iconst 0, []), (58, .ireturn, []), (59, .iinc 3 1, []), (62, .goto (-60), [2])],
  [(65, .iconst 0, []), (66, .ireturn, [])]])
def mX10_readTest : im_M := (yX10_readTest, cX10_readTest, 3, (some .boolean), 10, 2, false, [949, 263, 947, 948], [[(0, .aload_n 1, []), (1, .getfield 73, [1, 4, 0, 0, 685]), (4, .iload_n 2, []), (5, .aload_n 0, []), (6, .ldc 76, [2, 0, 0, 0, 950]), (8, .invokevirtual 34, [58, 0, 1, 10, 870]), (11, .iastore, []), (12, .aload_n 1, []), (13, .getfield 73, [1, 4, 0, 0, 685])],
  [(16, .iload_n 2, []), (17, .iaload, []), (18, .ifCond .ge 5, [23]), (21, .iconst 0, []), (22, .ireturn, []), (23, .aload_n 1, []), (24, .getfield 78, [1, 5, 0, 0, 687]), (27, .iload_n 2, []), (28, .aload_n 0, []), (29, .ldc 81, [3, 0, 0, 0, 951]), (31, .invokevirtual 34, [58, 0, 1, 10, 870])],
  [(34, .iastore, []), (35, .aload_n 1, []), (36, .getfield 78, [1, 5, 0, 0, 687]), (39, .iload_n 2, []), (40, .iaload, []), (41, .ifCond .ge 5, [46]), (44, .iconst 0, []), (45, .ireturn, []), (46, .aload_n 1, []), (47, .getfield 83, [1, 6, 0, 0, 689])],
  [(50, .iload_n 2, []), (51, .aload_n 0, []), (52, .invokevirtual 45, [57, 0, 0, 10, 933]), (55, .iastore, []), (56, .aload_n 1, []), (57, .getfield 83, [1, 6, 0, 0, 689]), (60, .iload_n 2, []), (61, .iaload, []), (62, .ifCond .lt 7, [69])],
  [(65, .iconst 1, []), (66, .goto 4, [70]), (69, .iconst 0, []), (70, .ireturn, [])]])
def mX10_readSign : im_M := (yX10_readSign, cX10_readSign, 2, (some .boolean), 10, 1, false, [932, 263, 930, 931], [[(0, .aload_n 0, []), (1, .aload_n 0, []), (2, .getfield 19, [10, 2, 0, 0, 532]), (5, .invokevirtual 86, [59, 0, 1, 10, 922]), (8, .iload_n 1, []), (9, .if_icmp .eq 5, [14]), (12, .iconst 0, []), (13, .ireturn, []), (14, .aload_n 0, []), (15, .dup, [])],
  [(16, .getfield 19, [10, 2, 0, 0, 532]), (19, .iconst 1, []), (20, .iadd, []), (21, .putfield 19, [10, 2, 0, 0, 532]), (24, .iconst 1, []), (25, .ireturn, [])]])
def mX10_readNumber : im_M := (yX10_readNumber, cX10_readNumber, 4, (some .int), 10, 0, false, [936, 263, 934, 935], [[(0, .iconst (-1), []), (1, .istore_n 1, []), (2, .iconst 0, []), (3, .istore_n 2, []), (4, .iload_n 2, []), (5, .iconst 3, []), (6, .if_icmp .ge 56, [62]), (9, .aload_n 0, []), (10, .aload_n 0, []), (11, .getfield 19, [10, 2, 0, 0, 532]), (14, .invokevirtual 86, [59, 0, 1, 10, 922])],
  [(17, .istore_n 3, []), (18, .iload_n 3, []), (19, .bipush 48, []), (21, .if_icmp .lt 9, [30]), (24, .iload_n 3, []), (25, .bipush 57, []), (27, .if_icmp .le 5, [32]), (30, .iload_n 1, []), (31, .ireturn, [])],
  [(32, .iload_n 1, []), (33, .iconst 0, []), (34, .invokestatic 90, [0, 5, 2, 0, 926]), (37, .bipush 10, []), (39, .imul, []), (40, .iload_n 3, []), (41, .iadd, []), (42, .bipush 48, []), (44, .isub, []), (45, .istore_n 1, []), (46, .aload_n 0, []), (47, .dup, [])],
  [(48, .getfield 19, [10, 2, 0, 0, 532]), (51, .iconst 1, []), (52, .iadd, []), (53, .putfield 19, [10, 2, 0, 0, 532]), (56, .iinc 2 1, []), (59, .goto (-55), [4]), (62, .iload_n 1, []), (63, .ireturn, [])]])
def mX10_readWord : im_M := (yX10_readWord, cX10_readWord, 8, (some .int), 10, 1, false, [873, 263, 871, 872], [[(0, .iconst 0, []), (1, .istore_n 2, []), (2, .iconst 0, []), (3, .istore_n 3, []), (4, .iconst 0, []), (5, .istore 4, []), (7, .iconst 1, []), (8, .istore 5, []), (10, .iconst 0, []), (11, .istore 6, []), (13, .iload 6, []), (15, .aload_n 1, [])],
  [(16, .invokevirtual 61, [0, 1, 0, 0, 874]), (19, .if_icmp .ge 98, [117]), (22, .aload_n 1, []), (23, .iload 6, []), (25, .invokevirtual 66, [0, 2, 1, 0, 884]), (28, .istore 7, []), (30, .iload 7, [])],
  [(32, .bipush 32, []), (34, .if_icmp .ne 21, [55]), (37, .iload 5, []), (39, .ifCond .eq 16, [55]), (42, .aload_n 0, []), (43, .dup, []), (44, .getfield 19, [10, 2, 0, 0, 532]), (47, .iload 4, [])],
  [(49, .iadd, []), (50, .putfield 19, [10, 2, 0, 0, 532]), (53, .iload_n 3, []), (54, .ireturn, []), (55, .iload 7, []), (57, .bipush 32, []), (59, .if_icmp .ne 15, [74]), (62, .iinc 3 1, [])],
  [(65, .iconst 0, []), (66, .istore 4, []), (68, .iconst 1, []), (69, .istore 5, []), (71, .goto 40, [111]), (74, .iload 5, []), (76, .ifCond .eq 32, [108]), (79, .aload_n 0, [])],
  [(80, .aload_n 0, []), (81, .getfield 19, [10, 2, 0, 0, 532]), (84, .iload 4, []), (86, .iadd, []), (87, .invokevirtual 86, [59, 0, 1, 10, 922]), (90, .iload 7, []), (92, .if_icmp .ne 16, [108]), (95, .iinc 4 1, [])],
  [(98, .iload_n 2, []), (99, .iload 4, []), (101, .invokestatic 90, [0, 5, 2, 0, 926]), (104, .istore_n 2, []), (105, .goto 6, [111]), (108, .iconst 0, []), (109, .istore 5, []), (111, .iinc 6 1, [])],
  [(114, .goto (-101), [13]), (117, .aload_n 0, []), (118, .dup, []), (119, .getfield 19, [10, 2, 0, 0, 532]), (122, .iload_n 2, []), (123, .iadd, []), (124, .putfield 19, [10, 2, 0, 0, 532]), (127, .iconst (-1), [])],
  [(128, .ireturn, [])]])
def mX10_byteAt : im_M := (yX10_byteAt, cX10_byteAt, 2, (some .int), 10, 1, false, [925, 263, 923, 924], [[(0, .iload_n 1, []), (1, .aload_n 0, []), (2, .getfield 15, [10, 1, 0, 0, 530]), (5, .if_icmp .ge 12, [17]), (8, .aload_n 0, []), (9, .getfield 9, [10, 0, 0, 0, 528]), (12, .iload_n 1, []), (13, .iaload, []), (14, .goto 4, [18])],
  [(17, .iconst (-1), []), (18, .ireturn, [])]])
def mX11_init : im_M := (yX11_init, cX11_init, 2, none, 11, 0, false, [281, 257, 280, 0], [[(0, .aload_n 0, []), (1, .invokespecial 1, [0, 4, 0, 0, 282]), (4, .aload_n 0, []), (5, .new 7, [0, 0, 0, 0, 285]), (8, .dup, []), (9, .invokespecial 9, [0, 0, 0, 0, 287]), (12, .putfield 10, [11, 0, 0, 0, 727]), (15, .aload_n 0, [])],
  [(16, .new 16, [9, 0, 0, 0, 406]), (19, .dup, []), (20, .invokespecial 18, [45, 0, 0, 9, 408]), (23, .putfield 19, [11, 1, 0, 0, 728]), (26, .aload_n 0, []), (27, .new 16, [9, 0, 0, 0, 406]), (30, .dup, []), (31, .invokespecial 18, [45, 0, 0, 9, 408])],
  [(34, .putfield 23, [11, 2, 0, 0, 729]), (37, .aload_n 0, []), (38, .new 16, [9, 0, 0, 0, 406]), (41, .dup, []), (42, .invokespecial 18, [45, 0, 0, 9, 408]), (45, .putfield 26, [11, 3, 0, 0, 730])],
  [(48, .aload_n 0, []), (49, .iconst 0, []), (50, .putfield 29, [11, 4, 0, 0, 731]), (53, .aload_n 0, []), (54, .new 33, [10, 0, 0, 0, 522]), (57, .dup, []), (58, .invokespecial 35, [50, 0, 0, 10, 524]), (61, .putfield 36, [11, 5, 0, 0, 732])],
  [(64, .aload_n 0, []), (65, .bipush 6, []), (67, .anewarray 40, [5, 0, 0, 0, 541]), (70, .putfield 42, [11, 6, 0, 0, 733]), (73, .aload_n 0, []), (74, .iconst 0, []), (75, .putfield 46, [11, 7, 0, 0, 734]), (78, .aload_n 0, []), (79, .iconst (-1), [])],
  [(80, .putfield 50, [11, 8, 0, 0, 735]), (83, .aload_n 0, []), (84, .new 53, [3, 0, 0, 0, 543]), (87, .dup, []), (88, .invokespecial 55, [22, 0, 0, 3, 545]), (91, .putfield 56, [11, 9, 0, 0, 736]), (94, .aload_n 0, []), (95, .new 60, [6, 0, 0, 0, 565])],
  [(98, .dup, []), (99, .invokespecial 62, [36, 0, 0, 6, 567]), (102, .putfield 63, [11, 10, 0, 0, 737]), (105, .aload_n 0, []), (106, .new 67, [4, 0, 0, 0, 605]), (109, .dup, []), (110, .invokespecial 69, [28, 0, 0, 4, 607])],
  [(113, .putfield 70, [11, 11, 0, 0, 738]), (116, .aload_n 0, []), (117, .new 74, [2, 0, 0, 0, 634]), (120, .dup, []), (121, .invokespecial 76, [19, 0, 0, 2, 636]), (124, .putfield 77, [11, 12, 0, 0, 739]), (127, .aload_n 0, [])],
  [(128, .iconst 4, []), (129, .anewarray 81, [6, 0, 0, 0, 666]), (132, .putfield 83, [11, 13, 0, 0, 740]), (135, .iconst 0, []), (136, .istore_n 1, []), (137, .iload_n 1, []), (138, .bipush 6, []), (140, .if_icmp .ge 22, [162]), (143, .aload_n 0, [])],
  [(144, .getfield 42, [11, 6, 0, 0, 733]), (147, .iload_n 1, []), (148, .new 40, [1, 0, 0, 0, 541]), (151, .dup, []), (152, .invokespecial 87, [17, 0, 0, 1, 669]), (155, .aastore, []), (156, .iinc 1 1, []), (159, .goto (-22), [137])],
  [(162, .iconst 0, []), (163, .istore_n 1, []), (164, .iload_n 1, []), (165, .iconst 4, []), (166, .if_icmp .ge 22, [188]), (169, .aload_n 0, []), (170, .getfield 83, [11, 13, 0, 0, 740]), (173, .iload_n 1, []), (174, .new 81, [8, 0, 0, 0, 666])],
  [(177, .dup, []), (178, .invokespecial 88, [40, 0, 0, 8, 706]), (181, .aastore, []), (182, .iinc 1 1, []), (185, .goto (-21), [164]), (188, .return_, [])]])
def mX11_ruin : im_M := (yX11_ruin, cX11_ruin, 5, (some .int), 11, 3, false, [789, 257, 787, 788], [[(0, .iload_n 1, []), (1, .bipush 100, []), (3, .invokestatic 89, [110, 0, 2, 11, 790]), (6, .ifCond .ne 5, [11]), (9, .iconst (-1), []), (10, .ireturn, []), (11, .iload_n 2, []), (12, .bipush 6, []), (14, .invokestatic 89, [110, 0, 2, 11, 790])],
  [(17, .ifCond .eq 14, [31]), (20, .iload_n 3, []), (21, .iconst 0, []), (22, .sipush 9999, []), (25, .invokestatic 93, [111, 0, 3, 11, 793]), (28, .ifCond .ne 6, [34]), (31, .bipush (-2), [])],
  [(33, .ireturn, []), (34, .aload_n 0, []), (35, .getfield 19, [11, 1, 0, 0, 728]), (38, .getfield 97, [9, 6, 0, 0, 433]), (41, .iload_n 1, []), (42, .iaload, []), (43, .istore 4, []), (45, .aload_n 0, []), (46, .getfield 10, [11, 0, 0, 0, 727])],
  [(49, .getfield 101, [0, 0, 0, 0, 351]), (52, .iload_n 1, []), (53, .iload_n 2, []), (54, .iastore, []), (55, .aload_n 0, []), (56, .getfield 19, [11, 1, 0, 0, 728]), (59, .getfield 97, [9, 6, 0, 0, 433]), (62, .iload_n 1, []), (63, .iload_n 3, [])],
  [(64, .iastore, []), (65, .iload 4, []), (67, .ireturn, [])]])
def mX11_person : im_M := (yX11_person, cX11_person, 6, (some .int), 11, 4, false, [799, 257, 797, 798], [[(0, .iload_n 1, []), (1, .bipush 100, []), (3, .invokestatic 89, [110, 0, 2, 11, 790]), (6, .ifCond .ne 5, [11]), (9, .iconst (-1), []), (10, .ireturn, []), (11, .iload_n 2, []), (12, .iconst 1, []), (13, .bipush 9, []), (15, .invokestatic 93, [111, 0, 3, 11, 793])],
  [(18, .ifCond .eq 24, [42]), (21, .iload_n 3, []), (22, .iconst 0, []), (23, .bipush 99, []), (25, .invokestatic 93, [111, 0, 3, 11, 793]), (28, .ifCond .eq 14, [42]), (31, .iload 4, [])],
  [(33, .iconst 0, []), (34, .bipush 9, []), (36, .invokestatic 93, [111, 0, 3, 11, 793]), (39, .ifCond .ne 6, [45]), (42, .bipush (-2), []), (44, .ireturn, []), (45, .aload_n 0, []), (46, .getfield 10, [11, 0, 0, 0, 727])],
  [(49, .getfield 104, [0, 2, 0, 0, 355]), (52, .bipush 24, []), (54, .if_icmp .lt 6, [60]), (57, .bipush (-4), []), (59, .ireturn, []), (60, .aload_n 0, []), (61, .getfield 10, [11, 0, 0, 0, 727])],
  [(64, .getfield 104, [0, 2, 0, 0, 355]), (67, .istore 5, []), (69, .aload_n 0, []), (70, .getfield 10, [11, 0, 0, 0, 727]), (73, .getfield 107, [0, 3, 0, 0, 357]), (76, .iload 5, []), (78, .iload_n 2, []), (79, .iastore, [])],
  [(80, .aload_n 0, []), (81, .getfield 10, [11, 0, 0, 0, 727]), (84, .getfield 110, [0, 4, 0, 0, 359]), (87, .iload 5, []), (89, .iload_n 3, []), (90, .iastore, []), (91, .aload_n 0, []), (92, .getfield 10, [11, 0, 0, 0, 727]), (95, .getfield 113, [0, 5, 0, 0, 361])],
  [(98, .iload 5, []), (100, .iload 4, []), (102, .iastore, []), (103, .aload_n 0, []), (104, .getfield 19, [11, 1, 0, 0, 728]), (107, .getfield 116, [9, 7, 0, 0, 436]), (110, .iload 5, [])],
  [(112, .iload_n 1, []), (113, .iastore, []), (114, .aload_n 0, []), (115, .getfield 10, [11, 0, 0, 0, 727]), (118, .dup, []), (119, .getfield 104, [0, 2, 0, 0, 355]), (122, .iconst 1, []), (123, .iadd, []), (124, .putfield 104, [0, 2, 0, 0, 355]), (127, .iload 5, [])],
  [(129, .ireturn, [])]])
def mX11_moves : im_M := (yX11_moves, cX11_moves, 4, (some .int), 11, 2, false, [803, 257, 801, 802], [[(0, .iload_n 1, []), (1, .aload_n 0, []), (2, .getfield 10, [11, 0, 0, 0, 727]), (5, .getfield 104, [0, 2, 0, 0, 355]), (8, .invokestatic 89, [110, 0, 2, 11, 790]), (11, .ifCond .eq 12, [23]), (14, .iload_n 2, []), (15, .bipush 100, [])],
  [(17, .invokestatic 89, [110, 0, 2, 11, 790]), (20, .ifCond .ne 5, [25]), (23, .iconst (-1), []), (24, .ireturn, []), (25, .aload_n 0, []), (26, .getfield 19, [11, 1, 0, 0, 728]), (29, .getfield 119, [9, 11, 0, 0, 448])],
  [(32, .iload_n 1, []), (33, .baload, []), (34, .ifCond .eq 6, [40]), (37, .bipush (-3), []), (39, .ireturn, []), (40, .aload_n 0, []), (41, .getfield 19, [11, 1, 0, 0, 728]), (44, .getfield 116, [9, 7, 0, 0, 436]), (47, .iload_n 1, [])],
  [(48, .iaload, []), (49, .istore_n 3, []), (50, .aload_n 0, []), (51, .getfield 19, [11, 1, 0, 0, 728]), (54, .getfield 116, [9, 7, 0, 0, 436]), (57, .iload_n 1, []), (58, .iload_n 2, []), (59, .iastore, []), (60, .iload_n 3, []), (61, .ireturn, [])]])
def mX11_wall : im_M := (yX11_wall, cX11_wall, 6, (some .int), 11, 3, false, [807, 257, 805, 806], [[(0, .iload_n 1, []), (1, .bipush 100, []), (3, .invokestatic 89, [110, 0, 2, 11, 790]), (6, .ifCond .ne 5, [11]), (9, .iconst (-1), []), (10, .ireturn, []), (11, .iload_n 2, []), (12, .iconst 4, []), (13, .invokestatic 89, [110, 0, 2, 11, 790])],
  [(16, .ifCond .eq 13, [29]), (19, .iload_n 3, []), (20, .iconst 1, []), (21, .bipush 99, []), (23, .invokestatic 93, [111, 0, 3, 11, 793]), (26, .ifCond .ne 6, [32]), (29, .bipush (-2), []), (31, .ireturn, [])],
  [(32, .iload_n 1, []), (33, .iload_n 2, []), (34, .invokestatic 123, [112, 0, 2, 11, 808]), (37, .istore 4, []), (39, .iload 4, []), (41, .iconst (-1), []), (42, .if_icmp .ne 6, [48]), (45, .bipush (-3), []), (47, .ireturn, [])],
  [(48, .aload_n 0, []), (49, .getfield 10, [11, 0, 0, 0, 727]), (52, .getfield 127, [0, 9, 0, 0, 369]), (55, .bipush 16, []), (57, .if_icmp .lt 6, [63]), (60, .bipush (-4), []), (62, .ireturn, []), (63, .aload_n 0, [])],
  [(64, .getfield 10, [11, 0, 0, 0, 727]), (67, .getfield 127, [0, 9, 0, 0, 369]), (70, .istore 5, []), (72, .aload_n 0, []), (73, .getfield 10, [11, 0, 0, 0, 727]), (76, .getfield 130, [0, 10, 0, 0, 371]), (79, .iload 5, [])],
  [(81, .iload_n 1, []), (82, .iastore, []), (83, .aload_n 0, []), (84, .getfield 10, [11, 0, 0, 0, 727]), (87, .getfield 133, [0, 11, 0, 0, 373]), (90, .iload 5, []), (92, .iload 4, []), (94, .iastore, []), (95, .aload_n 0, [])],
  [(96, .getfield 19, [11, 1, 0, 0, 728]), (99, .getfield 136, [9, 12, 0, 0, 451]), (102, .iload 5, []), (104, .iload_n 3, []), (105, .iastore, []), (106, .aload_n 0, []), (107, .getfield 19, [11, 1, 0, 0, 728]), (110, .getfield 139, [9, 13, 0, 0, 454])],
  [(113, .iload 5, []), (115, .iconst 1, []), (116, .bastore, []), (117, .aload_n 0, []), (118, .getfield 10, [11, 0, 0, 0, 727]), (121, .dup, []), (122, .getfield 127, [0, 9, 0, 0, 369]), (125, .iconst 1, []), (126, .iadd, []), (127, .putfield 127, [0, 9, 0, 0, 369])],
  [(130, .iload 5, []), (132, .ireturn, [])]])
def mX11_weather : im_M := (yX11_weather, cX11_weather, 4, (some .int), 11, 2, false, [814, 257, 812, 813], [[(0, .iload_n 1, []), (1, .bipush 10, []), (3, .invokestatic 89, [110, 0, 2, 11, 790]), (6, .ifCond .eq 12, [18]), (9, .iload_n 2, []), (10, .bipush 10, []), (12, .invokestatic 89, [110, 0, 2, 11, 790]), (15, .ifCond .ne 6, [21])],
  [(18, .bipush (-2), []), (20, .ireturn, []), (21, .bipush 10, []), (23, .aload_n 0, []), (24, .getfield 19, [11, 1, 0, 0, 728]), (27, .getfield 142, [9, 1, 0, 0, 418]), (30, .imul, []), (31, .aload_n 0, [])],
  [(32, .getfield 19, [11, 1, 0, 0, 728]), (35, .getfield 145, [9, 2, 0, 0, 421]), (38, .iadd, []), (39, .istore_n 3, []), (40, .aload_n 0, []), (41, .getfield 19, [11, 1, 0, 0, 728]), (44, .iload_n 1, []), (45, .putfield 142, [9, 1, 0, 0, 418])],
  [(48, .aload_n 0, []), (49, .getfield 19, [11, 1, 0, 0, 728]), (52, .iload_n 2, []), (53, .putfield 145, [9, 2, 0, 0, 421]), (56, .iload_n 3, []), (57, .ireturn, [])]])
def mX11_tip : im_M := (yX11_tip, cX11_tip, 3, (some .int), 11, 1, false, [818, 257, 816, 817], [[(0, .iload_n 1, []), (1, .iconst (-1), []), (2, .if_icmp .eq 15, [17]), (5, .iload_n 1, []), (6, .bipush 100, []), (8, .invokestatic 89, [110, 0, 2, 11, 790]), (11, .ifCond .ne 6, [17]), (14, .bipush (-5), [])],
  [(16, .ireturn, []), (17, .aload_n 0, []), (18, .getfield 10, [11, 0, 0, 0, 727]), (21, .getfield 148, [0, 1, 0, 0, 353]), (24, .istore_n 2, []), (25, .aload_n 0, []), (26, .getfield 10, [11, 0, 0, 0, 727]), (29, .iload_n 1, []), (30, .putfield 148, [0, 1, 0, 0, 353])],
  [(33, .iload_n 2, []), (34, .ireturn, [])]])
def mX11_row : im_M := (yX11_row, cX11_row, 7, (some .int), 11, 4, false, [822, 257, 820, 821], [[(0, .iload_n 1, []), (1, .iconst 4, []), (2, .invokestatic 89, [110, 0, 2, 11, 790]), (5, .ifCond .eq 30, [35]), (8, .iload_n 2, []), (9, .iconst 4, []), (10, .invokestatic 89, [110, 0, 2, 11, 790]), (13, .ifCond .eq 22, [35])],
  [(16, .iload_n 3, []), (17, .bipush 100, []), (19, .invokestatic 89, [110, 0, 2, 11, 790]), (22, .ifCond .eq 13, [35]), (25, .iload 4, []), (27, .bipush 100, []), (29, .invokestatic 89, [110, 0, 2, 11, 790])],
  [(32, .ifCond .ne 5, [37]), (35, .iconst (-1), []), (36, .ireturn, []), (37, .aload_n 0, []), (38, .getfield 83, [11, 13, 0, 0, 740]), (41, .iload_n 2, []), (42, .aaload, []), (43, .astore 5, []), (45, .aload 5, []), (47, .invokevirtual 151, [41, 0, 0, 8, 823])],
  [(50, .ifCond .eq 6, [56]), (53, .bipush (-11), []), (55, .ireturn, []), (56, .aload 5, []), (58, .getfield 155, [8, 1, 0, 0, 715]), (61, .bipush 8, []), (63, .if_icmp .gt 12, [75])],
  [(66, .iload_n 3, []), (67, .iload 4, []), (69, .invokestatic 158, [113, 0, 2, 11, 827]), (72, .ifCond .ne 6, [78]), (75, .bipush (-2), []), (77, .ireturn, []), (78, .aload_n 0, []), (79, .iload_n 1, [])],
  [(80, .aload 5, []), (82, .invokevirtual 161, [68, 0, 2, 11, 830]), (85, .istore 6, []), (87, .iload 6, []), (89, .ifCond .ge 6, [95]), (92, .iload 6, []), (94, .ireturn, []), (95, .aload_n 0, [])],
  [(96, .getfield 10, [11, 0, 0, 0, 727]), (99, .iload_n 1, []), (100, .aload 5, []), (102, .invokevirtual 165, [1, 0, 2, 0, 838]), (105, .aload_n 0, []), (106, .getfield 10, [11, 0, 0, 0, 727]), (109, .getfield 169, [0, 7, 0, 0, 365])],
  [(112, .iload_n 1, []), (113, .aaload, []), (114, .iload_n 3, []), (115, .putfield 173, [7, 2, 0, 0, 310]), (118, .aload_n 0, []), (119, .getfield 10, [11, 0, 0, 0, 727]), (122, .getfield 169, [0, 7, 0, 0, 365]), (125, .iload_n 1, []), (126, .aaload, []), (127, .iload 4, [])],
  [(129, .putfield 178, [7, 3, 0, 0, 312]), (132, .aload 5, []), (134, .getfield 155, [8, 1, 0, 0, 715]), (137, .ireturn, [])]])
def mX11_refusalOfHands : im_M := (yX11_refusalOfHands, cX11_refusalOfHands, 5, (some .int), 11, 2, false, [833, 257, 832, 0], [[(0, .iconst 0, []), (1, .istore_n 3, []), (2, .iload_n 3, []), (3, .aload_n 2, []), (4, .getfield 155, [8, 1, 0, 0, 715]), (7, .if_icmp .ge 89, [96]), (10, .aload_n 2, []), (11, .getfield 181, [8, 2, 0, 0, 719]), (14, .iload_n 3, []), (15, .iaload, [])],
  [(16, .istore 4, []), (18, .iload 4, []), (20, .aload_n 0, []), (21, .getfield 10, [11, 0, 0, 0, 727]), (24, .getfield 104, [0, 2, 0, 0, 355]), (27, .invokestatic 89, [110, 0, 2, 11, 790]), (30, .ifCond .eq 26, [56])],
  [(33, .aload_n 0, []), (34, .getfield 19, [11, 1, 0, 0, 728]), (37, .getfield 119, [9, 11, 0, 0, 448]), (40, .iload 4, []), (42, .baload, []), (43, .ifCond .ne 13, [56]), (46, .aload_n 2, []), (47, .iload_n 3, [])],
  [(48, .iload 4, []), (50, .invokevirtual 184, [44, 0, 2, 8, 834]), (53, .ifCond .eq 6, [59]), (56, .bipush (-2), []), (58, .ireturn, []), (59, .aload_n 0, []), (60, .getfield 10, [11, 0, 0, 0, 727]), (63, .getfield 187, [0, 6, 0, 0, 363])],
  [(66, .iload 4, []), (68, .iaload, []), (69, .iconst (-1), []), (70, .if_icmp .eq 20, [90]), (73, .aload_n 0, []), (74, .getfield 10, [11, 0, 0, 0, 727]), (77, .getfield 187, [0, 6, 0, 0, 363])],
  [(80, .iload 4, []), (82, .iaload, []), (83, .iload_n 1, []), (84, .if_icmp .eq 6, [90]), (87, .bipush (-3), []), (89, .ireturn, []), (90, .iinc 3 1, []), (93, .goto (-91), [2])],
  [(96, .iconst 0, []), (97, .ireturn, [])]])
def mX11_rail : im_M := (yX11_rail, cX11_rail, 6, (some .int), 11, 3, false, [845, 257, 843, 844], [[(0, .iload_n 1, []), (1, .iconst 3, []), (2, .invokestatic 89, [110, 0, 2, 11, 790]), (5, .ifCond .eq 11, [16]), (8, .iload_n 2, []), (9, .iconst 4, []), (10, .invokestatic 89, [110, 0, 2, 11, 790]), (13, .ifCond .ne 5, [18])],
  [(16, .iconst (-1), []), (17, .ireturn, []), (18, .aload_n 0, []), (19, .getfield 83, [11, 13, 0, 0, 740]), (22, .iload_n 2, []), (23, .aaload, []), (24, .astore 4, []), (26, .aload 4, []), (28, .invokevirtual 151, [41, 0, 0, 8, 823]), (31, .ifCond .eq 6, [37])],
  [(34, .bipush (-11), []), (36, .ireturn, []), (37, .aload 4, []), (39, .getfield 155, [8, 1, 0, 0, 715]), (42, .iconst 1, []), (43, .if_icmp .eq 31, [74]), (46, .aload 4, [])],
  [(48, .getfield 155, [8, 1, 0, 0, 715]), (51, .bipush 12, []), (53, .if_icmp .gt 21, [74]), (56, .iload_n 3, []), (57, .iconst 0, []), (58, .bipush 20, []), (60, .invokestatic 93, [111, 0, 3, 11, 793]), (63, .ifCond .eq 11, [74])],
  [(66, .aload 4, []), (68, .invokestatic 190, [70, 0, 1, 11, 846]), (71, .ifCond .ne 6, [77]), (74, .bipush (-2), []), (76, .ireturn, []), (77, .aload_n 0, []), (78, .getfield 10, [11, 0, 0, 0, 727])],
  [(81, .getfield 194, [0, 8, 0, 0, 367]), (84, .iload_n 1, []), (85, .aaload, []), (86, .astore 5, []), (88, .aload 5, []), (90, .aload 4, []), (92, .getfield 155, [8, 1, 0, 0, 715]), (95, .putfield 198, [5, 0, 0, 0, 330])],
  [(98, .aload 5, []), (100, .iload_n 3, []), (101, .putfield 201, [5, 1, 0, 0, 333]), (104, .aload 4, []), (106, .getfield 155, [8, 1, 0, 0, 715]), (109, .ifCond .le 33, [142])],
  [(112, .aload 5, []), (114, .aload 4, []), (116, .getfield 181, [8, 2, 0, 0, 719]), (119, .iconst 0, []), (120, .iaload, []), (121, .putfield 204, [5, 2, 0, 0, 336]), (124, .aload 5, []), (126, .aload 4, [])],
  [(128, .getfield 181, [8, 2, 0, 0, 719]), (131, .aload 4, []), (133, .getfield 155, [8, 1, 0, 0, 715]), (136, .iconst 1, []), (137, .isub, []), (138, .iaload, []), (139, .putfield 207, [5, 3, 0, 0, 339]), (142, .aload 4, [])],
  [(144, .getfield 155, [8, 1, 0, 0, 715]), (147, .ireturn, [])]])
def mX11_isWay : im_M := (yX11_isWay, cX11_isWay, 2, (some .boolean), 11, 1, true, [848, 257, 847], [[(0, .iconst 0, []), (1, .istore_n 1, []), (2, .iload_n 1, []), (3, .aload_n 0, []), (4, .getfield 155, [8, 1, 0, 0, 715]), (7, .if_icmp .ge 51, [58]), (10, .aload_n 0, []), (11, .getfield 181, [8, 2, 0, 0, 719]), (14, .iload_n 1, []), (15, .iaload, [])],
  [(16, .bipush 100, []), (18, .invokestatic 89, [110, 0, 2, 11, 790]), (21, .ifCond .ne 5, [26]), (24, .iconst 0, []), (25, .ireturn, []), (26, .iload_n 1, []), (27, .ifCond .le 25, [52]), (30, .aload_n 0, []), (31, .getfield 181, [8, 2, 0, 0, 719])],
  [(34, .iload_n 1, []), (35, .iconst 1, []), (36, .isub, []), (37, .iaload, []), (38, .aload_n 0, []), (39, .getfield 181, [8, 2, 0, 0, 719]), (42, .iload_n 1, []), (43, .iaload, []), (44, .invokestatic 158, [113, 0, 2, 11, 827]), (47, .ifCond .ne 5, [52])],
  [(50, .iconst 0, []), (51, .ireturn, []), (52, .iinc 1 1, []), (55, .goto (-53), [2]), (58, .iconst 1, []), (59, .ireturn, [])]])
def mX11_room : im_M := (yX11_room, cX11_room, 6, (some .int), 11, 4, false, [852, 257, 850, 851], [[(0, .iload_n 1, []), (1, .bipush 100, []), (3, .invokestatic 89, [110, 0, 2, 11, 790]), (6, .ifCond .ne 5, [11]), (9, .iconst (-1), []), (10, .ireturn, []), (11, .iload_n 2, []), (12, .iconst 0, []), (13, .sipush 9999, [])],
  [(16, .invokestatic 93, [111, 0, 3, 11, 793]), (19, .ifCond .eq 25, [44]), (22, .iload_n 3, []), (23, .iconst 0, []), (24, .sipush 999, []), (27, .invokestatic 93, [111, 0, 3, 11, 793]), (30, .ifCond .eq 14, [44])],
  [(33, .iload 4, []), (35, .iconst 1, []), (36, .bipush 99, []), (38, .invokestatic 93, [111, 0, 3, 11, 793]), (41, .ifCond .ne 6, [47]), (44, .bipush (-2), []), (46, .ireturn, []), (47, .aload_n 0, [])],
  [(48, .getfield 63, [11, 10, 0, 0, 737]), (51, .getfield 210, [6, 0, 0, 0, 572]), (54, .bipush 12, []), (56, .if_icmp .lt 6, [62]), (59, .bipush (-4), []), (61, .ireturn, []), (62, .aload_n 0, []), (63, .getfield 63, [11, 10, 0, 0, 737])],
  [(66, .getfield 210, [6, 0, 0, 0, 572]), (69, .istore 5, []), (71, .aload_n 0, []), (72, .getfield 63, [11, 10, 0, 0, 737]), (75, .getfield 213, [6, 1, 0, 0, 574]), (78, .iload 5, [])],
  [(80, .iload_n 1, []), (81, .iastore, []), (82, .aload_n 0, []), (83, .getfield 63, [11, 10, 0, 0, 737]), (86, .getfield 216, [6, 2, 0, 0, 576]), (89, .iload 5, []), (91, .iload_n 2, []), (92, .iastore, []), (93, .aload_n 0, []), (94, .getfield 63, [11, 10, 0, 0, 737])],
  [(97, .getfield 219, [6, 3, 0, 0, 578]), (100, .iload 5, []), (102, .iload_n 3, []), (103, .iastore, []), (104, .aload_n 0, []), (105, .getfield 63, [11, 10, 0, 0, 737]), (108, .getfield 222, [6, 4, 0, 0, 580]), (111, .iload 5, [])],
  [(113, .iload 4, []), (115, .iastore, []), (116, .aload_n 0, []), (117, .getfield 63, [11, 10, 0, 0, 737]), (120, .dup, []), (121, .getfield 210, [6, 0, 0, 0, 572]), (124, .iconst 1, []), (125, .iadd, []), (126, .putfield 210, [6, 0, 0, 0, 572])],
  [(129, .iload 5, []), (131, .ireturn, [])]])
def mX11_feed : im_M := (yX11_feed, cX11_feed, 5, (some .int), 11, 2, false, [856, 257, 854, 855], [[(0, .iload_n 3, []), (1, .iconst 1, []), (2, .bipush 8, []), (4, .invokestatic 93, [111, 0, 3, 11, 793]), (7, .ifCond .ne 6, [13]), (10, .bipush (-2), []), (12, .ireturn, []), (13, .aload_n 0, []), (14, .getfield 36, [11, 5, 0, 0, 732])],
  [(17, .getfield 225, [10, 1, 0, 0, 531]), (20, .iload_n 3, []), (21, .iadd, []), (22, .sipush 160, []), (25, .if_icmp .le 6, [31]), (28, .bipush (-4), []), (30, .ireturn, []), (31, .iload_n 3, [])],
  [(32, .iconst 1, []), (33, .isub, []), (34, .istore 4, []), (36, .iload 4, []), (38, .ifCond .lt 49, [87]), (41, .aload_n 0, []), (42, .getfield 36, [11, 5, 0, 0, 732]), (45, .getfield 226, [10, 0, 0, 0, 529])],
  [(48, .aload_n 0, []), (49, .getfield 36, [11, 5, 0, 0, 732]), (52, .getfield 225, [10, 1, 0, 0, 531]), (55, .lload_n 1, []), (56, .bipush 8, []), (58, .iload 4, []), (60, .imul, []), (61, .lshr, []), (62, .l2i, []), (63, .sipush 255, [])],
  [(66, .iand, []), (67, .iastore, []), (68, .aload_n 0, []), (69, .getfield 36, [11, 5, 0, 0, 732]), (72, .dup, []), (73, .getfield 225, [10, 1, 0, 0, 531]), (76, .iconst 1, []), (77, .iadd, []), (78, .putfield 225, [10, 1, 0, 0, 531])],
  [(81, .iinc 4 (-1), []), (84, .goto (-48), [36]), (87, .aload_n 0, []), (88, .getfield 36, [11, 5, 0, 0, 732]), (91, .getfield 225, [10, 1, 0, 0, 531]), (94, .ireturn, [])]])
def mX11_order : im_M := (yX11_order, cX11_order, 2, (some .int), 11, 0, false, [860, 257, 858, 859], [[(0, .aload_n 0, []), (1, .getfield 46, [11, 7, 0, 0, 734]), (4, .bipush 6, []), (6, .if_icmp .lt 6, [12]), (9, .bipush (-4), []), (11, .ireturn, []), (12, .aload_n 0, []), (13, .getfield 36, [11, 5, 0, 0, 732])],
  [(16, .aload_n 0, []), (17, .getfield 42, [11, 6, 0, 0, 733]), (20, .aload_n 0, []), (21, .getfield 46, [11, 7, 0, 0, 734]), (24, .aaload, []), (25, .invokevirtual 229, [51, 0, 1, 10, 861]), (28, .istore_n 1, []), (29, .aload_n 0, []), (30, .getfield 36, [11, 5, 0, 0, 732])],
  [(33, .iconst 0, []), (34, .putfield 225, [10, 1, 0, 0, 531]), (37, .iload_n 1, []), (38, .ifCond .ne 14, [52]), (41, .bipush (-100), []), (43, .aload_n 0, []), (44, .getfield 36, [11, 5, 0, 0, 732]), (47, .getfield 233, [10, 2, 0, 0, 533])],
  [(50, .isub, []), (51, .ireturn, []), (52, .aload_n 0, []), (53, .dup, []), (54, .getfield 46, [11, 7, 0, 0, 734]), (57, .iconst 1, []), (58, .iadd, []), (59, .putfield 46, [11, 7, 0, 0, 734]), (62, .aload_n 0, []), (63, .getfield 46, [11, 7, 0, 0, 734])],
  [(66, .iconst 1, []), (67, .isub, []), (68, .ireturn, [])]])
def mX11_force : im_M := (yX11_force, cX11_force, 3, (some .int), 11, 1, false, [956, 257, 954, 955], [[(0, .iload_n 1, []), (1, .iconst (-1), []), (2, .if_icmp .eq 17, [19]), (5, .iload_n 1, []), (6, .aload_n 0, []), (7, .getfield 46, [11, 7, 0, 0, 734]), (10, .invokestatic 89, [110, 0, 2, 11, 790]), (13, .ifCond .ne 6, [19])],
  [(16, .bipush (-5), []), (18, .ireturn, []), (19, .aload_n 0, []), (20, .getfield 50, [11, 8, 0, 0, 735]), (23, .istore_n 2, []), (24, .aload_n 0, []), (25, .iload_n 1, []), (26, .putfield 50, [11, 8, 0, 0, 735]), (29, .aload_n 0, []), (30, .getfield 10, [11, 0, 0, 0, 727])],
  [(33, .iload_n 1, []), (34, .iconst (-1), []), (35, .if_icmp .ne 7, [42]), (38, .aconst_null, []), (39, .goto 9, [48]), (42, .aload_n 0, []), (43, .getfield 42, [11, 6, 0, 0, 733]), (46, .iload_n 1, []), (47, .aaload, [])],
  [(48, .putfield 236, [0, 12, 0, 0, 375]), (51, .iload_n 2, []), (52, .ireturn, [])]])
def mX11_says : im_M := (yX11_says, cX11_says, 3, (some .int), 11, 2, false, [960, 257, 958, 959], [[(0, .iload_n 1, []), (1, .aload_n 0, []), (2, .getfield 10, [11, 0, 0, 0, 727]), (5, .getfield 104, [0, 2, 0, 0, 355]), (8, .invokestatic 89, [110, 0, 2, 11, 790]), (11, .ifCond .ne 5, [16]), (14, .iconst (-1), []), (15, .ireturn, [])],
  [(16, .iload_n 2, []), (17, .iconst 3, []), (18, .invokestatic 89, [110, 0, 2, 11, 790]), (21, .ifCond .ne 6, [27]), (24, .bipush (-2), []), (26, .ireturn, []), (27, .aload_n 0, []), (28, .getfield 10, [11, 0, 0, 0, 727]), (31, .aload_n 0, [])],
  [(32, .getfield 19, [11, 1, 0, 0, 728]), (35, .iload_n 1, []), (36, .iload_n 2, []), (37, .invokevirtual 239, [3, 0, 3, 0, 961]), (40, .ireturn, [])]])
def mX11_run : im_M := (yX11_run, cX11_run, 3, (some .int), 11, 1, false, [972, 257, 970, 971], [[(0, .iload_n 1, []), (1, .iconst 1, []), (2, .bipush 60, []), (4, .invokestatic 93, [111, 0, 3, 11, 793]), (7, .ifCond .ne 6, [13]), (10, .bipush (-2), []), (12, .ireturn, []), (13, .aload_n 0, []), (14, .getfield 19, [11, 1, 0, 0, 728])],
  [(17, .getfield 243, [9, 0, 0, 0, 415]), (20, .iload_n 1, []), (21, .iadd, []), (22, .sipush 2000, []), (25, .if_icmp .le 6, [31]), (28, .bipush (-4), []), (30, .ireturn, []), (31, .iconst 0, [])],
  [(32, .istore_n 2, []), (33, .iload_n 2, []), (34, .iload_n 1, []), (35, .if_icmp .ge 20, [55]), (38, .aload_n 0, []), (39, .getfield 10, [11, 0, 0, 0, 727]), (42, .aload_n 0, []), (43, .getfield 19, [11, 1, 0, 0, 728]), (46, .invokevirtual 246, [7, 0, 1, 0, 973])],
  [(49, .iinc 2 1, []), (52, .goto (-19), [33]), (55, .aload_n 0, []), (56, .getfield 19, [11, 1, 0, 0, 728]), (59, .getfield 243, [9, 0, 0, 0, 415]), (62, .ireturn, [])]])
def mX11_cellTold : im_M := (yX11_cellTold, cX11_cellTold, 3, (some .int), 11, 2, false, [1053, 257, 1051, 1052], [[(0, .iload_n 1, []), (1, .bipush 100, []), (3, .invokestatic 89, [110, 0, 2, 11, 790]), (6, .ifCond .ne 5, [11]), (9, .iconst (-1), []), (10, .ireturn, []), (11, .iload_n 2, []), (12, .tableswitch 75 0 2 #[28, 38, 66], [87, 0, 28])],
  [],
  [(40, .aload_n 0, []), (41, .getfield 19, [11, 1, 0, 0, 728]), (44, .getfield 97, [9, 6, 0, 0, 433]), (47, .iload_n 1, [])],
  [(48, .iaload, []), (49, .ireturn, []), (50, .aload_n 0, []), (51, .getfield 10, [11, 0, 0, 0, 727]), (54, .getfield 101, [0, 0, 0, 0, 351]), (57, .iload_n 1, []), (58, .iaload, []), (59, .iconst (-1), []), (60, .if_icmp .ne 8, [68]), (63, .bipush (-5), [])],
  [(65, .goto 12, [77]), (68, .aload_n 0, []), (69, .getfield 10, [11, 0, 0, 0, 727]), (72, .getfield 101, [0, 0, 0, 0, 351]), (75, .iload_n 1, []), (76, .iaload, []), (77, .ireturn, []), (78, .aload_n 0, []), (79, .getfield 10, [11, 0, 0, 0, 727])],
  [(82, .iload_n 1, []), (83, .invokevirtual 250, [2, 0, 1, 0, 1054]), (86, .ireturn, []), (87, .bipush (-2), []), (89, .ireturn, [])]])
def mX11_kindTold : im_M := (yX11_kindTold, cX11_kindTold, 3, (some .int), 11, 2, false, [1058, 257, 1056, 1057], [[(0, .iload_n 1, []), (1, .bipush 6, []), (3, .invokestatic 89, [110, 0, 2, 11, 790]), (6, .ifCond .ne 6, [12]), (9, .bipush (-2), []), (11, .ireturn, []), (12, .iload_n 2, []), (13, .tableswitch 55 0 3 #[31, 37, 43, 49], [68, 0, 31])],
  [],
  [(44, .getstatic 254, [0, 0, 0, 0, 1059]), (47, .iload_n 1, [])],
  [(48, .iaload, []), (49, .ireturn, []), (50, .getstatic 257, [1, 0, 0, 0, 1060]), (53, .iload_n 1, []), (54, .iaload, []), (55, .ireturn, []), (56, .getstatic 260, [2, 0, 0, 0, 1061]), (59, .iload_n 1, []), (60, .iaload, []), (61, .ireturn, []), (62, .getstatic 263, [3, 0, 0, 0, 1062])],
  [(65, .iload_n 1, []), (66, .iaload, []), (67, .ireturn, []), (68, .bipush (-2), []), (70, .ireturn, [])]])
def mX11_personTold : im_M := (yX11_personTold, cX11_personTold, 3, (some .int), 11, 2, false, [1066, 257, 1064, 1065], [[(0, .iload_n 1, []), (1, .aload_n 0, []), (2, .getfield 10, [11, 0, 0, 0, 727]), (5, .getfield 104, [0, 2, 0, 0, 355]), (8, .invokestatic 89, [110, 0, 2, 11, 790]), (11, .ifCond .ne 5, [16]), (14, .iconst (-1), []), (15, .ireturn, [])],
  [(16, .iload_n 2, []), (17, .tableswitch 127 0 6 #[43, 53, 63, 73, 83, 101, 114], [144, 0, 43])],
  [],
  [(60, .aload_n 0, []), (61, .getfield 19, [11, 1, 0, 0, 728])],
  [(64, .getfield 116, [9, 7, 0, 0, 436]), (67, .iload_n 1, []), (68, .iaload, []), (69, .ireturn, []), (70, .aload_n 0, []), (71, .getfield 19, [11, 1, 0, 0, 728]), (74, .getfield 266, [9, 8, 0, 0, 440]), (77, .iload_n 1, []), (78, .iaload, []), (79, .ireturn, [])],
  [(80, .aload_n 0, []), (81, .getfield 19, [11, 1, 0, 0, 728]), (84, .getfield 269, [9, 9, 0, 0, 443]), (87, .iload_n 1, []), (88, .iaload, []), (89, .ireturn, []), (90, .aload_n 0, []), (91, .getfield 19, [11, 1, 0, 0, 728]), (94, .getfield 272, [9, 10, 0, 0, 446])],
  [(97, .iload_n 1, []), (98, .iaload, []), (99, .ireturn, []), (100, .aload_n 0, []), (101, .getfield 19, [11, 1, 0, 0, 728]), (104, .getfield 119, [9, 11, 0, 0, 448]), (107, .iload_n 1, []), (108, .baload, []), (109, .ifCond .eq 7, [116])],
  [(112, .iconst 1, []), (113, .goto 4, [117]), (116, .iconst 0, []), (117, .ireturn, []), (118, .aload_n 0, []), (119, .getfield 10, [11, 0, 0, 0, 727]), (122, .aload_n 0, []), (123, .getfield 19, [11, 1, 0, 0, 728]), (126, .iload_n 1, []), (127, .invokevirtual 275, [4, 0, 2, 0, 1067])],
  [(130, .ireturn, []), (131, .aload_n 0, []), (132, .getfield 10, [11, 0, 0, 0, 727]), (135, .aload_n 0, []), (136, .getfield 19, [11, 1, 0, 0, 728]), (139, .iload_n 1, []), (140, .invokevirtual 279, [5, 0, 2, 0, 1068]), (143, .ireturn, [])],
  [(144, .bipush (-2), []), (146, .ireturn, [])]])
def mX11_rowTold : im_M := (yX11_rowTold, cX11_rowTold, 3, (some .int), 11, 2, false, [1072, 257, 1070, 1071], [[(0, .iload_n 1, []), (1, .iconst 4, []), (2, .invokestatic 89, [110, 0, 2, 11, 790]), (5, .ifCond .ne 6, [11]), (8, .bipush (-5), []), (10, .ireturn, []), (11, .iload_n 2, []), (12, .tableswitch 80 0 2 #[28, 41, 51], [92, 0, 28])],
  [],
  [(40, .aload_n 0, []), (41, .getfield 10, [11, 0, 0, 0, 727]), (44, .getfield 169, [0, 7, 0, 0, 365]), (47, .iload_n 1, [])],
  [(48, .aaload, []), (49, .getfield 282, [7, 1, 0, 0, 307]), (52, .ireturn, []), (53, .aload_n 0, []), (54, .getfield 19, [11, 1, 0, 0, 728]), (57, .getfield 283, [9, 15, 0, 0, 461]), (60, .iload_n 1, []), (61, .iaload, []), (62, .ireturn, []), (63, .aload_n 0, [])],
  [(64, .getfield 10, [11, 0, 0, 0, 727]), (67, .getfield 169, [0, 7, 0, 0, 365]), (70, .iload_n 1, []), (71, .aaload, []), (72, .getfield 282, [7, 1, 0, 0, 307]), (75, .ifCond .ne 7, [82]), (78, .iconst (-1), []), (79, .goto 12, [91])],
  [(82, .aload_n 0, []), (83, .getfield 19, [11, 1, 0, 0, 728]), (86, .getfield 286, [9, 16, 0, 0, 464]), (89, .iload_n 1, []), (90, .iaload, []), (91, .ireturn, []), (92, .bipush (-2), []), (94, .ireturn, [])]])
def mX11_railTold : im_M := (yX11_railTold, cX11_railTold, 3, (some .int), 11, 2, false, [1076, 257, 1074, 1075], [[(0, .iload_n 1, []), (1, .iconst 3, []), (2, .invokestatic 89, [110, 0, 2, 11, 790]), (5, .ifCond .ne 5, [10]), (8, .iconst (-1), []), (9, .ireturn, []), (10, .iload_n 2, []), (11, .lookupswitch 48 #[(0, 25), (1, 38)], [0, 0, 25])],
  [],
  [(36, .aload_n 0, []), (37, .getfield 10, [11, 0, 0, 0, 727]), (40, .getfield 194, [0, 8, 0, 0, 367]), (43, .iload_n 1, []), (44, .aaload, []), (45, .getfield 198, [5, 0, 0, 0, 330])],
  [(48, .ireturn, []), (49, .aload_n 0, []), (50, .getfield 19, [11, 1, 0, 0, 728]), (53, .getfield 289, [9, 17, 0, 0, 467]), (56, .iload_n 1, []), (57, .iaload, []), (58, .ireturn, []), (59, .bipush (-2), []), (61, .ireturn, [])]])
def mX11_wallTold : im_M := (yX11_wallTold, cX11_wallTold, 3, (some .int), 11, 2, false, [1080, 257, 1078, 1079], [[(0, .iload_n 1, []), (1, .aload_n 0, []), (2, .getfield 10, [11, 0, 0, 0, 727]), (5, .getfield 127, [0, 9, 0, 0, 369]), (8, .invokestatic 89, [110, 0, 2, 11, 790]), (11, .ifCond .ne 5, [16]), (14, .iconst (-1), []), (15, .ireturn, [])],
  [(16, .iload_n 2, []), (17, .tableswitch 65 0 2 #[27, 45, 55], [82, 0, 27])],
  [(44, .aload_n 0, []), (45, .getfield 19, [11, 1, 0, 0, 728])],
  [(48, .getfield 139, [9, 13, 0, 0, 454]), (51, .iload_n 1, []), (52, .baload, []), (53, .ifCond .eq 7, [60]), (56, .iconst 1, []), (57, .goto 4, [61]), (60, .iconst 0, []), (61, .ireturn, []), (62, .aload_n 0, []), (63, .getfield 19, [11, 1, 0, 0, 728])],
  [(66, .getfield 136, [9, 12, 0, 0, 451]), (69, .iload_n 1, []), (70, .iaload, []), (71, .ireturn, []), (72, .aload_n 0, []), (73, .getfield 10, [11, 0, 0, 0, 727]), (76, .getfield 133, [0, 11, 0, 0, 373]), (79, .iload_n 1, [])],
  [(80, .iaload, []), (81, .ireturn, []), (82, .bipush (-2), []), (84, .ireturn, [])]])
def mX11_count : im_M := (yX11_count, cX11_count, 2, (some .int), 11, 1, false, [1084, 257, 1082, 1083], [[(0, .iload_n 1, []), (1, .tableswitch 183 0 13 #[71, 79, 87, 95, 103, 113, 123, 133, 141, 149, 154, 159, 167, 175], [184, 0, 71])],
  [],
  [],
  [],
  [(72, .aload_n 0, []), (73, .getfield 19, [11, 1, 0, 0, 728]), (76, .getfield 243, [9, 0, 0, 0, 415]), (79, .ireturn, [])],
  [(80, .aload_n 0, []), (81, .getfield 19, [11, 1, 0, 0, 728]), (84, .invokevirtual 292, [47, 0, 0, 9, 1085]), (87, .ireturn, []), (88, .aload_n 0, []), (89, .getfield 19, [11, 1, 0, 0, 728]), (92, .getfield 296, [9, 3, 0, 0, 424]), (95, .ireturn, [])],
  [(96, .aload_n 0, []), (97, .getfield 19, [11, 1, 0, 0, 728]), (100, .getfield 299, [9, 4, 0, 0, 427]), (103, .ireturn, []), (104, .aload_n 0, []), (105, .getfield 19, [11, 1, 0, 0, 728]), (108, .getfield 302, [9, 5, 0, 0, 431]), (111, .iconst 0, [])],
  [(112, .iaload, []), (113, .ireturn, []), (114, .aload_n 0, []), (115, .getfield 19, [11, 1, 0, 0, 728]), (118, .getfield 302, [9, 5, 0, 0, 431]), (121, .iconst 1, []), (122, .iaload, []), (123, .ireturn, []), (124, .aload_n 0, []), (125, .getfield 19, [11, 1, 0, 0, 728])],
  [(128, .getfield 302, [9, 5, 0, 0, 431]), (131, .iconst 2, []), (132, .iaload, []), (133, .ireturn, []), (134, .aload_n 0, []), (135, .getfield 10, [11, 0, 0, 0, 727]), (138, .getfield 104, [0, 2, 0, 0, 355]), (141, .ireturn, []), (142, .aload_n 0, []), (143, .getfield 19, [11, 1, 0, 0, 728])],
  [(146, .invokevirtual 305, [48, 0, 0, 9, 1089]), (149, .ireturn, []), (150, .aload_n 0, []), (151, .getfield 46, [11, 7, 0, 0, 734]), (154, .ireturn, []), (155, .aload_n 0, []), (156, .getfield 50, [11, 8, 0, 0, 735]), (159, .ireturn, [])],
  [(160, .aload_n 0, []), (161, .getfield 36, [11, 5, 0, 0, 732]), (164, .getfield 225, [10, 1, 0, 0, 531]), (167, .ireturn, []), (168, .aload_n 0, []), (169, .getfield 63, [11, 10, 0, 0, 737]), (172, .getfield 210, [6, 0, 0, 0, 572]), (175, .ireturn, [])],
  [(176, .aload_n 0, []), (177, .getfield 10, [11, 0, 0, 0, 727]), (180, .getfield 127, [0, 9, 0, 0, 369]), (183, .ireturn, []), (184, .bipush (-2), []), (186, .ireturn, [])]])
def mX11_pull : im_M := (yX11_pull, cX11_pull, 2, (some .int), 11, 1, false, [1096, 257, 1094, 1095], [[(0, .iload_n 1, []), (1, .aload_n 0, []), (2, .getfield 10, [11, 0, 0, 0, 727]), (5, .getfield 127, [0, 9, 0, 0, 369]), (8, .invokestatic 89, [110, 0, 2, 11, 790]), (11, .ifCond .ne 5, [16]), (14, .iconst (-1), []), (15, .ireturn, [])],
  [(16, .aload_n 0, []), (17, .getfield 19, [11, 1, 0, 0, 728]), (20, .getfield 139, [9, 13, 0, 0, 454]), (23, .iload_n 1, []), (24, .baload, []), (25, .ifCond .ne 6, [31]), (28, .bipush (-3), []), (30, .ireturn, []), (31, .aload_n 0, [])],
  [(32, .getfield 10, [11, 0, 0, 0, 727]), (35, .aload_n 0, []), (36, .getfield 19, [11, 1, 0, 0, 728]), (39, .iload_n 1, []), (40, .invokevirtual 308, [14, 0, 2, 0, 1097]), (43, .ireturn, [])]])
def mX11_pulls : im_M := (yX11_pulls, cX11_pulls, 4, (some .int), 11, 1, false, [1101, 257, 1099, 1100], [[(0, .iload_n 1, []), (1, .iconst 4, []), (2, .invokestatic 89, [110, 0, 2, 11, 790]), (5, .ifCond .ne 5, [10]), (8, .iconst (-1), []), (9, .ireturn, []), (10, .aload_n 0, []), (11, .getfield 83, [11, 13, 0, 0, 740]), (14, .iload_n 1, []), (15, .aaload, [])],
  [(16, .astore_n 2, []), (17, .aload_n 2, []), (18, .invokevirtual 151, [41, 0, 0, 8, 823]), (21, .ifCond .eq 6, [27]), (24, .bipush (-11), []), (26, .ireturn, []), (27, .aload_n 2, []), (28, .getfield 155, [8, 1, 0, 0, 715]), (31, .iconst 1, [])],
  [(32, .bipush 6, []), (34, .invokestatic 93, [111, 0, 3, 11, 793]), (37, .ifCond .eq 11, [48]), (40, .aload_n 0, []), (41, .aload_n 2, []), (42, .invokevirtual 311, [86, 0, 1, 11, 1102]), (45, .ifCond .ne 6, [51])],
  [(48, .bipush (-2), []), (50, .ireturn, []), (51, .iconst 0, []), (52, .istore_n 3, []), (53, .iload_n 3, []), (54, .aload_n 2, []), (55, .getfield 155, [8, 1, 0, 0, 715]), (58, .if_icmp .ge 35, [93]), (61, .aload_n 0, []), (62, .getfield 56, [11, 9, 0, 0, 736])],
  [(65, .getfield 314, [3, 3, 0, 0, 555]), (68, .iload_n 3, []), (69, .aload_n 0, []), (70, .getfield 10, [11, 0, 0, 0, 727]), (73, .aload_n 0, []), (74, .getfield 19, [11, 1, 0, 0, 728]), (77, .aload_n 2, []), (78, .getfield 181, [8, 2, 0, 0, 719])],
  [(81, .iload_n 3, []), (82, .iaload, []), (83, .invokevirtual 317, [16, 0, 2, 0, 1106]), (86, .iastore, []), (87, .iinc 3 1, []), (90, .goto (-37), [53]), (93, .aload_n 0, []), (94, .getfield 56, [11, 9, 0, 0, 736])],
  [(97, .aload_n 2, []), (98, .invokevirtual 320, [23, 0, 1, 3, 1110]), (101, .ireturn, [])]])
def mX11_areWallsToPull : im_M := (yX11_areWallsToPull, cX11_areWallsToPull, 4, (some .boolean), 11, 1, false, [1105, 257, 1104, 1], [[(0, .iconst 0, []), (1, .istore_n 2, []), (2, .iload_n 2, []), (3, .aload_n 1, []), (4, .getfield 155, [8, 1, 0, 0, 715]), (7, .if_icmp .ge 53, [60]), (10, .aload_n 1, []), (11, .getfield 181, [8, 2, 0, 0, 719]), (14, .iload_n 2, []), (15, .iaload, [])],
  [(16, .istore_n 3, []), (17, .iload_n 3, []), (18, .aload_n 0, []), (19, .getfield 10, [11, 0, 0, 0, 727]), (22, .getfield 127, [0, 9, 0, 0, 369]), (25, .invokestatic 89, [110, 0, 2, 11, 790]), (28, .ifCond .eq 24, [52]), (31, .aload_n 0, [])],
  [(32, .getfield 19, [11, 1, 0, 0, 728]), (35, .getfield 139, [9, 13, 0, 0, 454]), (38, .iload_n 3, []), (39, .baload, []), (40, .ifCond .eq 12, [52]), (43, .aload_n 1, []), (44, .iload_n 2, []), (45, .iload_n 3, []), (46, .invokevirtual 184, [44, 0, 2, 8, 834])],
  [(49, .ifCond .eq 5, [54]), (52, .iconst 0, []), (53, .ireturn, []), (54, .iinc 2 1, []), (57, .goto (-55), [2]), (60, .iconst 1, []), (61, .ireturn, [])]])
def mX11_pullTold : im_M := (yX11_pullTold, cX11_pullTold, 2, (some .int), 11, 1, false, [1133, 257, 1131, 1132], [[(0, .iload_n 1, []), (1, .aload_n 0, []), (2, .getfield 56, [11, 9, 0, 0, 736]), (5, .getfield 324, [3, 0, 0, 0, 550]), (8, .invokestatic 89, [110, 0, 2, 11, 790]), (11, .ifCond .eq 15, [26]), (14, .aload_n 0, []), (15, .getfield 56, [11, 9, 0, 0, 736])],
  [(18, .getfield 325, [3, 1, 0, 0, 552]), (21, .iload_n 1, []), (22, .iaload, []), (23, .goto 4, [27]), (26, .iconst (-1), []), (27, .ireturn, [])]])
def mX11_mends : im_M := (yX11_mends, cX11_mends, 2, (some .int), 11, 1, false, [1137, 257, 1135, 1136], [[(0, .iload_n 1, []), (1, .iconst 0, []), (2, .bipush 12, []), (4, .invokestatic 93, [111, 0, 3, 11, 793]), (7, .ifCond .ne 6, [13]), (10, .bipush (-2), []), (12, .ireturn, []), (13, .aload_n 0, []), (14, .getfield 63, [11, 10, 0, 0, 737])],
  [(17, .aload_n 0, []), (18, .getfield 19, [11, 1, 0, 0, 728]), (21, .iload_n 1, []), (22, .invokevirtual 328, [37, 0, 2, 6, 1138]), (25, .ireturn, [])]])
def mX11_mendTold : im_M := (yX11_mendTold, cX11_mendTold, 1, (some .int), 11, 0, false, [1149, 257, 1147, 1148], [[(0, .aload_n 0, []), (1, .getfield 63, [11, 10, 0, 0, 737]), (4, .getfield 331, [6, 5, 0, 0, 582]), (7, .ireturn, [])]])
def mX11_mend : im_M := (yX11_mend, cX11_mend, 2, (some .int), 11, 1, false, [1153, 257, 1151, 1152], [[(0, .iload_n 1, []), (1, .aload_n 0, []), (2, .getfield 63, [11, 10, 0, 0, 737]), (5, .getfield 210, [6, 0, 0, 0, 572]), (8, .invokestatic 89, [110, 0, 2, 11, 790]), (11, .ifCond .ne 5, [16]), (14, .iconst (-1), []), (15, .ireturn, [])],
  [(16, .aload_n 0, []), (17, .getfield 19, [11, 1, 0, 0, 728]), (20, .getfield 334, [9, 14, 0, 0, 458]), (23, .iload_n 1, []), (24, .baload, []), (25, .ifCond .eq 6, [31]), (28, .bipush (-3), []), (30, .ireturn, []), (31, .aload_n 0, [])],
  [(32, .getfield 63, [11, 10, 0, 0, 737]), (35, .getfield 216, [6, 2, 0, 0, 576]), (38, .iload_n 1, []), (39, .iaload, []), (40, .aload_n 0, []), (41, .getfield 19, [11, 1, 0, 0, 728]), (44, .getfield 302, [9, 5, 0, 0, 431]), (47, .iconst 0, [])],
  [(48, .iaload, []), (49, .if_icmp .gt 24, [73]), (52, .aload_n 0, []), (53, .getfield 63, [11, 10, 0, 0, 737]), (56, .getfield 219, [6, 3, 0, 0, 578]), (59, .iload_n 1, []), (60, .iaload, []), (61, .aload_n 0, []), (62, .getfield 19, [11, 1, 0, 0, 728])],
  [(65, .getfield 302, [9, 5, 0, 0, 431]), (68, .iconst 1, []), (69, .iaload, []), (70, .if_icmp .le 6, [76]), (73, .bipush (-6), []), (75, .ireturn, []), (76, .aload_n 0, []), (77, .getfield 19, [11, 1, 0, 0, 728])],
  [(80, .getfield 302, [9, 5, 0, 0, 431]), (83, .iconst 0, []), (84, .dup2, []), (85, .iaload, []), (86, .aload_n 0, []), (87, .getfield 63, [11, 10, 0, 0, 737]), (90, .getfield 216, [6, 2, 0, 0, 576]), (93, .iload_n 1, []), (94, .iaload, []), (95, .isub, [])],
  [(96, .iastore, []), (97, .aload_n 0, []), (98, .getfield 19, [11, 1, 0, 0, 728]), (101, .getfield 302, [9, 5, 0, 0, 431]), (104, .iconst 1, []), (105, .dup2, []), (106, .iaload, []), (107, .aload_n 0, []), (108, .getfield 63, [11, 10, 0, 0, 737]), (111, .getfield 219, [6, 3, 0, 0, 578])],
  [(114, .iload_n 1, []), (115, .iaload, []), (116, .isub, []), (117, .iastore, []), (118, .aload_n 0, []), (119, .getfield 19, [11, 1, 0, 0, 728]), (122, .getfield 334, [9, 14, 0, 0, 458]), (125, .iload_n 1, []), (126, .iconst 1, []), (127, .bastore, [])],
  [(128, .aload_n 0, []), (129, .getfield 19, [11, 1, 0, 0, 728]), (132, .getfield 302, [9, 5, 0, 0, 431]), (135, .iconst 0, []), (136, .iaload, []), (137, .ireturn, [])]])
def mX11_roomTold : im_M := (yX11_roomTold, cX11_roomTold, 3, (some .int), 11, 2, false, [1157, 257, 1155, 1156], [[(0, .iload_n 1, []), (1, .aload_n 0, []), (2, .getfield 63, [11, 10, 0, 0, 737]), (5, .getfield 210, [6, 0, 0, 0, 572]), (8, .invokestatic 89, [110, 0, 2, 11, 790]), (11, .ifCond .ne 5, [16]), (14, .iconst (-1), []), (15, .ireturn, [])],
  [(16, .iload_n 2, []), (17, .tableswitch 65 0 2 #[27, 37, 55], [82, 0, 27])],
  [(44, .aload_n 0, []), (45, .getfield 63, [11, 10, 0, 0, 737])],
  [(48, .getfield 213, [6, 1, 0, 0, 574]), (51, .iload_n 1, []), (52, .iaload, []), (53, .ireturn, []), (54, .aload_n 0, []), (55, .getfield 19, [11, 1, 0, 0, 728]), (58, .getfield 334, [9, 14, 0, 0, 458]), (61, .iload_n 1, []), (62, .baload, []), (63, .ifCond .eq 7, [70])],
  [(66, .iconst 1, []), (67, .goto 4, [71]), (70, .iconst 0, []), (71, .ireturn, []), (72, .aload_n 0, []), (73, .getfield 63, [11, 10, 0, 0, 737]), (76, .getfield 222, [6, 4, 0, 0, 580]), (79, .iload_n 1, [])],
  [(80, .iaload, []), (81, .ireturn, []), (82, .bipush (-2), []), (84, .ireturn, [])]])
def mX11_raid : im_M := (yX11_raid, cX11_raid, 5, (some .int), 11, 4, false, [1161, 257, 1159, 1160], [[(0, .iload_n 1, []), (1, .bipush 100, []), (3, .invokestatic 89, [110, 0, 2, 11, 790]), (6, .ifCond .ne 5, [11]), (9, .iconst (-1), []), (10, .ireturn, []), (11, .iload_n 2, []), (12, .iconst 4, []), (13, .invokestatic 89, [110, 0, 2, 11, 790])],
  [(16, .ifCond .eq 24, [40]), (19, .iload_n 3, []), (20, .iconst 1, []), (21, .bipush 10, []), (23, .invokestatic 93, [111, 0, 3, 11, 793]), (26, .ifCond .eq 14, [40]), (29, .iload 4, []), (31, .iconst 1, [])],
  [(32, .bipush 9, []), (34, .invokestatic 93, [111, 0, 3, 11, 793]), (37, .ifCond .ne 6, [43]), (40, .bipush (-2), []), (42, .ireturn, []), (43, .aload_n 0, []), (44, .getfield 70, [11, 11, 0, 0, 738]), (47, .getfield 337, [4, 0, 0, 0, 614])],
  [(50, .bipush 8, []), (52, .if_icmp .lt 6, [58]), (55, .bipush (-4), []), (57, .ireturn, []), (58, .aload_n 0, []), (59, .getfield 70, [11, 11, 0, 0, 738]), (62, .iload_n 1, []), (63, .iload_n 2, [])],
  [(64, .iload_n 3, []), (65, .iload 4, []), (67, .invokevirtual 338, [29, 0, 4, 4, 1162]), (70, .ireturn, [])]])
def mX11_probe : im_M := (yX11_probe, cX11_probe, 3, (some .int), 11, 2, false, [1170, 257, 1168, 1169], [[(0, .iload_n 1, []), (1, .bipush 100, []), (3, .invokestatic 89, [110, 0, 2, 11, 790]), (6, .ifCond .ne 5, [11]), (9, .iconst (-1), []), (10, .ireturn, []), (11, .iload_n 2, []), (12, .iconst 0, []), (13, .bipush 9, []), (15, .invokestatic 93, [111, 0, 3, 11, 793])],
  [(18, .ifCond .ne 6, [24]), (21, .bipush (-2), []), (23, .ireturn, []), (24, .aload_n 0, []), (25, .getfield 70, [11, 11, 0, 0, 738]), (28, .getfield 342, [4, 5, 0, 0, 620]), (31, .iload_n 1, [])],
  [(32, .baload, []), (33, .ifCond .eq 6, [39]), (36, .bipush (-3), []), (38, .ireturn, []), (39, .iload_n 2, []), (40, .aload_n 0, []), (41, .getfield 70, [11, 11, 0, 0, 738]), (44, .iload_n 1, []), (45, .invokevirtual 345, [31, 0, 1, 4, 1171])],
  [(48, .if_icmp .le 6, [54]), (51, .bipush (-6), []), (53, .ireturn, []), (54, .aload_n 0, []), (55, .getfield 70, [11, 11, 0, 0, 738]), (58, .iload_n 1, []), (59, .iload_n 2, []), (60, .invokevirtual 348, [32, 0, 2, 4, 1179]), (63, .aload_n 0, [])],
  [(64, .getfield 70, [11, 11, 0, 0, 738]), (67, .iload_n 1, []), (68, .invokevirtual 345, [31, 0, 1, 4, 1171]), (71, .ireturn, [])]])
def mX11_likely : im_M := (yX11_likely, cX11_likely, 5, (some .long), 11, 2, false, [1187, 257, 1185, 1186], [[(0, .iload_n 1, []), (1, .bipush 100, []), (3, .invokestatic 89, [110, 0, 2, 11, 790]), (6, .ifCond .eq 11, [17]), (9, .iload_n 2, []), (10, .iconst 2, []), (11, .invokestatic 89, [110, 0, 2, 11, 790]), (14, .ifCond .ne 7, [21])],
  [(17, .ldc2_w 351, [0, 0, 0, 0, 1188]), (20, .lreturn, []), (21, .aload_n 0, []), (22, .getfield 70, [11, 11, 0, 0, 738]), (25, .iload_n 1, []), (26, .invokevirtual 353, [33, 0, 1, 4, 1189]), (29, .istore_n 3, []), (30, .iload_n 3, []), (31, .sipush 2520, [])],
  [(34, .invokestatic 356, [115, 0, 2, 11, 1193]), (37, .istore 4, []), (39, .iload_n 2, []), (40, .ifCond .ne 7, [47]), (43, .iload_n 3, []), (44, .goto 6, [50]), (47, .sipush 2520, [])],
  [(50, .iload 4, []), (52, .iconst 1, []), (53, .invokestatic 359, [0, 5, 2, 0, 1196]), (56, .idiv, []), (57, .i2l, []), (58, .lreturn, [])]])
def mX11_next : im_M := (yX11_next, cX11_next, 1, (some .int), 11, 0, false, [1200, 257, 1198, 1199], [[(0, .aload_n 0, []), (1, .getfield 70, [11, 11, 0, 0, 738]), (4, .invokevirtual 364, [34, 0, 0, 4, 1201]), (7, .ireturn, [])]])
def mX11_paper : im_M := (yX11_paper, cX11_paper, 5, (some .int), 11, 3, false, [1209, 257, 1207, 1208], [[(0, .iload_n 1, []), (1, .bipush 12, []), (3, .invokestatic 89, [110, 0, 2, 11, 790]), (6, .ifCond .eq 17, [23]), (9, .iload_n 2, []), (10, .aload_n 0, []), (11, .getfield 10, [11, 0, 0, 0, 727]), (14, .getfield 104, [0, 2, 0, 0, 355])],
  [(17, .invokestatic 89, [110, 0, 2, 11, 790]), (20, .ifCond .ne 5, [25]), (23, .iconst (-1), []), (24, .ireturn, []), (25, .iload_n 3, []), (26, .iconst 0, []), (27, .sipush 2000, []), (30, .invokestatic 93, [111, 0, 3, 11, 793])],
  [(33, .ifCond .ne 6, [39]), (36, .bipush (-2), []), (38, .ireturn, []), (39, .aload_n 0, []), (40, .getfield 77, [11, 12, 0, 0, 739]), (43, .getfield 367, [2, 0, 0, 0, 642]), (46, .bipush 24, [])],
  [(48, .if_icmp .lt 6, [54]), (51, .bipush (-4), []), (53, .ireturn, []), (54, .aload_n 0, []), (55, .getfield 77, [11, 12, 0, 0, 739]), (58, .getfield 367, [2, 0, 0, 0, 642]), (61, .istore 4, []), (63, .aload_n 0, [])],
  [(64, .getfield 77, [11, 12, 0, 0, 739]), (67, .getfield 368, [2, 1, 0, 0, 644]), (70, .iload 4, []), (72, .iload_n 1, []), (73, .iastore, []), (74, .aload_n 0, []), (75, .getfield 77, [11, 12, 0, 0, 739]), (78, .getfield 371, [2, 2, 0, 0, 646])],
  [(81, .iload 4, []), (83, .iload_n 2, []), (84, .iastore, []), (85, .aload_n 0, []), (86, .getfield 77, [11, 12, 0, 0, 739]), (89, .getfield 374, [2, 3, 0, 0, 648]), (92, .iload 4, []), (94, .iload_n 3, []), (95, .iastore, [])],
  [(96, .aload_n 0, []), (97, .getfield 77, [11, 12, 0, 0, 739]), (100, .getfield 376, [2, 4, 0, 0, 650]), (103, .iload 4, []), (105, .aload_n 0, []), (106, .getfield 19, [11, 1, 0, 0, 728]), (109, .getfield 243, [9, 0, 0, 0, 415])],
  [(112, .iastore, []), (113, .aload_n 0, []), (114, .getfield 77, [11, 12, 0, 0, 739]), (117, .dup, []), (118, .getfield 367, [2, 0, 0, 0, 642]), (121, .iconst 1, []), (122, .iadd, []), (123, .putfield 367, [2, 0, 0, 0, 642]), (126, .iload 4, [])],
  [(128, .ireturn, [])]])
def mX11_burn : im_M := (yX11_burn, cX11_burn, 2, (some .int), 11, 1, false, [1213, 257, 1211, 1212], [[(0, .iload_n 1, []), (1, .aload_n 0, []), (2, .getfield 77, [11, 12, 0, 0, 739]), (5, .getfield 367, [2, 0, 0, 0, 642]), (8, .invokestatic 89, [110, 0, 2, 11, 790]), (11, .ifCond .ne 5, [16]), (14, .iconst (-1), []), (15, .ireturn, [])],
  [(16, .aload_n 0, []), (17, .getfield 77, [11, 12, 0, 0, 739]), (20, .getfield 379, [2, 5, 0, 0, 652]), (23, .iload_n 1, []), (24, .iaload, []), (25, .iconst (-1), []), (26, .if_icmp .eq 6, [32]), (29, .bipush (-3), []), (31, .ireturn, [])],
  [(32, .aload_n 0, []), (33, .getfield 77, [11, 12, 0, 0, 739]), (36, .getfield 379, [2, 5, 0, 0, 652]), (39, .iload_n 1, []), (40, .aload_n 0, []), (41, .getfield 19, [11, 1, 0, 0, 728]), (44, .getfield 243, [9, 0, 0, 0, 415]), (47, .iastore, [])],
  [(48, .iconst 1, []), (49, .ireturn, [])]])
def mX11_owner : im_M := (yX11_owner, cX11_owner, 4, (some .int), 11, 3, false, [1217, 257, 1215, 1216], [[(0, .iload_n 1, []), (1, .bipush 12, []), (3, .invokestatic 89, [110, 0, 2, 11, 790]), (6, .ifCond .ne 6, [12]), (9, .bipush (-5), []), (11, .ireturn, []), (12, .iload_n 2, []), (13, .iconst 0, []), (14, .sipush 2000, [])],
  [(17, .invokestatic 93, [111, 0, 3, 11, 793]), (20, .ifCond .eq 18, [38]), (23, .iload_n 3, []), (24, .iconst 0, []), (25, .aload_n 0, []), (26, .getfield 19, [11, 1, 0, 0, 728]), (29, .getfield 243, [9, 0, 0, 0, 415])],
  [(32, .invokestatic 93, [111, 0, 3, 11, 793]), (35, .ifCond .ne 6, [41]), (38, .bipush (-2), []), (40, .ireturn, []), (41, .aload_n 0, []), (42, .getfield 77, [11, 12, 0, 0, 739]), (45, .iload_n 1, []), (46, .iload_n 2, []), (47, .iload_n 3, [])],
  [(48, .invokevirtual 382, [20, 0, 3, 2, 1218]), (51, .ireturn, [])]])
def mX11_heirs : im_M := (yX11_heirs, cX11_heirs, 5, (some .int), 11, 3, false, [1229, 257, 1227, 1228], [[(0, .aload_n 0, []), (1, .iload_n 1, []), (2, .iload_n 2, []), (3, .iload_n 3, []), (4, .invokevirtual 386, [98, 0, 3, 11, 1230]), (7, .istore 4, []), (9, .iload 4, []), (11, .aload_n 0, []), (12, .getfield 10, [11, 0, 0, 0, 727]), (15, .getfield 104, [0, 2, 0, 0, 355])],
  [(18, .invokestatic 89, [110, 0, 2, 11, 790]), (21, .ifCond .ne 6, [27]), (24, .iload 4, []), (26, .ireturn, []), (27, .aload_n 0, []), (28, .getfield 19, [11, 1, 0, 0, 728]), (31, .getfield 119, [9, 11, 0, 0, 448])],
  [(34, .iload 4, []), (36, .baload, []), (37, .ifCond .eq 19, [56]), (40, .aload_n 0, []), (41, .getfield 10, [11, 0, 0, 0, 727]), (44, .aload_n 0, []), (45, .getfield 19, [11, 1, 0, 0, 728])],
  [(48, .iload 4, []), (50, .invokevirtual 388, [6, 0, 2, 0, 1231]), (53, .goto 7, [60]), (56, .iconst 1, []), (57, .iload 4, []), (59, .ishl, []), (60, .ireturn, [])]])
def mX11_beside : im_M := (yX11_beside, cX11_beside, 4, (some .long), 11, 2, false, [1238, 257, 1236, 1237], [[(0, .iload_n 1, []), (1, .iconst 1, []), (2, .bipush 60, []), (4, .invokestatic 93, [111, 0, 3, 11, 793]), (7, .ifCond .eq 26, [33]), (10, .iload_n 2, []), (11, .iconst 4, []), (12, .invokestatic 89, [110, 0, 2, 11, 790]), (15, .ifCond .eq 18, [33])],
  [(18, .aload_n 0, []), (19, .getfield 19, [11, 1, 0, 0, 728]), (22, .getfield 243, [9, 0, 0, 0, 415]), (25, .iload_n 1, []), (26, .iadd, []), (27, .sipush 2000, []), (30, .if_icmp .le 7, [37])],
  [(33, .ldc2_w 351, [0, 0, 0, 0, 1188]), (36, .lreturn, []), (37, .aload_n 0, []), (38, .getfield 23, [11, 2, 0, 0, 729]), (41, .aload_n 0, []), (42, .getfield 19, [11, 1, 0, 0, 728]), (45, .invokevirtual 391, [46, 0, 1, 9, 1239])],
  [(48, .iconst 0, []), (49, .istore_n 3, []), (50, .iload_n 3, []), (51, .iload_n 1, []), (52, .if_icmp .ge 20, [72]), (55, .aload_n 0, []), (56, .getfield 10, [11, 0, 0, 0, 727]), (59, .aload_n 0, []), (60, .getfield 23, [11, 2, 0, 0, 729]), (63, .invokevirtual 246, [7, 0, 1, 0, 973])],
  [(66, .iinc 3 1, []), (69, .goto (-19), [50]), (72, .iload_n 2, []), (73, .tableswitch 74 0 2 #[27, 36, 57], [147, 0, 27])],
  [],
  [(100, .aload_n 0, []), (101, .getfield 23, [11, 2, 0, 0, 729]), (104, .invokevirtual 292, [47, 0, 0, 9, 1085]), (107, .i2l, []), (108, .lreturn, []), (109, .aload_n 0, []), (110, .getfield 23, [11, 2, 0, 0, 729])],
  [(113, .getfield 302, [9, 5, 0, 0, 431]), (116, .iconst 0, []), (117, .iaload, []), (118, .aload_n 0, []), (119, .getfield 19, [11, 1, 0, 0, 728]), (122, .getfield 302, [9, 5, 0, 0, 431]), (125, .iconst 0, []), (126, .iaload, []), (127, .isub, [])],
  [(128, .i2l, []), (129, .lreturn, []), (130, .aload_n 0, []), (131, .getfield 23, [11, 2, 0, 0, 729]), (134, .invokevirtual 305, [48, 0, 0, 9, 1089]), (137, .aload_n 0, []), (138, .getfield 19, [11, 1, 0, 0, 728]), (141, .invokevirtual 305, [48, 0, 0, 9, 1089])],
  [(144, .isub, []), (145, .i2l, []), (146, .lreturn, []), (147, .aload_n 0, []), (148, .getfield 23, [11, 2, 0, 0, 729]), (151, .invokevirtual 394, [49, 0, 0, 9, 1246]), (154, .i2l, []), (155, .lreturn, [])]])
def mX11_clear : im_M := (yX11_clear, cX11_clear, 4, (some .int), 11, 2, false, [1253, 257, 1251, 1252], [[(0, .iload_n 1, []), (1, .bipush 100, []), (3, .invokestatic 89, [110, 0, 2, 11, 790]), (6, .ifCond .ne 5, [11]), (9, .iconst (-1), []), (10, .ireturn, []), (11, .iload_n 2, []), (12, .iconst 1, []), (13, .bipush 60, []), (15, .invokestatic 93, [111, 0, 3, 11, 793])],
  [(18, .ifCond .ne 6, [24]), (21, .bipush (-2), []), (23, .ireturn, []), (24, .aload_n 0, []), (25, .getfield 23, [11, 2, 0, 0, 729]), (28, .aload_n 0, []), (29, .getfield 19, [11, 1, 0, 0, 728])],
  [(32, .invokevirtual 391, [46, 0, 1, 9, 1239]), (35, .iconst 0, []), (36, .istore_n 3, []), (37, .iload_n 3, []), (38, .iload_n 2, []), (39, .if_icmp .ge 34, [73]), (42, .aload_n 0, []), (43, .getfield 23, [11, 2, 0, 0, 729]), (46, .getfield 97, [9, 6, 0, 0, 433])],
  [(49, .iload_n 1, []), (50, .iaload, []), (51, .ifCond .ne 5, [56]), (54, .iload_n 3, []), (55, .ireturn, []), (56, .aload_n 0, []), (57, .getfield 10, [11, 0, 0, 0, 727]), (60, .aload_n 0, []), (61, .getfield 23, [11, 2, 0, 0, 729])],
  [(64, .invokevirtual 246, [7, 0, 1, 0, 973]), (67, .iinc 3 1, []), (70, .goto (-33), [37]), (73, .aload_n 0, []), (74, .getfield 23, [11, 2, 0, 0, 729]), (77, .getfield 97, [9, 6, 0, 0, 433])],
  [(80, .iload_n 1, []), (81, .iaload, []), (82, .ifCond .ne 7, [89]), (85, .iload_n 2, []), (86, .goto 5, [91]), (89, .bipush (-3), []), (91, .ireturn, [])]])
def mX11_image : im_M := (yX11_image, cX11_image, 1, (some .int), 11, 0, false, [1257, 257, 1255, 1256], [[(0, .aload_n 0, []), (1, .getfield 26, [11, 3, 0, 0, 730]), (4, .aload_n 0, []), (5, .getfield 19, [11, 1, 0, 0, 728]), (8, .invokevirtual 391, [46, 0, 1, 9, 1239]), (11, .aload_n 0, []), (12, .iconst 1, []), (13, .putfield 29, [11, 4, 0, 0, 731])],
  [(16, .aload_n 0, []), (17, .getfield 19, [11, 1, 0, 0, 728]), (20, .getfield 243, [9, 0, 0, 0, 415]), (23, .ireturn, [])]])
def mX11_back : im_M := (yX11_back, cX11_back, 1, (some .int), 11, 0, false, [1261, 257, 1259, 1260], [[(0, .aload_n 0, []), (1, .getfield 29, [11, 4, 0, 0, 731]), (4, .ifCond .ne 6, [10]), (7, .bipush (-3), []), (9, .ireturn, []), (10, .aload_n 0, []), (11, .getfield 19, [11, 1, 0, 0, 728]), (14, .aload_n 0, []), (15, .getfield 26, [11, 3, 0, 0, 730])],
  [(18, .invokevirtual 391, [46, 0, 1, 9, 1239]), (21, .aload_n 0, []), (22, .getfield 19, [11, 1, 0, 0, 728]), (25, .getfield 243, [9, 0, 0, 0, 415]), (28, .ireturn, [])]])
def mX11_sheet : im_M := (yX11_sheet, cX11_sheet, 4, (some .int), 11, 3, false, [1281, 257, 1263, 1280], [[(0, .iload_n 1, []), (1, .iconst 4, []), (2, .invokestatic 89, [110, 0, 2, 11, 790]), (5, .ifCond .ne 6, [11]), (8, .bipush (-2), []), (10, .ireturn, []), (11, .iload_n 2, []), (12, .iconst (-1), []), (13, .if_icmp .ne 15, [28])],
  [(16, .aload_n 0, []), (17, .getfield 83, [11, 13, 0, 0, 740]), (20, .iload_n 1, []), (21, .aaload, []), (22, .iconst (-1), []), (23, .putfield 397, [8, 0, 0, 0, 711]), (26, .iconst 1, []), (27, .ireturn, []), (28, .iload_n 2, []), (29, .iconst 3, []), (30, .invokestatic 89, [110, 0, 2, 11, 790])],
  [(33, .ifCond .eq 9, [42]), (36, .iload_n 3, []), (37, .bipush 40, []), (39, .if_icmp .le 6, [45]), (42, .bipush (-2), []), (44, .ireturn, []), (45, .iload_n 3, []), (46, .ifCond .ge 6, [52])],
  [(49, .bipush (-14), []), (51, .ireturn, []), (52, .aload_n 0, []), (53, .getfield 83, [11, 13, 0, 0, 740]), (56, .iload_n 1, []), (57, .aaload, []), (58, .iload_n 2, []), (59, .putfield 397, [8, 0, 0, 0, 711]), (62, .aload_n 0, []), (63, .getfield 83, [11, 13, 0, 0, 740])],
  [(66, .iload_n 1, []), (67, .aaload, []), (68, .iload_n 3, []), (69, .putfield 155, [8, 1, 0, 0, 715]), (72, .aload_n 0, []), (73, .getfield 83, [11, 13, 0, 0, 740]), (76, .iload_n 1, []), (77, .aaload, []), (78, .getfield 181, [8, 2, 0, 0, 719])],
  [(81, .iconst 0, []), (82, .invokestatic 400, [197, 0, 2, 99, 1282]), (85, .iconst 1, []), (86, .ireturn, [])]])
def mX11_cell : im_M := (yX11_cell, cX11_cell, 4, (some .int), 11, 3, false, [1286, 257, 1284, 1285], [[(0, .iload_n 1, []), (1, .iconst 4, []), (2, .invokestatic 89, [110, 0, 2, 11, 790]), (5, .ifCond .ne 6, [11]), (8, .bipush (-2), []), (10, .ireturn, []), (11, .aload_n 0, []), (12, .getfield 83, [11, 13, 0, 0, 740]), (15, .iload_n 1, [])],
  [(16, .aaload, []), (17, .invokevirtual 151, [41, 0, 0, 8, 823]), (20, .ifCond .eq 6, [26]), (23, .bipush (-11), []), (25, .ireturn, []), (26, .iload_n 2, []), (27, .aload_n 0, []), (28, .getfield 83, [11, 13, 0, 0, 740]), (31, .iload_n 1, [])],
  [(32, .aaload, []), (33, .getfield 155, [8, 1, 0, 0, 715]), (36, .invokestatic 89, [110, 0, 2, 11, 790]), (39, .ifCond .ne 6, [45]), (42, .bipush (-12), []), (44, .ireturn, []), (45, .aload_n 0, []), (46, .getfield 83, [11, 13, 0, 0, 740])],
  [(49, .iload_n 1, []), (50, .aaload, []), (51, .iload_n 2, []), (52, .iload_n 3, []), (53, .invokevirtual 406, [42, 0, 2, 8, 1287]), (56, .iconst 1, []), (57, .ireturn, [])]])
def mX11_copy : im_M := (yX11_copy, cX11_copy, 8, (some .int), 11, 5, false, [1294, 257, 1292, 1293], [[(0, .iload_n 1, []), (1, .iconst 4, []), (2, .invokestatic 89, [110, 0, 2, 11, 790]), (5, .ifCond .eq 11, [16]), (8, .iload_n 3, []), (9, .iconst 4, []), (10, .invokestatic 89, [110, 0, 2, 11, 790]), (13, .ifCond .ne 6, [19])],
  [(16, .bipush (-2), []), (18, .ireturn, []), (19, .aload_n 0, []), (20, .getfield 83, [11, 13, 0, 0, 740]), (23, .iload_n 1, []), (24, .aaload, []), (25, .astore 6, []), (27, .aload_n 0, []), (28, .getfield 83, [11, 13, 0, 0, 740]), (31, .iload_n 3, [])],
  [(32, .aaload, []), (33, .astore 7, []), (35, .aload 6, []), (37, .invokevirtual 151, [41, 0, 0, 8, 823]), (40, .ifCond .ne 11, [51]), (43, .aload 7, []), (45, .invokevirtual 151, [41, 0, 0, 8, 823])],
  [(48, .ifCond .eq 6, [54]), (51, .bipush (-11), []), (53, .ireturn, []), (54, .aload 6, []), (56, .getfield 397, [8, 0, 0, 0, 711]), (59, .aload 7, []), (61, .getfield 397, [8, 0, 0, 0, 711])],
  [(64, .if_icmp .eq 6, [70]), (67, .bipush (-13), []), (69, .ireturn, []), (70, .aload 6, []), (72, .iload_n 2, []), (73, .iload 5, []), (75, .invokevirtual 409, [43, 0, 2, 8, 1295]), (78, .ifCond .eq 15, [93])],
  [(81, .aload 7, []), (83, .iload 4, []), (85, .iload 5, []), (87, .invokevirtual 409, [43, 0, 2, 8, 1295]), (90, .ifCond .ne 6, [96]), (93, .bipush (-12), []), (95, .ireturn, [])],
  [(96, .aload 6, []), (98, .getfield 181, [8, 2, 0, 0, 719]), (101, .iload_n 2, []), (102, .aload 7, []), (104, .getfield 181, [8, 2, 0, 0, 719]), (107, .iload 4, []), (109, .iload 5, []), (111, .invokestatic 412, [0, 3, 5, 0, 1299])],
  [(114, .iload 5, []), (116, .ireturn, [])]])
def mX11_people : im_M := (yX11_people, cX11_people, 8, (some .int), 11, 4, false, [1303, 257, 1301, 1302], [[(0, .iload_n 1, []), (1, .iconst 4, []), (2, .invokestatic 89, [110, 0, 2, 11, 790]), (5, .ifCond .eq 22, [27]), (8, .iload_n 2, []), (9, .iconst 3, []), (10, .invokestatic 89, [110, 0, 2, 11, 790]), (13, .ifCond .eq 14, [27])],
  [(16, .iload 4, []), (18, .iconst 0, []), (19, .bipush 10, []), (21, .invokestatic 93, [111, 0, 3, 11, 793]), (24, .ifCond .ne 6, [30]), (27, .bipush (-2), []), (29, .ireturn, []), (30, .aload_n 0, []), (31, .getfield 83, [11, 13, 0, 0, 740])],
  [(34, .iload_n 1, []), (35, .aaload, []), (36, .astore 5, []), (38, .aload 5, []), (40, .invokevirtual 151, [41, 0, 0, 8, 823]), (43, .ifCond .eq 6, [49]), (46, .bipush (-11), [])],
  [(48, .ireturn, []), (49, .aload 5, []), (51, .getfield 397, [8, 0, 0, 0, 711]), (54, .iload_n 2, []), (55, .if_icmp .eq 6, [61]), (58, .bipush (-13), []), (60, .ireturn, []), (61, .iconst 0, []), (62, .istore 6, [])],
  [(64, .iconst 1, []), (65, .istore 7, []), (67, .iload 7, []), (69, .iload 4, []), (71, .if_icmp .gt 45, [116]), (74, .aload 5, []), (76, .iload_n 3, []), (77, .iconst 4, []), (78, .iload 7, [])],
  [(80, .imul, []), (81, .invokevirtual 409, [43, 0, 2, 8, 1295]), (84, .ifCond .ne 6, [90]), (87, .bipush (-12), []), (89, .ireturn, []), (90, .aload_n 0, []), (91, .aload 5, []), (93, .iload_n 3, []), (94, .iconst 4, []), (95, .iload 7, [])],
  [(97, .iconst 1, []), (98, .isub, []), (99, .imul, []), (100, .iadd, []), (101, .invokevirtual 418, [108, 0, 2, 11, 1304]), (104, .ifCond .lt 6, [110]), (107, .iinc 6 1, []), (110, .iinc 7 1, [])],
  [(113, .goto (-46), [67]), (116, .iload 6, []), (118, .ireturn, [])]])
def mX11_personFrom : im_M := (yX11_personFrom, cX11_personFrom, 3, (some .int), 11, 2, false, [1307, 257, 1306, 3], [[(0, .aload_n 0, []), (1, .aload_n 1, []), (2, .getfield 181, [8, 2, 0, 0, 719]), (5, .iload_n 2, []), (6, .iaload, []), (7, .aload_n 1, []), (8, .getfield 181, [8, 2, 0, 0, 719]), (11, .iload_n 2, []), (12, .iconst 1, []), (13, .iadd, []), (14, .iaload, []), (15, .aload_n 1, [])],
  [(16, .getfield 181, [8, 2, 0, 0, 719]), (19, .iload_n 2, []), (20, .iconst 2, []), (21, .iadd, []), (22, .iaload, []), (23, .aload_n 1, []), (24, .getfield 181, [8, 2, 0, 0, 719]), (27, .iload_n 2, []), (28, .iconst 3, []), (29, .iadd, []), (30, .iaload, []), (31, .invokevirtual 422, [62, 0, 4, 11, 1308])],
  [(34, .ireturn, [])]])
def mX11_taken : im_M := (yX11_taken, cX11_taken, 4, (some .int), 11, 2, false, [1312, 257, 1310, 1311], [[(0, .iload_n 2, []), (1, .bipush 6, []), (3, .invokestatic 89, [110, 0, 2, 11, 790]), (6, .ifCond .ne 6, [12]), (9, .bipush (-2), []), (11, .ireturn, []), (12, .iload_n 1, []), (13, .bipush 100, []), (15, .invokestatic 89, [110, 0, 2, 11, 790])],
  [(18, .ifCond .ne 6, [24]), (21, .bipush (-12), []), (23, .ireturn, []), (24, .aload_n 0, []), (25, .getfield 10, [11, 0, 0, 0, 727]), (28, .getfield 101, [0, 0, 0, 0, 351]), (31, .iload_n 1, [])],
  [(32, .iaload, []), (33, .istore_n 3, []), (34, .iload_n 3, []), (35, .iconst (-1), []), (36, .if_icmp .ne 22, [58]), (39, .iload_n 1, []), (40, .aload_n 0, []), (41, .getfield 10, [11, 0, 0, 0, 727]), (44, .getfield 148, [0, 1, 0, 0, 353]), (47, .if_icmp .ne 8, [55])],
  [(50, .bipush (-13), []), (52, .goto 5, [57]), (55, .bipush (-11), []), (57, .ireturn, []), (58, .iload_n 3, []), (59, .iload_n 2, []), (60, .invokestatic 425, [114, 0, 2, 11, 1313]), (63, .ifCond .eq 11, [74])],
  [(66, .getstatic 254, [0, 0, 0, 0, 1059]), (69, .iload_n 3, []), (70, .iaload, []), (71, .goto 5, [76]), (74, .bipush (-13), []), (76, .ireturn, [])]])
def mX11_within : im_M := (yX11_within, cX11_within, 2, (some .boolean), 11, 2, true, [792, 257, 791], [[(0, .iload_n 0, []), (1, .ifCond .lt 12, [13]), (4, .iload_n 0, []), (5, .iload_n 1, []), (6, .if_icmp .ge 7, [13]), (9, .iconst 1, []), (10, .goto 4, [14]), (13, .iconst 0, []), (14, .ireturn, [])]])
def mX11_between : im_M := (yX11_between, cX11_between, 3, (some .boolean), 11, 3, true, [795, 257, 794], [[(0, .iload_n 0, []), (1, .iload_n 1, []), (2, .if_icmp .lt 12, [14]), (5, .iload_n 0, []), (6, .iload_n 2, []), (7, .if_icmp .gt 7, [14]), (10, .iconst 1, []), (11, .goto 4, [15]), (14, .iconst 0, []), (15, .ireturn, [])]])
def mX11_cellOnSide : im_M := (yX11_cellOnSide, cX11_cellOnSide, 4, (some .int), 11, 2, true, [810, 257, 809], [[(0, .iload_n 0, []), (1, .bipush 10, []), (3, .irem, []), (4, .istore_n 2, []), (5, .iload_n 0, []), (6, .bipush 10, []), (8, .idiv, []), (9, .istore_n 3, []), (10, .iload_n 1, []), (11, .tableswitch 67 0 2 #[25, 40, 54], [78, 0, 25])],
  [],
  [(36, .iload_n 3, []), (37, .bipush 9, []), (39, .if_icmp .ge 10, [49]), (42, .iload_n 0, []), (43, .bipush 10, []), (45, .iadd, []), (46, .goto 4, [50])],
  [(49, .iconst (-1), []), (50, .ireturn, []), (51, .iload_n 2, []), (52, .bipush 9, []), (54, .if_icmp .ge 9, [63]), (57, .iload_n 0, []), (58, .iconst 1, []), (59, .iadd, []), (60, .goto 4, [64]), (63, .iconst (-1), [])],
  [(64, .ireturn, []), (65, .iload_n 3, []), (66, .ifCond .le 10, [76]), (69, .iload_n 0, []), (70, .bipush 10, []), (72, .isub, []), (73, .goto 4, [77]), (76, .iconst (-1), []), (77, .ireturn, []), (78, .iload_n 2, []), (79, .ifCond .le 9, [88])],
  [(82, .iload_n 0, []), (83, .iconst 1, []), (84, .isub, []), (85, .goto 4, [89]), (88, .iconst (-1), []), (89, .ireturn, [])]])
def mX11_areBeside : im_M := (yX11_areBeside, cX11_areBeside, 3, (some .boolean), 11, 2, true, [829, 257, 828], [[(0, .iconst 0, []), (1, .istore_n 2, []), (2, .iload_n 2, []), (3, .iconst 4, []), (4, .if_icmp .ge 20, [24]), (7, .iload_n 0, []), (8, .iload_n 2, []), (9, .invokestatic 123, [112, 0, 2, 11, 808]), (12, .iload_n 1, []), (13, .if_icmp .ne 5, [18])],
  [(16, .iconst 1, []), (17, .ireturn, []), (18, .iinc 2 1, []), (21, .goto (-19), [2]), (24, .iconst 0, []), (25, .ireturn, [])]])
def mX11_isOfKind : im_M := (yX11_isOfKind, cX11_isOfKind, 4, (some .boolean), 11, 2, true, [1315, 257, 1314], [[(0, .iload_n 0, []), (1, .istore_n 2, []), (2, .iconst 0, []), (3, .istore_n 3, []), (4, .iload_n 3, []), (5, .iconst 3, []), (6, .if_icmp .ge 27, [33]), (9, .iload_n 2, []), (10, .iconst (-1), []), (11, .if_icmp .eq 22, [33]), (14, .iload_n 2, []), (15, .iload_n 1, [])],
  [(16, .if_icmp .ne 5, [21]), (19, .iconst 1, []), (20, .ireturn, []), (21, .getstatic 428, [4, 0, 0, 0, 1316]), (24, .iload_n 2, []), (25, .iaload, []), (26, .istore_n 2, []), (27, .iinc 3 1, []), (30, .goto (-26), [4])],
  [(33, .iconst 0, []), (34, .ireturn, [])]])
def mX11_greatestDivisor : im_M := (yX11_greatestDivisor, cX11_greatestDivisor, 6, (some .int), 11, 2, true, [1195, 257, 1194], [[(0, .iload_n 0, []), (1, .istore_n 2, []), (2, .iload_n 1, []), (3, .istore_n 3, []), (4, .iconst 0, []), (5, .istore 4, []), (7, .iload 4, []), (9, .bipush 64, []), (11, .if_icmp .ge 23, [34]), (14, .iload_n 3, []), (15, .ifCond .eq 19, [34])],
  [(18, .iload_n 2, []), (19, .iload_n 3, []), (20, .irem, []), (21, .istore 5, []), (23, .iload_n 3, []), (24, .istore_n 2, []), (25, .iload 5, []), (27, .istore_n 3, []), (28, .iinc 4 1, []), (31, .goto (-24), [7])],
  [(34, .iload_n 2, []), (35, .ireturn, [])]])
def mX12_init : im_M := (yX12_init, cX12_init, 2, none, 12, 0, false, [1322, 270, 1321, 0], [[(0, .aload_n 0, []), (1, .invokespecial 1, [0, 4, 0, 0, 1323]), (4, .aload_n 0, []), (5, .sipush 283, []), (8, .newarray .int, []), (10, .putfield 7, [12, 0, 0, 0, 1336]), (13, .aload_n 0, []), (14, .sipush 283, [])],
  [(17, .newarray .int, []), (19, .putfield 13, [12, 1, 0, 0, 1337]), (22, .aload_n 0, []), (23, .sipush 283, []), (26, .newarray .int, []), (28, .putfield 16, [12, 2, 0, 0, 1338]), (31, .aload_n 0, [])],
  [(32, .bipush 100, []), (34, .newarray .int, []), (36, .putfield 19, [12, 4, 0, 0, 1340]), (39, .aload_n 0, []), (40, .bipush 6, []), (42, .newarray .int, []), (44, .dup, []), (45, .iconst 0, []), (46, .bipush 20, [])],
  [(48, .iastore, []), (49, .dup, []), (50, .iconst 1, []), (51, .bipush 35, []), (53, .iastore, []), (54, .dup, []), (55, .iconst 2, []), (56, .bipush 20, []), (58, .iastore, []), (59, .dup, []), (60, .iconst 3, []), (61, .bipush 70, []), (63, .iastore, [])],
  [(64, .dup, []), (65, .iconst 4, []), (66, .bipush 10, []), (68, .iastore, []), (69, .dup, []), (70, .iconst 5, []), (71, .iconst 5, []), (72, .iastore, []), (73, .putfield 22, [12, 5, 0, 0, 1341]), (76, .aload_n 0, []), (77, .bipush 6, []), (79, .newarray .int, [])],
  [(81, .dup, []), (82, .iconst 0, []), (83, .iconst 1, []), (84, .iastore, []), (85, .dup, []), (86, .iconst 1, []), (87, .iconst 4, []), (88, .iastore, []), (89, .dup, []), (90, .iconst 2, []), (91, .iconst 1, []), (92, .iastore, []), (93, .dup, []), (94, .iconst 3, []), (95, .iconst 4, [])],
  [(96, .iastore, []), (97, .dup, []), (98, .iconst 4, []), (99, .bipush 7, []), (101, .iastore, []), (102, .dup, []), (103, .iconst 5, []), (104, .iconst 4, []), (105, .iastore, []), (106, .putfield 25, [12, 6, 0, 0, 1342]), (109, .aload_n 0, []), (110, .bipush 6, [])],
  [(112, .newarray .int, []), (114, .dup, []), (115, .iconst 0, []), (116, .iconst 0, []), (117, .iastore, []), (118, .dup, []), (119, .iconst 1, []), (120, .iconst 0, []), (121, .iastore, []), (122, .dup, []), (123, .iconst 2, []), (124, .iconst 5, []), (125, .iastore, []), (126, .dup, []), (127, .iconst 3, [])],
  [(128, .iconst 0, []), (129, .iastore, []), (130, .dup, []), (131, .iconst 4, []), (132, .iconst 5, []), (133, .iastore, []), (134, .dup, []), (135, .iconst 5, []), (136, .iconst 0, []), (137, .iastore, []), (138, .putfield 28, [12, 7, 0, 0, 1343]), (141, .aload_n 0, []), (142, .bipush 6, [])],
  [(144, .newarray .int, []), (146, .dup, []), (147, .iconst 0, []), (148, .iconst 3, []), (149, .iastore, []), (150, .dup, []), (151, .iconst 1, []), (152, .iconst 3, []), (153, .iastore, []), (154, .dup, []), (155, .iconst 2, []), (156, .iconst 2, []), (157, .iastore, []), (158, .dup, []), (159, .iconst 3, [])],
  [(160, .bipush 7, []), (162, .iastore, []), (163, .dup, []), (164, .iconst 4, []), (165, .iconst 2, []), (166, .iastore, []), (167, .dup, []), (168, .iconst 5, []), (169, .bipush 6, []), (171, .iastore, []), (172, .putfield 31, [12, 8, 0, 0, 1344]), (175, .aload_n 0, [])],
  [(176, .iconst (-1), []), (177, .putfield 34, [12, 9, 0, 0, 1345]), (180, .aload_n 0, []), (181, .bipush 24, []), (183, .newarray .int, []), (185, .putfield 38, [12, 11, 0, 0, 1347]), (188, .aload_n 0, []), (189, .bipush 24, []), (191, .newarray .int, [])],
  [(193, .putfield 41, [12, 12, 0, 0, 1348]), (196, .aload_n 0, []), (197, .bipush 24, []), (199, .newarray .int, []), (201, .putfield 44, [12, 13, 0, 0, 1349]), (204, .aload_n 0, []), (205, .bipush 32, []), (207, .newarray .int, [])],
  [(209, .putfield 47, [12, 14, 0, 0, 1350]), (212, .aload_n 0, []), (213, .iconst 4, []), (214, .newarray .int, []), (216, .putfield 50, [12, 15, 0, 0, 1351]), (219, .aload_n 0, []), (220, .iconst 4, []), (221, .newarray .int, []), (223, .putfield 53, [12, 16, 0, 0, 1352])],
  [(226, .aload_n 0, []), (227, .iconst 4, []), (228, .newarray .int, []), (230, .putfield 56, [12, 17, 0, 0, 1353]), (233, .aload_n 0, []), (234, .bipush 36, []), (236, .newarray .int, []), (238, .putfield 59, [12, 18, 0, 0, 1354])],
  [(241, .aload_n 0, []), (242, .iconst 3, []), (243, .newarray .int, []), (245, .putfield 62, [12, 19, 0, 0, 1355]), (248, .aload_n 0, []), (249, .iconst 3, []), (250, .newarray .int, []), (252, .putfield 65, [12, 20, 0, 0, 1356]), (255, .aload_n 0, [])],
  [(256, .bipush 16, []), (258, .newarray .int, []), (260, .putfield 68, [12, 22, 0, 0, 1358]), (263, .aload_n 0, []), (264, .bipush 16, []), (266, .newarray .int, []), (268, .putfield 71, [12, 23, 0, 0, 1359]), (271, .aload_n 0, [])],
  [(272, .bipush 12, []), (274, .newarray .int, []), (276, .putfield 74, [12, 25, 0, 0, 1361]), (279, .aload_n 0, []), (280, .bipush 12, []), (282, .newarray .int, []), (284, .putfield 77, [12, 26, 0, 0, 1362]), (287, .aload_n 0, [])],
  [(288, .bipush 12, []), (290, .newarray .int, []), (292, .putfield 80, [12, 27, 0, 0, 1363]), (295, .aload_n 0, []), (296, .bipush 12, []), (298, .newarray .int, []), (300, .putfield 83, [12, 28, 0, 0, 1364]), (303, .aload_n 0, [])],
  [(304, .bipush 8, []), (306, .newarray .int, []), (308, .putfield 86, [12, 30, 0, 0, 1366]), (311, .aload_n 0, []), (312, .bipush 8, []), (314, .newarray .int, []), (316, .putfield 89, [12, 31, 0, 0, 1367]), (319, .aload_n 0, [])],
  [(320, .bipush 8, []), (322, .newarray .int, []), (324, .putfield 92, [12, 32, 0, 0, 1368]), (327, .aload_n 0, []), (328, .bipush 8, []), (330, .newarray .int, []), (332, .putfield 95, [12, 33, 0, 0, 1369]), (335, .aload_n 0, [])],
  [(336, .bipush 100, []), (338, .newarray .boolean, [1]), (340, .putfield 98, [12, 34, 0, 0, 1370]), (343, .aload_n 0, []), (344, .bipush 24, []), (346, .newarray .int, []), (348, .putfield 102, [12, 36, 0, 0, 1372]), (351, .aload_n 0, [])],
  [(352, .bipush 24, []), (354, .newarray .int, []), (356, .putfield 105, [12, 37, 0, 0, 1373]), (359, .aload_n 0, []), (360, .bipush 24, []), (362, .newarray .int, []), (364, .putfield 108, [12, 38, 0, 0, 1374]), (367, .aload_n 0, [])],
  [(368, .bipush 24, []), (370, .newarray .int, []), (372, .putfield 111, [12, 39, 0, 0, 1375]), (375, .aload_n 0, []), (376, .bipush 24, []), (378, .newarray .int, []), (380, .dup, []), (381, .iconst 0, []), (382, .iconst (-1), []), (383, .iastore, [])],
  [(384, .dup, []), (385, .iconst 1, []), (386, .iconst (-1), []), (387, .iastore, []), (388, .dup, []), (389, .iconst 2, []), (390, .iconst (-1), []), (391, .iastore, []), (392, .dup, []), (393, .iconst 3, []), (394, .iconst (-1), []), (395, .iastore, []), (396, .dup, []), (397, .iconst 4, []), (398, .iconst (-1), []), (399, .iastore, [])],
  [(400, .dup, []), (401, .iconst 5, []), (402, .iconst (-1), []), (403, .iastore, []), (404, .dup, []), (405, .bipush 6, []), (407, .iconst (-1), []), (408, .iastore, []), (409, .dup, []), (410, .bipush 7, []), (412, .iconst (-1), []), (413, .iastore, []), (414, .dup, []), (415, .bipush 8, [])],
  [(417, .iconst (-1), []), (418, .iastore, []), (419, .dup, []), (420, .bipush 9, []), (422, .iconst (-1), []), (423, .iastore, []), (424, .dup, []), (425, .bipush 10, []), (427, .iconst (-1), []), (428, .iastore, []), (429, .dup, []), (430, .bipush 11, [])],
  [(432, .iconst (-1), []), (433, .iastore, []), (434, .dup, []), (435, .bipush 12, []), (437, .iconst (-1), []), (438, .iastore, []), (439, .dup, []), (440, .bipush 13, []), (442, .iconst (-1), []), (443, .iastore, []), (444, .dup, []), (445, .bipush 14, []), (447, .iconst (-1), [])],
  [(448, .iastore, []), (449, .dup, []), (450, .bipush 15, []), (452, .iconst (-1), []), (453, .iastore, []), (454, .dup, []), (455, .bipush 16, []), (457, .iconst (-1), []), (458, .iastore, []), (459, .dup, []), (460, .bipush 17, []), (462, .iconst (-1), []), (463, .iastore, [])],
  [(464, .dup, []), (465, .bipush 18, []), (467, .iconst (-1), []), (468, .iastore, []), (469, .dup, []), (470, .bipush 19, []), (472, .iconst (-1), []), (473, .iastore, []), (474, .dup, []), (475, .bipush 20, []), (477, .iconst (-1), []), (478, .iastore, []), (479, .dup, [])],
  [(480, .bipush 21, []), (482, .iconst (-1), []), (483, .iastore, []), (484, .dup, []), (485, .bipush 22, []), (487, .iconst (-1), []), (488, .iastore, []), (489, .dup, []), (490, .bipush 23, []), (492, .iconst (-1), []), (493, .iastore, []), (494, .putfield 114, [12, 40, 0, 0, 1376])],
  [(497, .aload_n 0, []), (498, .bipush 6, []), (500, .newarray .int, []), (502, .putfield 117, [12, 42, 0, 0, 1378]), (505, .aload_n 0, []), (506, .sipush 160, []), (509, .newarray .int, []), (511, .putfield 120, [12, 44, 0, 0, 1380])],
  [(514, .aload_n 0, []), (515, .iconst (-1), []), (516, .putfield 123, [12, 47, 0, 0, 1383]), (519, .aload_n 0, []), (520, .bipush 6, []), (522, .newarray .int, []), (524, .putfield 126, [12, 48, 0, 0, 1384]), (527, .aload_n 0, [])],
  [(528, .bipush 48, []), (530, .newarray .int, []), (532, .putfield 129, [12, 49, 0, 0, 1385]), (535, .aload_n 0, []), (536, .bipush 48, []), (538, .newarray .int, []), (540, .putfield 132, [12, 50, 0, 0, 1386]), (543, .aload_n 0, [])],
  [(544, .bipush 48, []), (546, .newarray .int, []), (548, .putfield 135, [12, 51, 0, 0, 1387]), (551, .aload_n 0, []), (552, .sipush 144, []), (555, .newarray .int, []), (557, .putfield 138, [12, 52, 0, 0, 1388])],
  [(560, .aload_n 0, []), (561, .sipush 144, []), (564, .newarray .int, []), (566, .putfield 141, [12, 53, 0, 0, 1389]), (569, .aload_n 0, []), (570, .sipush 144, []), (573, .newarray .int, []), (575, .putfield 144, [12, 54, 0, 0, 1390])],
  [(578, .aload_n 0, []), (579, .iconst 4, []), (580, .newarray .int, []), (582, .dup, []), (583, .iconst 0, []), (584, .iconst (-1), []), (585, .iastore, []), (586, .dup, []), (587, .iconst 1, []), (588, .iconst (-1), []), (589, .iastore, []), (590, .dup, []), (591, .iconst 2, [])],
  [(592, .iconst (-1), []), (593, .iastore, []), (594, .dup, []), (595, .iconst 3, []), (596, .iconst (-1), []), (597, .iastore, []), (598, .putfield 147, [12, 55, 0, 0, 1391]), (601, .aload_n 0, []), (602, .iconst 4, []), (603, .newarray .int, []), (605, .putfield 150, [12, 56, 0, 0, 1392])],
  [(608, .aload_n 0, []), (609, .sipush 160, []), (612, .newarray .int, []), (614, .putfield 153, [12, 57, 0, 0, 1393]), (617, .aload_n 0, []), (618, .bipush 12, []), (620, .newarray .long, [2]), (622, .dup, []), (623, .iconst 0, [])],
  [(624, .ldc2_w 156, [1, 0, 0, 0, 1324]), (627, .lastore, []), (628, .dup, []), (629, .iconst 1, []), (630, .ldc2_w 158, [2, 0, 0, 0, 1325]), (633, .lastore, []), (634, .dup, []), (635, .iconst 2, []), (636, .ldc2_w 160, [3, 0, 0, 0, 1326]), (639, .lastore, [])],
  [(640, .dup, []), (641, .iconst 3, []), (642, .ldc2_w 162, [4, 0, 0, 0, 1327]), (645, .lastore, []), (646, .dup, []), (647, .iconst 4, []), (648, .ldc2_w 164, [5, 0, 0, 0, 1328]), (651, .lastore, []), (652, .dup, []), (653, .iconst 5, []), (654, .ldc2_w 166, [6, 0, 0, 0, 1329])],
  [(657, .lastore, []), (658, .dup, []), (659, .bipush 6, []), (661, .ldc2_w 168, [7, 0, 0, 0, 1330]), (664, .lastore, []), (665, .dup, []), (666, .bipush 7, []), (668, .ldc2_w 170, [8, 0, 0, 0, 1331]), (671, .lastore, [])],
  [(672, .dup, []), (673, .bipush 8, []), (675, .ldc2_w 172, [9, 0, 0, 0, 1332]), (678, .lastore, []), (679, .dup, []), (680, .bipush 9, []), (682, .ldc2_w 174, [10, 0, 0, 0, 1333]), (685, .lastore, []), (686, .dup, []), (687, .bipush 10, [])],
  [(689, .ldc2_w 176, [11, 0, 0, 0, 1334]), (692, .lastore, []), (693, .dup, []), (694, .bipush 11, []), (696, .ldc2_w 178, [12, 0, 0, 0, 1335]), (699, .lastore, []), (700, .putfield 180, [12, 58, 0, 0, 1394]), (703, .aload_n 0, [])],
  [(704, .bipush 12, []), (706, .newarray .int, []), (708, .dup, []), (709, .iconst 0, []), (710, .iconst 4, []), (711, .iastore, []), (712, .dup, []), (713, .iconst 1, []), (714, .iconst 4, []), (715, .iastore, []), (716, .dup, []), (717, .iconst 2, []), (718, .iconst 4, []), (719, .iastore, [])],
  [(720, .dup, []), (721, .iconst 3, []), (722, .bipush 6, []), (724, .iastore, []), (725, .dup, []), (726, .iconst 4, []), (727, .iconst 3, []), (728, .iastore, []), (729, .dup, []), (730, .iconst 5, []), (731, .iconst 3, []), (732, .iastore, []), (733, .dup, []), (734, .bipush 6, [])],
  [(736, .iconst 4, []), (737, .iastore, []), (738, .dup, []), (739, .bipush 7, []), (741, .iconst 3, []), (742, .iastore, []), (743, .dup, []), (744, .bipush 8, []), (746, .iconst 4, []), (747, .iastore, []), (748, .dup, []), (749, .bipush 9, []), (751, .iconst 3, [])],
  [(752, .iastore, []), (753, .dup, []), (754, .bipush 10, []), (756, .bipush 6, []), (758, .iastore, []), (759, .dup, []), (760, .bipush 11, []), (762, .iconst 4, []), (763, .iastore, []), (764, .putfield 184, [12, 59, 0, 0, 1395]), (767, .aload_n 0, [])],
  [(768, .bipush 16, []), (770, .newarray .int, []), (772, .putfield 187, [12, 63, 0, 0, 1399]), (775, .aload_n 0, []), (776, .bipush 16, []), (778, .newarray .int, []), (780, .putfield 190, [12, 64, 0, 0, 1400]), (783, .aload_n 0, [])],
  [(784, .bipush 6, []), (786, .newarray .int, []), (788, .putfield 193, [12, 65, 0, 0, 1401]), (791, .iconst 0, []), (792, .istore_n 1, []), (793, .iload_n 1, []), (794, .bipush 100, []), (796, .if_icmp .ge 16, [812]), (799, .aload_n 0, [])],
  [(800, .getfield 19, [12, 4, 0, 0, 1340]), (803, .iload_n 1, []), (804, .iconst (-1), []), (805, .iastore, []), (806, .iinc 1 1, []), (809, .goto (-16), [793]), (812, .iconst 0, []), (813, .istore_n 1, []), (814, .iload_n 1, []), (815, .bipush 24, [])],
  [(817, .if_icmp .ge 20, [837]), (820, .aload_n 0, []), (821, .getfield 7, [12, 0, 0, 0, 1336]), (824, .sipush 140, []), (827, .iload_n 1, []), (828, .iadd, []), (829, .iconst (-1), []), (830, .iastore, []), (831, .iinc 1 1, [])],
  [(834, .goto (-20), [814]), (837, .return_, [])]])
def mX12_in : im_M := (yX12_in, cX12_in, 3, (some .boolean), 12, 3, true, [1561, 270, 1560], [[(0, .iload_n 0, []), (1, .iload_n 1, []), (2, .if_icmp .lt 12, [14]), (5, .iload_n 0, []), (6, .iload_n 2, []), (7, .if_icmp .gt 7, [14]), (10, .iconst 1, []), (11, .goto 4, [15]), (14, .iconst 0, []), (15, .ireturn, [])]])
def mX12_isCell : im_M := (yX12_isCell, cX12_isCell, 1, (some .boolean), 12, 1, true, [1558, 270, 1557], [[(0, .iload_n 0, []), (1, .iconst 0, []), (2, .bipush 99, []), (4, .invokestatic 196, [117, 0, 3, 12, 1559]), (7, .ireturn, [])]])
def mX12_isPerson : im_M := (yX12_isPerson, cX12_isPerson, 2, (some .boolean), 12, 1, false, [1573, 270, 1572, 4], [[(0, .iload_n 1, []), (1, .iconst 0, []), (2, .aload_n 0, []), (3, .getfield 200, [12, 10, 0, 0, 1346]), (6, .iconst 1, []), (7, .isub, []), (8, .invokestatic 196, [117, 0, 3, 12, 1559]), (11, .ireturn, [])]])
def mX12_nextTo : im_M := (yX12_nextTo, cX12_nextTo, 2, (some .int), 12, 2, true, [1580, 270, 1579], [[(0, .iload_n 1, []), (1, .tableswitch 74 0 2 #[27, 42, 59], [75, 0, 27])],
  [(28, .iload_n 0, []), (29, .bipush 90, []), (31, .if_icmp .ge 10, [41])],
  [(34, .iload_n 0, []), (35, .bipush 10, []), (37, .iadd, []), (38, .goto 4, [42]), (41, .iconst (-1), []), (42, .ireturn, []), (43, .iload_n 0, []), (44, .bipush 10, []), (46, .irem, []), (47, .bipush 9, [])],
  [(49, .if_icmp .ge 9, [58]), (52, .iload_n 0, []), (53, .iconst 1, []), (54, .iadd, []), (55, .goto 4, [59]), (58, .iconst (-1), []), (59, .ireturn, []), (60, .iload_n 0, []), (61, .bipush 10, []), (63, .if_icmp .lt 10, [73])],
  [(66, .iload_n 0, []), (67, .bipush 10, []), (69, .isub, []), (70, .goto 4, [74]), (73, .iconst (-1), []), (74, .ireturn, []), (75, .iload_n 0, []), (76, .bipush 10, []), (78, .irem, []), (79, .ifCond .le 9, [88])],
  [(82, .iload_n 0, []), (83, .iconst 1, []), (84, .isub, []), (85, .goto 4, [89]), (88, .iconst (-1), []), (89, .ireturn, [])]])
def mX12_areBeside : im_M := (yX12_areBeside, cX12_areBeside, 3, (some .boolean), 12, 2, true, [1595, 270, 1594], [[(0, .iconst 0, []), (1, .istore_n 2, []), (2, .iload_n 2, []), (3, .iconst 4, []), (4, .if_icmp .ge 20, [24]), (7, .iload_n 0, []), (8, .iload_n 2, []), (9, .invokestatic 203, [120, 0, 2, 12, 1578]), (12, .iload_n 1, []), (13, .if_icmp .ne 5, [18])],
  [(16, .iconst 1, []), (17, .ireturn, []), (18, .iinc 2 1, []), (21, .goto (-19), [2]), (24, .iconst 0, []), (25, .ireturn, [])]])
def mX12_weakOf : im_M := (yX12_weakOf, cX12_weakOf, 2, (some .int), 12, 1, false, [1696, 270, 1695, 22], [[(0, .aload_n 0, []), (1, .getfield 19, [12, 4, 0, 0, 1340]), (4, .iload_n 1, []), (5, .iaload, []), (6, .iconst (-1), []), (7, .if_icmp .ne 7, [14]), (10, .iconst 3, []), (11, .goto 14, [25]), (14, .aload_n 0, []), (15, .getfield 31, [12, 8, 0, 0, 1344])],
  [(18, .aload_n 0, []), (19, .getfield 19, [12, 4, 0, 0, 1340]), (22, .iload_n 1, []), (23, .iaload, []), (24, .iaload, []), (25, .ireturn, [])]])
def mX12_ruin : im_M := (yX12_ruin, cX12_ruin, 5, (some .int), 12, 3, false, [1555, 270, 1553, 1554], [[(0, .iload_n 1, []), (1, .invokestatic 207, [118, 0, 1, 12, 1556]), (4, .ifCond .ne 5, [9]), (7, .iconst (-1), []), (8, .ireturn, []), (9, .iload_n 2, []), (10, .iconst 0, []), (11, .iconst 5, []), (12, .invokestatic 196, [117, 0, 3, 12, 1559]), (15, .ifCond .eq 14, [29])],
  [(18, .iload_n 3, []), (19, .iconst 0, []), (20, .sipush 9999, []), (23, .invokestatic 196, [117, 0, 3, 12, 1559]), (26, .ifCond .ne 6, [32]), (29, .bipush (-2), []), (31, .ireturn, [])],
  [(32, .aload_n 0, []), (33, .getfield 7, [12, 0, 0, 0, 1336]), (36, .iload_n 1, []), (37, .iaload, []), (38, .istore 4, []), (40, .aload_n 0, []), (41, .getfield 7, [12, 0, 0, 0, 1336]), (44, .iload_n 1, []), (45, .iload_n 3, []), (46, .iastore, []), (47, .aload_n 0, [])],
  [(48, .getfield 19, [12, 4, 0, 0, 1340]), (51, .iload_n 1, []), (52, .iload_n 2, []), (53, .iastore, []), (54, .iload 4, []), (56, .ireturn, [])]])
def mX12_person : im_M := (yX12_person, cX12_person, 5, (some .int), 12, 4, false, [1565, 270, 1563, 1564], [[(0, .iload_n 1, []), (1, .invokestatic 207, [118, 0, 1, 12, 1556]), (4, .ifCond .ne 5, [9]), (7, .iconst (-1), []), (8, .ireturn, []), (9, .iload_n 2, []), (10, .iconst 1, []), (11, .bipush 9, []), (13, .invokestatic 196, [117, 0, 3, 12, 1559])],
  [(16, .ifCond .eq 24, [40]), (19, .iload_n 3, []), (20, .iconst 0, []), (21, .bipush 99, []), (23, .invokestatic 196, [117, 0, 3, 12, 1559]), (26, .ifCond .eq 14, [40]), (29, .iload 4, []), (31, .iconst 0, [])],
  [(32, .bipush 9, []), (34, .invokestatic 196, [117, 0, 3, 12, 1559]), (37, .ifCond .ne 6, [43]), (40, .bipush (-2), []), (42, .ireturn, []), (43, .aload_n 0, []), (44, .getfield 200, [12, 10, 0, 0, 1346]), (47, .bipush 24, [])],
  [(49, .if_icmp .ne 6, [55]), (52, .bipush (-4), []), (54, .ireturn, []), (55, .aload_n 0, []), (56, .getfield 38, [12, 11, 0, 0, 1347]), (59, .aload_n 0, []), (60, .getfield 200, [12, 10, 0, 0, 1346]), (63, .iload_n 2, [])],
  [(64, .iastore, []), (65, .aload_n 0, []), (66, .getfield 41, [12, 12, 0, 0, 1348]), (69, .aload_n 0, []), (70, .getfield 200, [12, 10, 0, 0, 1346]), (73, .iload_n 3, []), (74, .iastore, []), (75, .aload_n 0, []), (76, .getfield 44, [12, 13, 0, 0, 1349]), (79, .aload_n 0, [])],
  [(80, .getfield 200, [12, 10, 0, 0, 1346]), (83, .iload 4, []), (85, .iastore, []), (86, .aload_n 0, []), (87, .getfield 7, [12, 0, 0, 0, 1336]), (90, .sipush 140, []), (93, .aload_n 0, []), (94, .getfield 200, [12, 10, 0, 0, 1346])],
  [(97, .iadd, []), (98, .iload_n 1, []), (99, .iastore, []), (100, .aload_n 0, []), (101, .dup, []), (102, .getfield 200, [12, 10, 0, 0, 1346]), (105, .iconst 1, []), (106, .iadd, []), (107, .putfield 200, [12, 10, 0, 0, 1346]), (110, .aload_n 0, []), (111, .getfield 200, [12, 10, 0, 0, 1346])],
  [(114, .iconst 1, []), (115, .isub, []), (116, .ireturn, [])]])
def mX12_moves : im_M := (yX12_moves, cX12_moves, 4, (some .int), 12, 2, false, [1569, 270, 1567, 1568], [[(0, .aload_n 0, []), (1, .iload_n 1, []), (2, .invokevirtual 211, [119, 0, 1, 12, 1570]), (5, .ifCond .eq 10, [15]), (8, .iload_n 2, []), (9, .invokestatic 207, [118, 0, 1, 12, 1556]), (12, .ifCond .ne 5, [17]), (15, .iconst (-1), [])],
  [(16, .ireturn, []), (17, .aload_n 0, []), (18, .getfield 7, [12, 0, 0, 0, 1336]), (21, .sipush 236, []), (24, .iload_n 1, []), (25, .iadd, []), (26, .iaload, []), (27, .iconst 1, []), (28, .if_icmp .ne 6, [34]), (31, .bipush (-3), [])],
  [(33, .ireturn, []), (34, .aload_n 0, []), (35, .getfield 7, [12, 0, 0, 0, 1336]), (38, .sipush 140, []), (41, .iload_n 1, []), (42, .iadd, []), (43, .iaload, []), (44, .istore_n 3, []), (45, .aload_n 0, []), (46, .getfield 7, [12, 0, 0, 0, 1336])],
  [(49, .sipush 140, []), (52, .iload_n 1, []), (53, .iadd, []), (54, .iload_n 2, []), (55, .iastore, []), (56, .iload_n 3, []), (57, .ireturn, [])]])
def mX12_wall : im_M := (yX12_wall, cX12_wall, 4, (some .int), 12, 3, false, [1577, 270, 1575, 1576], [[(0, .iload_n 1, []), (1, .invokestatic 207, [118, 0, 1, 12, 1556]), (4, .ifCond .ne 5, [9]), (7, .iconst (-1), []), (8, .ireturn, []), (9, .iload_n 2, []), (10, .iconst 0, []), (11, .iconst 3, []), (12, .invokestatic 196, [117, 0, 3, 12, 1559]), (15, .ifCond .eq 13, [28])],
  [(18, .iload_n 3, []), (19, .iconst 1, []), (20, .bipush 99, []), (22, .invokestatic 196, [117, 0, 3, 12, 1559]), (25, .ifCond .ne 6, [31]), (28, .bipush (-2), []), (30, .ireturn, []), (31, .iload_n 1, [])],
  [(32, .iload_n 2, []), (33, .invokestatic 203, [120, 0, 2, 12, 1578]), (36, .iconst (-1), []), (37, .if_icmp .ne 6, [43]), (40, .bipush (-3), []), (42, .ireturn, []), (43, .aload_n 0, []), (44, .getfield 214, [12, 21, 0, 0, 1357]), (47, .bipush 16, [])],
  [(49, .if_icmp .ne 6, [55]), (52, .bipush (-4), []), (54, .ireturn, []), (55, .aload_n 0, []), (56, .getfield 68, [12, 22, 0, 0, 1358]), (59, .aload_n 0, []), (60, .getfield 214, [12, 21, 0, 0, 1357]), (63, .iload_n 1, [])],
  [(64, .iastore, []), (65, .aload_n 0, []), (66, .getfield 71, [12, 23, 0, 0, 1359]), (69, .aload_n 0, []), (70, .getfield 214, [12, 21, 0, 0, 1357]), (73, .iload_n 1, []), (74, .iload_n 2, []), (75, .invokestatic 203, [120, 0, 2, 12, 1578]), (78, .iastore, []), (79, .aload_n 0, [])],
  [(80, .getfield 7, [12, 0, 0, 0, 1336]), (83, .bipush 108, []), (85, .aload_n 0, []), (86, .getfield 214, [12, 21, 0, 0, 1357]), (89, .iadd, []), (90, .iconst 1, []), (91, .iastore, []), (92, .aload_n 0, []), (93, .getfield 7, [12, 0, 0, 0, 1336])],
  [(96, .bipush 124, []), (98, .aload_n 0, []), (99, .getfield 214, [12, 21, 0, 0, 1357]), (102, .iadd, []), (103, .iload_n 3, []), (104, .iastore, []), (105, .aload_n 0, []), (106, .dup, []), (107, .getfield 214, [12, 21, 0, 0, 1357]), (110, .iconst 1, []), (111, .iadd, [])],
  [(112, .putfield 214, [12, 21, 0, 0, 1357]), (115, .aload_n 0, []), (116, .getfield 214, [12, 21, 0, 0, 1357]), (119, .iconst 1, []), (120, .isub, []), (121, .ireturn, [])]])
def mX12_weather : im_M := (yX12_weather, cX12_weather, 4, (some .int), 12, 2, false, [1584, 270, 1582, 1583], [[(0, .iload_n 1, []), (1, .iconst 0, []), (2, .bipush 9, []), (4, .invokestatic 196, [117, 0, 3, 12, 1559]), (7, .ifCond .eq 13, [20]), (10, .iload_n 2, []), (11, .iconst 0, []), (12, .bipush 9, []), (14, .invokestatic 196, [117, 0, 3, 12, 1559])],
  [(17, .ifCond .ne 6, [23]), (20, .bipush (-2), []), (22, .ireturn, []), (23, .bipush 10, []), (25, .aload_n 0, []), (26, .getfield 7, [12, 0, 0, 0, 1336]), (29, .bipush 106, []), (31, .iaload, [])],
  [(32, .imul, []), (33, .aload_n 0, []), (34, .getfield 7, [12, 0, 0, 0, 1336]), (37, .bipush 107, []), (39, .iaload, []), (40, .iadd, []), (41, .istore_n 3, []), (42, .aload_n 0, []), (43, .getfield 7, [12, 0, 0, 0, 1336]), (46, .bipush 106, [])],
  [(48, .iload_n 1, []), (49, .iastore, []), (50, .aload_n 0, []), (51, .getfield 7, [12, 0, 0, 0, 1336]), (54, .bipush 107, []), (56, .iload_n 2, []), (57, .iastore, []), (58, .iload_n 3, []), (59, .ireturn, [])]])
def mX12_tip : im_M := (yX12_tip, cX12_tip, 3, (some .int), 12, 1, false, [1588, 270, 1586, 1587], [[(0, .iload_n 1, []), (1, .iconst (-1), []), (2, .bipush 99, []), (4, .invokestatic 196, [117, 0, 3, 12, 1559]), (7, .ifCond .ne 6, [13]), (10, .bipush (-5), []), (12, .ireturn, []), (13, .aload_n 0, []), (14, .getfield 34, [12, 9, 0, 0, 1345])],
  [(17, .istore_n 2, []), (18, .aload_n 0, []), (19, .iload_n 1, []), (20, .putfield 34, [12, 9, 0, 0, 1345]), (23, .iload_n 2, []), (24, .ireturn, [])]])
def mX12_isInOther : im_M := (yX12_isInOther, cX12_isInOther, 5, (some .boolean), 12, 2, false, [1603, 270, 1602, 6], [[(0, .iconst 0, []), (1, .istore_n 3, []), (2, .iload_n 3, []), (3, .iconst 4, []), (4, .if_icmp .ge 52, [56]), (7, .iconst 0, []), (8, .istore 4, []), (10, .iload 4, []), (12, .aload_n 0, []), (13, .getfield 50, [12, 15, 0, 0, 1351])],
  [(16, .iload_n 3, []), (17, .iaload, []), (18, .if_icmp .ge 32, [50]), (21, .iload_n 3, []), (22, .iload_n 2, []), (23, .if_icmp .eq 27, [50]), (26, .aload_n 0, []), (27, .getfield 47, [12, 14, 0, 0, 1350]), (30, .bipush 8, [])],
  [(32, .iload_n 3, []), (33, .imul, []), (34, .iload 4, []), (36, .iadd, []), (37, .iaload, []), (38, .iload_n 1, []), (39, .if_icmp .ne 5, [44]), (42, .iconst 1, []), (43, .ireturn, []), (44, .iinc 4 1, []), (47, .goto (-37), [10])],
  [(50, .iinc 3 1, []), (53, .goto (-51), [2]), (56, .iconst 0, []), (57, .ireturn, [])]])
def mX12_barred : im_M := (yX12_barred, cX12_barred, 6, (some .int), 12, 2, false, [1599, 270, 1598, 5], [[(0, .iconst 0, []), (1, .istore_n 3, []), (2, .iload_n 3, []), (3, .aload_n 0, []), (4, .getfield 150, [12, 56, 0, 0, 1392]), (7, .iload_n 2, []), (8, .iaload, []), (9, .if_icmp .ge 97, [106]), (12, .aload_n 0, []), (13, .getfield 153, [12, 57, 0, 0, 1393])],
  [(16, .bipush 40, []), (18, .iload_n 2, []), (19, .imul, []), (20, .iload_n 3, []), (21, .iadd, []), (22, .iaload, []), (23, .istore 4, []), (25, .aload_n 0, []), (26, .iload 4, []), (28, .invokevirtual 211, [119, 0, 1, 12, 1570]), (31, .ifCond .eq 18, [49])],
  [(34, .aload_n 0, []), (35, .getfield 7, [12, 0, 0, 0, 1336]), (38, .sipush 236, []), (41, .iload 4, []), (43, .iadd, []), (44, .iaload, []), (45, .iconst 1, []), (46, .if_icmp .ne 6, [52])],
  [(49, .bipush (-2), []), (51, .ireturn, []), (52, .iconst 0, []), (53, .istore 5, []), (55, .iload 5, []), (57, .iload_n 3, []), (58, .if_icmp .ge 29, [87]), (61, .aload_n 0, []), (62, .getfield 153, [12, 57, 0, 0, 1393])],
  [(65, .bipush 40, []), (67, .iload_n 2, []), (68, .imul, []), (69, .iload 5, []), (71, .iadd, []), (72, .iaload, []), (73, .iload 4, []), (75, .if_icmp .ne 6, [81]), (78, .bipush (-2), [])],
  [(80, .ireturn, []), (81, .iinc 5 1, []), (84, .goto (-29), [55]), (87, .aload_n 0, []), (88, .iload 4, []), (90, .iload_n 1, []), (91, .invokevirtual 217, [129, 0, 2, 12, 1600]), (94, .ifCond .eq 6, [100])],
  [(97, .bipush (-3), []), (99, .ireturn, []), (100, .iinc 3 1, []), (103, .goto (-101), [2]), (106, .iconst 0, []), (107, .ireturn, [])]])
def mX12_row : im_M := (yX12_row, cX12_row, 7, (some .int), 12, 4, false, [1592, 270, 1590, 1591], [[(0, .iload_n 1, []), (1, .iconst 0, []), (2, .iconst 3, []), (3, .invokestatic 196, [117, 0, 3, 12, 1559]), (6, .ifCond .eq 27, [33]), (9, .iload_n 2, []), (10, .iconst 0, []), (11, .iconst 3, []), (12, .invokestatic 196, [117, 0, 3, 12, 1559]), (15, .ifCond .eq 18, [33])],
  [(18, .iload_n 3, []), (19, .invokestatic 207, [118, 0, 1, 12, 1556]), (22, .ifCond .eq 11, [33]), (25, .iload 4, []), (27, .invokestatic 207, [118, 0, 1, 12, 1556]), (30, .ifCond .ne 5, [35])],
  [(33, .iconst (-1), []), (34, .ireturn, []), (35, .aload_n 0, []), (36, .getfield 147, [12, 55, 0, 0, 1391]), (39, .iload_n 2, []), (40, .iaload, []), (41, .iconst (-1), []), (42, .if_icmp .ne 6, [48]), (45, .bipush (-11), []), (47, .ireturn, [])],
  [(48, .aload_n 0, []), (49, .getfield 150, [12, 56, 0, 0, 1392]), (52, .iload_n 2, []), (53, .iaload, []), (54, .bipush 8, []), (56, .if_icmp .gt 12, [68]), (59, .iload_n 3, []), (60, .iload 4, []), (62, .invokestatic 221, [121, 0, 2, 12, 1593])],
  [(65, .ifCond .ne 6, [71]), (68, .bipush (-2), []), (70, .ireturn, []), (71, .aload_n 0, []), (72, .iload_n 1, []), (73, .iload_n 2, []), (74, .invokevirtual 224, [130, 0, 2, 12, 1596]), (77, .istore 5, []), (79, .iload 5, [])],
  [(81, .ifCond .eq 6, [87]), (84, .iload 5, []), (86, .ireturn, []), (87, .iconst 0, []), (88, .istore 6, []), (90, .iload 6, []), (92, .aload_n 0, []), (93, .getfield 150, [12, 56, 0, 0, 1392])],
  [(96, .iload_n 2, []), (97, .iaload, []), (98, .if_icmp .ge 33, [131]), (101, .aload_n 0, []), (102, .getfield 47, [12, 14, 0, 0, 1350]), (105, .bipush 8, []), (107, .iload_n 1, []), (108, .imul, []), (109, .iload 6, []), (111, .iadd, [])],
  [(112, .aload_n 0, []), (113, .getfield 153, [12, 57, 0, 0, 1393]), (116, .bipush 40, []), (118, .iload_n 2, []), (119, .imul, []), (120, .iload 6, []), (122, .iadd, []), (123, .iaload, []), (124, .iastore, []), (125, .iinc 6 1, [])],
  [(128, .goto (-38), [90]), (131, .aload_n 0, []), (132, .getfield 50, [12, 15, 0, 0, 1351]), (135, .iload_n 1, []), (136, .aload_n 0, []), (137, .getfield 150, [12, 56, 0, 0, 1392]), (140, .iload_n 2, []), (141, .iaload, []), (142, .iastore, []), (143, .aload_n 0, [])],
  [(144, .getfield 53, [12, 16, 0, 0, 1352]), (147, .iload_n 1, []), (148, .iload_n 3, []), (149, .iastore, []), (150, .aload_n 0, []), (151, .getfield 56, [12, 17, 0, 0, 1353]), (154, .iload_n 1, []), (155, .iload 4, []), (157, .iastore, []), (158, .aload_n 0, []), (159, .getfield 150, [12, 56, 0, 0, 1392])],
  [(162, .iload_n 2, []), (163, .iaload, []), (164, .ireturn, [])]])
def mX12_rail : im_M := (yX12_rail, cX12_rail, 6, (some .int), 12, 3, false, [1607, 270, 1605, 1606], [[(0, .iload_n 1, []), (1, .iconst 0, []), (2, .iconst 2, []), (3, .invokestatic 196, [117, 0, 3, 12, 1559]), (6, .ifCond .eq 12, [18]), (9, .iload_n 2, []), (10, .iconst 0, []), (11, .iconst 3, []), (12, .invokestatic 196, [117, 0, 3, 12, 1559]), (15, .ifCond .ne 5, [20])],
  [(18, .iconst (-1), []), (19, .ireturn, []), (20, .aload_n 0, []), (21, .getfield 147, [12, 55, 0, 0, 1391]), (24, .iload_n 2, []), (25, .iaload, []), (26, .iconst (-1), []), (27, .if_icmp .ne 6, [33]), (30, .bipush (-11), [])],
  [(32, .ireturn, []), (33, .aload_n 0, []), (34, .getfield 150, [12, 56, 0, 0, 1392]), (37, .iload_n 2, []), (38, .iaload, []), (39, .iconst 0, []), (40, .bipush 12, []), (42, .invokestatic 196, [117, 0, 3, 12, 1559]), (45, .ifCond .eq 27, [72])],
  [(48, .aload_n 0, []), (49, .getfield 150, [12, 56, 0, 0, 1392]), (52, .iload_n 2, []), (53, .iaload, []), (54, .iconst 1, []), (55, .if_icmp .eq 17, [72]), (58, .iload_n 3, []), (59, .iconst 0, []), (60, .bipush 20, []), (62, .invokestatic 196, [117, 0, 3, 12, 1559])],
  [(65, .ifCond .eq 7, [72]), (68, .iconst 1, []), (69, .goto 4, [73]), (72, .iconst 0, []), (73, .istore 4, []), (75, .iconst 0, []), (76, .istore 5, []), (78, .iload 5, [])],
  [(80, .aload_n 0, []), (81, .getfield 150, [12, 56, 0, 0, 1392]), (84, .iload_n 2, []), (85, .iaload, []), (86, .if_icmp .ge 85, [171]), (89, .iload 4, []), (91, .ifCond .eq 80, [171]), (94, .aload_n 0, []), (95, .getfield 153, [12, 57, 0, 0, 1393])],
  [(98, .bipush 40, []), (100, .iload_n 2, []), (101, .imul, []), (102, .iload 5, []), (104, .iadd, []), (105, .iaload, []), (106, .invokestatic 207, [118, 0, 1, 12, 1556]), (109, .ifCond .eq 53, [162])],
  [(112, .iload 5, []), (114, .ifCond .eq 44, [158]), (117, .aload_n 0, []), (118, .getfield 153, [12, 57, 0, 0, 1393]), (121, .bipush 40, []), (123, .iload_n 2, []), (124, .imul, []), (125, .iload 5, []), (127, .ifCond .ne 7, [134])],
  [(130, .iconst 0, []), (131, .goto 7, [138]), (134, .iload 5, []), (136, .iconst 1, []), (137, .isub, []), (138, .iadd, []), (139, .iaload, []), (140, .aload_n 0, []), (141, .getfield 153, [12, 57, 0, 0, 1393])],
  [(144, .bipush 40, []), (146, .iload_n 2, []), (147, .imul, []), (148, .iload 5, []), (150, .iadd, []), (151, .iaload, []), (152, .invokestatic 221, [121, 0, 2, 12, 1593]), (155, .ifCond .eq 7, [162]), (158, .iconst 1, []), (159, .goto 4, [163])],
  [(162, .iconst 0, []), (163, .istore 4, []), (165, .iinc 5 1, []), (168, .goto (-90), [78]), (171, .iload 4, []), (173, .ifCond .ne 6, [179])],
  [(176, .bipush (-2), []), (178, .ireturn, []), (179, .iconst 0, []), (180, .istore 5, []), (182, .iload 5, []), (184, .aload_n 0, []), (185, .getfield 150, [12, 56, 0, 0, 1392]), (188, .iload_n 2, []), (189, .iaload, []), (190, .if_icmp .ge 33, [223])],
  [(193, .aload_n 0, []), (194, .getfield 59, [12, 18, 0, 0, 1354]), (197, .bipush 12, []), (199, .iload_n 1, []), (200, .imul, []), (201, .iload 5, []), (203, .iadd, []), (204, .aload_n 0, []), (205, .getfield 153, [12, 57, 0, 0, 1393])],
  [(208, .bipush 40, []), (210, .iload_n 2, []), (211, .imul, []), (212, .iload 5, []), (214, .iadd, []), (215, .iaload, []), (216, .iastore, []), (217, .iinc 5 1, []), (220, .goto (-38), [182]), (223, .aload_n 0, [])],
  [(224, .getfield 62, [12, 19, 0, 0, 1355]), (227, .iload_n 1, []), (228, .aload_n 0, []), (229, .getfield 150, [12, 56, 0, 0, 1392]), (232, .iload_n 2, []), (233, .iaload, []), (234, .iastore, []), (235, .aload_n 0, []), (236, .getfield 65, [12, 20, 0, 0, 1356]), (239, .iload_n 1, [])],
  [(240, .iload_n 3, []), (241, .iastore, []), (242, .aload_n 0, []), (243, .getfield 150, [12, 56, 0, 0, 1392]), (246, .iload_n 2, []), (247, .iaload, []), (248, .ireturn, [])]])
def mX12_room : im_M := (yX12_room, cX12_room, 5, (some .int), 12, 4, false, [1611, 270, 1609, 1610], [[(0, .iload_n 1, []), (1, .invokestatic 207, [118, 0, 1, 12, 1556]), (4, .ifCond .ne 5, [9]), (7, .iconst (-1), []), (8, .ireturn, []), (9, .iload_n 2, []), (10, .iconst 0, []), (11, .sipush 9999, []), (14, .invokestatic 196, [117, 0, 3, 12, 1559])],
  [(17, .ifCond .eq 25, [42]), (20, .iload_n 3, []), (21, .iconst 0, []), (22, .sipush 999, []), (25, .invokestatic 196, [117, 0, 3, 12, 1559]), (28, .ifCond .eq 14, [42]), (31, .iload 4, [])],
  [(33, .iconst 1, []), (34, .bipush 99, []), (36, .invokestatic 196, [117, 0, 3, 12, 1559]), (39, .ifCond .ne 6, [45]), (42, .bipush (-2), []), (44, .ireturn, []), (45, .aload_n 0, []), (46, .getfield 227, [12, 24, 0, 0, 1360])],
  [(49, .bipush 12, []), (51, .if_icmp .ne 6, [57]), (54, .bipush (-4), []), (56, .ireturn, []), (57, .aload_n 0, []), (58, .getfield 74, [12, 25, 0, 0, 1361]), (61, .aload_n 0, []), (62, .getfield 227, [12, 24, 0, 0, 1360])],
  [(65, .iload_n 1, []), (66, .iastore, []), (67, .aload_n 0, []), (68, .getfield 77, [12, 26, 0, 0, 1362]), (71, .aload_n 0, []), (72, .getfield 227, [12, 24, 0, 0, 1360]), (75, .iload_n 2, []), (76, .iastore, []), (77, .aload_n 0, []), (78, .getfield 80, [12, 27, 0, 0, 1363])],
  [(81, .aload_n 0, []), (82, .getfield 227, [12, 24, 0, 0, 1360]), (85, .iload_n 3, []), (86, .iastore, []), (87, .aload_n 0, []), (88, .getfield 83, [12, 28, 0, 0, 1364]), (91, .aload_n 0, []), (92, .getfield 227, [12, 24, 0, 0, 1360]), (95, .iload 4, [])],
  [(97, .iastore, []), (98, .aload_n 0, []), (99, .dup, []), (100, .getfield 227, [12, 24, 0, 0, 1360]), (103, .iconst 1, []), (104, .iadd, []), (105, .putfield 227, [12, 24, 0, 0, 1360]), (108, .aload_n 0, []), (109, .getfield 227, [12, 24, 0, 0, 1360])],
  [(112, .iconst 1, []), (113, .isub, []), (114, .ireturn, [])]])
def mX12_feed : im_M := (yX12_feed, cX12_feed, 5, (some .int), 12, 2, false, [1615, 270, 1613, 1614], [[(0, .iload_n 3, []), (1, .iconst 1, []), (2, .bipush 8, []), (4, .invokestatic 196, [117, 0, 3, 12, 1559]), (7, .ifCond .ne 6, [13]), (10, .bipush (-2), []), (12, .ireturn, []), (13, .aload_n 0, []), (14, .getfield 230, [12, 45, 0, 0, 1381])],
  [(17, .iload_n 3, []), (18, .iadd, []), (19, .sipush 160, []), (22, .if_icmp .le 6, [28]), (25, .bipush (-4), []), (27, .ireturn, []), (28, .iload_n 3, []), (29, .iconst 1, []), (30, .isub, []), (31, .istore 4, [])],
  [(33, .iload 4, []), (35, .ifCond .lt 40, [75]), (38, .aload_n 0, []), (39, .getfield 120, [12, 44, 0, 0, 1380]), (42, .aload_n 0, []), (43, .getfield 230, [12, 45, 0, 0, 1381]), (46, .lload_n 1, []), (47, .bipush 8, [])],
  [(49, .iload 4, []), (51, .imul, []), (52, .lshr, []), (53, .ldc2_w 233, [13, 0, 0, 0, 1616]), (56, .land, []), (57, .l2i, []), (58, .iastore, []), (59, .aload_n 0, []), (60, .dup, []), (61, .getfield 230, [12, 45, 0, 0, 1381])],
  [(64, .iconst 1, []), (65, .iadd, []), (66, .putfield 230, [12, 45, 0, 0, 1381]), (69, .iinc 4 (-1), []), (72, .goto (-39), [33]), (75, .aload_n 0, []), (76, .getfield 230, [12, 45, 0, 0, 1381]), (79, .ireturn, [])]])
def mX12_byteHere : im_M := (yX12_byteHere, cX12_byteHere, 1, (some .int), 12, 0, false, [1632, 270, 1631, 9], [[(0, .aload_n 0, []), (1, .getfield 235, [12, 60, 0, 0, 1396]), (4, .aload_n 0, []), (5, .getfield 230, [12, 45, 0, 0, 1381]), (8, .if_icmp .ge 15, [23]), (11, .aload_n 0, []), (12, .getfield 120, [12, 44, 0, 0, 1380]), (15, .aload_n 0, [])],
  [(16, .getfield 235, [12, 60, 0, 0, 1396]), (19, .iaload, []), (20, .goto 4, [24]), (23, .iconst (-1), []), (24, .ireturn, [])]])
def mX12_wordOf : im_M := (yX12_wordOf, cX12_wordOf, 7, (some .int), 12, 2, false, [1628, 270, 1627, 8], [[(0, .iconst 0, []), (1, .istore_n 3, []), (2, .iload_n 1, []), (3, .istore 4, []), (5, .iload 4, []), (7, .iload_n 2, []), (8, .if_icmp .ge 16, [24]), (11, .iload_n 3, []), (12, .iconst 1, []), (13, .iload 4, []), (15, .ishl, [])],
  [(16, .ior, []), (17, .istore_n 3, []), (18, .iinc 4 1, []), (21, .goto (-16), [5]), (24, .iconst 0, []), (25, .istore 4, []), (27, .iload_n 3, []), (28, .ifCond .eq 120, [148]), (31, .iconst 0, [])],
  [(32, .istore 5, []), (34, .iload_n 1, []), (35, .istore 6, []), (37, .iload 6, []), (39, .iload_n 2, []), (40, .if_icmp .ge 85, [125]), (43, .iload_n 3, []), (44, .iload 6, []), (46, .ishr, []), (47, .iconst 1, [])],
  [(48, .iand, []), (49, .iconst 1, []), (50, .if_icmp .ne 69, [119]), (53, .iload 4, []), (55, .aload_n 0, []), (56, .getfield 184, [12, 59, 0, 0, 1395]), (59, .iload 6, []), (61, .iaload, []), (62, .if_icmp .ne 8, [70])],
  [(65, .iload 6, []), (67, .iload_n 1, []), (68, .isub, []), (69, .ireturn, []), (70, .iload 5, []), (72, .aload_n 0, []), (73, .getfield 180, [12, 58, 0, 0, 1394]), (76, .iload 6, []), (78, .laload, []), (79, .bipush 8, [])],
  [(81, .aload_n 0, []), (82, .getfield 184, [12, 59, 0, 0, 1395]), (85, .iload 6, []), (87, .iaload, []), (88, .iconst 1, []), (89, .isub, []), (90, .iload 4, []), (92, .isub, []), (93, .imul, []), (94, .lshr, []), (95, .ldc2_w 233, [13, 0, 0, 0, 1616])],
  [(98, .land, []), (99, .aload_n 0, []), (100, .invokevirtual 238, [135, 0, 0, 12, 1629]), (103, .i2l, []), (104, .lcmp, []), (105, .ifCond .ne 10, [115]), (108, .iconst 1, []), (109, .iload 6, []), (111, .ishl, [])],
  [(112, .goto 4, [116]), (115, .iconst 0, []), (116, .ior, []), (117, .istore 5, []), (119, .iinc 6 1, []), (122, .goto (-85), [37]), (125, .iload 5, []), (127, .istore_n 3, [])],
  [(128, .iload_n 3, []), (129, .ifCond .eq 16, [145]), (132, .aload_n 0, []), (133, .dup, []), (134, .getfield 235, [12, 60, 0, 0, 1396]), (137, .iconst 1, []), (138, .iadd, []), (139, .putfield 235, [12, 60, 0, 0, 1396]), (142, .iinc 4 1, [])],
  [(145, .goto (-118), [27]), (148, .iconst (-1), []), (149, .ireturn, [])]])
def mX12_number : im_M := (yX12_number, cX12_number, 3, (some .int), 12, 0, false, [1636, 270, 1635, 10], [[(0, .iconst 0, []), (1, .istore_n 1, []), (2, .iconst 0, []), (3, .istore_n 2, []), (4, .iload_n 2, []), (5, .iconst 3, []), (6, .if_icmp .ge 46, [52]), (9, .aload_n 0, []), (10, .invokevirtual 238, [135, 0, 0, 12, 1629]), (13, .bipush 48, []), (15, .bipush 57, [])],
  [(17, .invokestatic 196, [117, 0, 3, 12, 1559]), (20, .ifCond .eq 32, [52]), (23, .bipush 10, []), (25, .iload_n 1, []), (26, .imul, []), (27, .aload_n 0, []), (28, .invokevirtual 238, [135, 0, 0, 12, 1629]), (31, .iadd, [])],
  [(32, .bipush 48, []), (34, .isub, []), (35, .istore_n 1, []), (36, .iinc 2 1, []), (39, .aload_n 0, []), (40, .dup, []), (41, .getfield 235, [12, 60, 0, 0, 1396]), (44, .iconst 1, []), (45, .iadd, []), (46, .putfield 235, [12, 60, 0, 0, 1396])],
  [(49, .goto (-45), [4]), (52, .iload_n 2, []), (53, .ifCond .ne 7, [60]), (56, .iconst (-1), []), (57, .goto 4, [61]), (60, .iload_n 1, []), (61, .ireturn, [])]])
def mX12_test : im_M := (yX12_test, cX12_test, 3, (some .boolean), 12, 1, false, [1640, 270, 1639, 11], [[(0, .iconst 3, []), (1, .iload_n 1, []), (2, .imul, []), (3, .aload_n 0, []), (4, .getfield 135, [12, 51, 0, 0, 1387]), (7, .iload_n 1, []), (8, .iaload, []), (9, .iadd, []), (10, .istore_n 2, []), (11, .aload_n 0, []), (12, .getfield 138, [12, 52, 0, 0, 1388]), (15, .iload_n 2, [])],
  [(16, .aload_n 0, []), (17, .iconst 3, []), (18, .bipush 11, []), (20, .invokevirtual 242, [136, 0, 2, 12, 1625]), (23, .iastore, []), (24, .aload_n 0, []), (25, .getfield 138, [12, 52, 0, 0, 1388]), (28, .iload_n 2, []), (29, .iaload, []), (30, .iconst (-1), []), (31, .if_icmp .ne 5, [36])],
  [(34, .iconst 0, []), (35, .ireturn, []), (36, .aload_n 0, []), (37, .getfield 141, [12, 53, 0, 0, 1389]), (40, .iload_n 2, []), (41, .aload_n 0, []), (42, .invokevirtual 238, [135, 0, 0, 12, 1629]), (45, .iastore, []), (46, .aload_n 0, []), (47, .getfield 141, [12, 53, 0, 0, 1389])],
  [(50, .iload_n 2, []), (51, .iaload, []), (52, .bipush 60, []), (54, .if_icmp .eq 27, [81]), (57, .aload_n 0, []), (58, .getfield 141, [12, 53, 0, 0, 1389]), (61, .iload_n 2, []), (62, .iaload, []), (63, .bipush 62, [])],
  [(65, .if_icmp .eq 16, [81]), (68, .aload_n 0, []), (69, .getfield 141, [12, 53, 0, 0, 1389]), (72, .iload_n 2, []), (73, .iaload, []), (74, .bipush 61, []), (76, .if_icmp .eq 5, [81]), (79, .iconst 0, [])],
  [(80, .ireturn, []), (81, .aload_n 0, []), (82, .dup, []), (83, .getfield 235, [12, 60, 0, 0, 1396]), (86, .iconst 1, []), (87, .iadd, []), (88, .putfield 235, [12, 60, 0, 0, 1396]), (91, .aload_n 0, []), (92, .getfield 144, [12, 54, 0, 0, 1390]), (95, .iload_n 2, [])],
  [(96, .aload_n 0, []), (97, .invokevirtual 245, [137, 0, 0, 12, 1633]), (100, .iastore, []), (101, .aload_n 0, []), (102, .getfield 135, [12, 51, 0, 0, 1387]), (105, .iload_n 1, []), (106, .dup2, []), (107, .iaload, []), (108, .iconst 1, []), (109, .iadd, []), (110, .iastore, []), (111, .aload_n 0, [])],
  [(112, .getfield 144, [12, 54, 0, 0, 1390]), (115, .iload_n 2, []), (116, .iaload, []), (117, .iconst (-1), []), (118, .if_icmp .eq 7, [125]), (121, .iconst 1, []), (122, .goto 4, [126]), (125, .iconst 0, []), (126, .ireturn, [])]])
def mX12_line : im_M := (yX12_line, cX12_line, 2, (some .boolean), 12, 1, false, [1624, 270, 1623, 7], [[(0, .aload_n 0, []), (1, .getfield 135, [12, 51, 0, 0, 1387]), (4, .iload_n 1, []), (5, .iconst 0, []), (6, .iastore, []), (7, .aload_n 0, []), (8, .getfield 129, [12, 49, 0, 0, 1385]), (11, .iload_n 1, []), (12, .aload_n 0, []), (13, .iconst 0, []), (14, .iconst 3, []), (15, .invokevirtual 242, [136, 0, 2, 12, 1625])],
  [(18, .iastore, []), (19, .aload_n 0, []), (20, .getfield 129, [12, 49, 0, 0, 1385]), (23, .iload_n 1, []), (24, .iaload, []), (25, .iconst (-1), []), (26, .if_icmp .eq 12, [38]), (29, .aload_n 0, []), (30, .invokevirtual 238, [135, 0, 0, 12, 1629])],
  [(33, .bipush 32, []), (35, .if_icmp .eq 5, [40]), (38, .iconst 0, []), (39, .ireturn, []), (40, .aload_n 0, []), (41, .dup, []), (42, .getfield 235, [12, 60, 0, 0, 1396]), (45, .iconst 1, []), (46, .iadd, []), (47, .putfield 235, [12, 60, 0, 0, 1396])],
  [(50, .aload_n 0, []), (51, .getfield 132, [12, 50, 0, 0, 1386]), (54, .iload_n 1, []), (55, .aload_n 0, []), (56, .invokevirtual 245, [137, 0, 0, 12, 1633]), (59, .iastore, []), (60, .aload_n 0, []), (61, .getfield 132, [12, 50, 0, 0, 1386])],
  [(64, .iload_n 1, []), (65, .iaload, []), (66, .iconst (-1), []), (67, .if_icmp .ne 5, [72]), (70, .iconst 0, []), (71, .ireturn, []), (72, .aload_n 0, []), (73, .invokevirtual 238, [135, 0, 0, 12, 1629]), (76, .bipush 32, []), (78, .if_icmp .ne 64, [142])],
  [(81, .aload_n 0, []), (82, .bipush 11, []), (84, .bipush 12, []), (86, .invokevirtual 242, [136, 0, 2, 12, 1625]), (89, .iconst (-1), []), (90, .if_icmp .eq 11, [101]), (93, .aload_n 0, []), (94, .iload_n 1, []), (95, .invokevirtual 248, [138, 0, 1, 12, 1637])],
  [(98, .ifCond .ne 5, [103]), (101, .iconst 0, []), (102, .ireturn, []), (103, .aload_n 0, []), (104, .invokevirtual 238, [135, 0, 0, 12, 1629]), (107, .bipush 38, []), (109, .if_icmp .ne 33, [142])],
  [(112, .aload_n 0, []), (113, .getfield 135, [12, 51, 0, 0, 1387]), (116, .iload_n 1, []), (117, .iaload, []), (118, .iconst 3, []), (119, .if_icmp .ge 23, [142]), (122, .aload_n 0, []), (123, .dup, []), (124, .getfield 235, [12, 60, 0, 0, 1396]), (127, .iconst 1, [])],
  [(128, .iadd, []), (129, .putfield 235, [12, 60, 0, 0, 1396]), (132, .aload_n 0, []), (133, .iload_n 1, []), (134, .invokevirtual 248, [138, 0, 1, 12, 1637]), (137, .ifCond .ne (-34), [103]), (140, .iconst 0, []), (141, .ireturn, []), (142, .aload_n 0, []), (143, .invokevirtual 238, [135, 0, 0, 12, 1629])],
  [(146, .bipush 59, []), (148, .if_icmp .eq 5, [153]), (151, .iconst 0, []), (152, .ireturn, []), (153, .aload_n 0, []), (154, .dup, []), (155, .getfield 235, [12, 60, 0, 0, 1396]), (158, .iconst 1, []), (159, .iadd, [])],
  [(160, .putfield 235, [12, 60, 0, 0, 1396]), (163, .iconst 1, []), (164, .ireturn, [])]])
def mX12_order : im_M := (yX12_order, cX12_order, 3, (some .int), 12, 0, false, [1620, 270, 1618, 1619], [[(0, .aload_n 0, []), (1, .getfield 251, [12, 46, 0, 0, 1382]), (4, .bipush 6, []), (6, .if_icmp .ne 6, [12]), (9, .bipush (-4), []), (11, .ireturn, []), (12, .aload_n 0, []), (13, .iconst 0, []), (14, .putfield 235, [12, 60, 0, 0, 1396])],
  [(17, .iconst 0, []), (18, .istore_n 1, []), (19, .iconst 1, []), (20, .istore_n 2, []), (21, .iload_n 2, []), (22, .ifCond .eq 44, [66]), (25, .iload_n 1, []), (26, .bipush 8, []), (28, .if_icmp .ge 38, [66]), (31, .iload_n 1, [])],
  [(32, .ifCond .eq 14, [46]), (35, .aload_n 0, []), (36, .getfield 235, [12, 60, 0, 0, 1396]), (39, .aload_n 0, []), (40, .getfield 230, [12, 45, 0, 0, 1381]), (43, .if_icmp .ge 23, [66]), (46, .aload_n 0, []), (47, .bipush 8, [])],
  [(49, .aload_n 0, []), (50, .getfield 251, [12, 46, 0, 0, 1382]), (53, .imul, []), (54, .iload_n 1, []), (55, .iadd, []), (56, .invokevirtual 254, [139, 0, 1, 12, 1621]), (59, .istore_n 2, []), (60, .iinc 1 1, []), (63, .goto (-42), [21])],
  [(66, .iload_n 2, []), (67, .ifCond .eq 18, [85]), (70, .aload_n 0, []), (71, .getfield 235, [12, 60, 0, 0, 1396]), (74, .aload_n 0, []), (75, .getfield 230, [12, 45, 0, 0, 1381]), (78, .if_icmp .ne 7, [85])],
  [(81, .iconst 1, []), (82, .goto 4, [86]), (85, .iconst 0, []), (86, .istore_n 2, []), (87, .aload_n 0, []), (88, .iconst 0, []), (89, .putfield 230, [12, 45, 0, 0, 1381]), (92, .iload_n 2, []), (93, .ifCond .ne 11, [104])],
  [(96, .bipush (-100), []), (98, .aload_n 0, []), (99, .getfield 235, [12, 60, 0, 0, 1396]), (102, .isub, []), (103, .ireturn, []), (104, .aload_n 0, []), (105, .getfield 126, [12, 48, 0, 0, 1384]), (108, .aload_n 0, []), (109, .getfield 251, [12, 46, 0, 0, 1382])],
  [(112, .iload_n 1, []), (113, .iastore, []), (114, .aload_n 0, []), (115, .dup, []), (116, .getfield 251, [12, 46, 0, 0, 1382]), (119, .iconst 1, []), (120, .iadd, []), (121, .putfield 251, [12, 46, 0, 0, 1382]), (124, .aload_n 0, []), (125, .getfield 251, [12, 46, 0, 0, 1382])],
  [(128, .iconst 1, []), (129, .isub, []), (130, .ireturn, [])]])
def mX12_force : im_M := (yX12_force, cX12_force, 3, (some .int), 12, 1, false, [1644, 270, 1642, 1643], [[(0, .iload_n 1, []), (1, .iconst (-1), []), (2, .aload_n 0, []), (3, .getfield 251, [12, 46, 0, 0, 1382]), (6, .iconst 1, []), (7, .isub, []), (8, .invokestatic 196, [117, 0, 3, 12, 1559]), (11, .ifCond .ne 6, [17]), (14, .bipush (-5), [])],
  [(16, .ireturn, []), (17, .aload_n 0, []), (18, .getfield 123, [12, 47, 0, 0, 1383]), (21, .istore_n 2, []), (22, .aload_n 0, []), (23, .iload_n 1, []), (24, .putfield 123, [12, 47, 0, 0, 1383]), (27, .iload_n 2, []), (28, .ireturn, [])]])
def mX12_fieldOf : im_M := (yX12_fieldOf, cX12_fieldOf, 3, (some .int), 12, 2, false, [1660, 270, 1659, 14], [[(0, .iload_n 1, []), (1, .tableswitch 99 0 6 #[43, 50, 57, 64, 75, 83, 91], [100, 0, 43])],
  [],
  [(44, .aload_n 0, []), (45, .getfield 38, [12, 11, 0, 0, 1347])],
  [(48, .iload_n 2, []), (49, .iaload, []), (50, .ireturn, []), (51, .aload_n 0, []), (52, .getfield 41, [12, 12, 0, 0, 1348]), (55, .iload_n 2, []), (56, .iaload, []), (57, .ireturn, []), (58, .aload_n 0, []), (59, .getfield 44, [12, 13, 0, 0, 1349]), (62, .iload_n 2, []), (63, .iaload, [])],
  [(64, .ireturn, []), (65, .aload_n 0, []), (66, .getfield 7, [12, 0, 0, 0, 1336]), (69, .sipush 164, []), (72, .iload_n 2, []), (73, .iadd, []), (74, .iaload, []), (75, .ireturn, []), (76, .aload_n 0, []), (77, .getfield 7, [12, 0, 0, 0, 1336])],
  [(80, .bipush 106, []), (82, .iaload, []), (83, .ireturn, []), (84, .aload_n 0, []), (85, .getfield 7, [12, 0, 0, 0, 1336]), (88, .bipush 107, []), (90, .iaload, []), (91, .ireturn, []), (92, .aload_n 0, []), (93, .getfield 7, [12, 0, 0, 0, 1336])],
  [(96, .bipush 105, []), (98, .iaload, []), (99, .ireturn, []), (100, .aload_n 0, []), (101, .getfield 7, [12, 0, 0, 0, 1336]), (104, .sipush 188, []), (107, .iload_n 2, []), (108, .iadd, []), (109, .iaload, []), (110, .ireturn, [])]])
def mX12_holds : im_M := (yX12_holds, cX12_holds, 5, (some .boolean), 12, 2, false, [1656, 270, 1655, 13], [[(0, .iconst 3, []), (1, .iload_n 1, []), (2, .imul, []), (3, .istore_n 3, []), (4, .iload_n 3, []), (5, .iconst 3, []), (6, .iload_n 1, []), (7, .imul, []), (8, .aload_n 0, []), (9, .getfield 135, [12, 51, 0, 0, 1387]), (12, .iload_n 1, []), (13, .iaload, []), (14, .iadd, []), (15, .if_icmp .ge 85, [100])],
  [(18, .aload_n 0, []), (19, .aload_n 0, []), (20, .getfield 138, [12, 52, 0, 0, 1388]), (23, .iload_n 3, []), (24, .iaload, []), (25, .iload_n 2, []), (26, .invokevirtual 257, [142, 0, 2, 12, 1657]), (29, .istore 4, []), (31, .aload_n 0, [])],
  [(32, .getfield 141, [12, 53, 0, 0, 1389]), (35, .iload_n 3, []), (36, .iaload, []), (37, .bipush 60, []), (39, .if_icmp .ne 17, [56]), (42, .iload 4, []), (44, .aload_n 0, []), (45, .getfield 144, [12, 54, 0, 0, 1390])],
  [(48, .iload_n 3, []), (49, .iaload, []), (50, .if_icmp .lt 44, [94]), (53, .goto 39, [92]), (56, .aload_n 0, []), (57, .getfield 141, [12, 53, 0, 0, 1389]), (60, .iload_n 3, []), (61, .iaload, []), (62, .bipush 62, [])],
  [(64, .if_icmp .ne 17, [81]), (67, .iload 4, []), (69, .aload_n 0, []), (70, .getfield 144, [12, 54, 0, 0, 1390]), (73, .iload_n 3, []), (74, .iaload, []), (75, .if_icmp .gt 19, [94]), (78, .goto 14, [92])],
  [(81, .iload 4, []), (83, .aload_n 0, []), (84, .getfield 144, [12, 54, 0, 0, 1390]), (87, .iload_n 3, []), (88, .iaload, []), (89, .if_icmp .eq 5, [94]), (92, .iconst 0, []), (93, .ireturn, []), (94, .iinc 3 1, [])],
  [(97, .goto (-93), [4]), (100, .iconst 1, []), (101, .ireturn, [])]])
def mX12_saysOf : im_M := (yX12_saysOf, cX12_saysOf, 4, (some .int), 12, 2, false, [1652, 270, 1651, 12], [[(0, .aload_n 0, []), (1, .getfield 123, [12, 47, 0, 0, 1383]), (4, .iconst (-1), []), (5, .if_icmp .ne 23, [28]), (8, .iload_n 2, []), (9, .ifCond .ne 8, [17]), (12, .bipush 8, []), (14, .goto 13, [27])],
  [(17, .iload_n 2, []), (18, .iconst 1, []), (19, .if_icmp .ne 7, [26]), (22, .iconst 1, []), (23, .goto 4, [27]), (26, .iconst 0, []), (27, .ireturn, []), (28, .bipush 8, []), (30, .aload_n 0, []), (31, .getfield 123, [12, 47, 0, 0, 1383])],
  [(34, .imul, []), (35, .istore_n 3, []), (36, .iload_n 3, []), (37, .bipush 8, []), (39, .aload_n 0, []), (40, .getfield 123, [12, 47, 0, 0, 1383]), (43, .imul, []), (44, .aload_n 0, []), (45, .getfield 126, [12, 48, 0, 0, 1384])],
  [(48, .aload_n 0, []), (49, .getfield 123, [12, 47, 0, 0, 1383]), (52, .iaload, []), (53, .iadd, []), (54, .if_icmp .ge 35, [89]), (57, .aload_n 0, []), (58, .getfield 129, [12, 49, 0, 0, 1385]), (61, .iload_n 3, []), (62, .iaload, []), (63, .iload_n 2, [])],
  [(64, .if_icmp .ne 19, [83]), (67, .aload_n 0, []), (68, .iload_n 3, []), (69, .iload_n 1, []), (70, .invokevirtual 260, [143, 0, 2, 12, 1653]), (73, .ifCond .eq 10, [83]), (76, .aload_n 0, []), (77, .getfield 132, [12, 50, 0, 0, 1386])],
  [(80, .iload_n 3, []), (81, .iaload, []), (82, .ireturn, []), (83, .iinc 3 1, []), (86, .goto (-50), [36]), (89, .iconst 0, []), (90, .ireturn, [])]])
def mX12_says : im_M := (yX12_says, cX12_says, 3, (some .int), 12, 2, false, [1648, 270, 1646, 1647], [[(0, .aload_n 0, []), (1, .iload_n 1, []), (2, .invokevirtual 211, [119, 0, 1, 12, 1570]), (5, .ifCond .ne 7, [12]), (8, .iconst (-1), []), (9, .goto 23, [32]), (12, .iload_n 2, []), (13, .iconst 0, []), (14, .iconst 2, []), (15, .invokestatic 196, [117, 0, 3, 12, 1559])],
  [(18, .ifCond .eq 12, [30]), (21, .aload_n 0, []), (22, .iload_n 1, []), (23, .iload_n 2, []), (24, .invokevirtual 263, [144, 0, 2, 12, 1649]), (27, .goto 5, [32]), (30, .bipush (-2), [])],
  [(32, .ireturn, [])]])
def mX12_worksOf : im_M := (yX12_worksOf, cX12_worksOf, 3, (some .int), 12, 1, false, [1680, 270, 1679, 18], [[(0, .aload_n 0, []), (1, .iload_n 1, []), (2, .iconst 0, []), (3, .invokevirtual 263, [144, 0, 2, 12, 1649]), (6, .istore_n 2, []), (7, .iload_n 2, []), (8, .bipush 14, []), (10, .if_icmp .le 8, [18]), (13, .bipush 14, []), (15, .goto 4, [19])],
  [(18, .iload_n 2, []), (19, .ireturn, [])]])
def mX12_passes : im_M := (yX12_passes, cX12_passes, 3, (some .int), 12, 1, false, [1676, 270, 1675, 17], [[(0, .aload_n 0, []), (1, .getfield 7, [12, 0, 0, 0, 1336]), (4, .sipush 236, []), (7, .iload_n 1, []), (8, .iadd, []), (9, .iaload, []), (10, .iconst 1, []), (11, .if_icmp .eq 12, [23]), (14, .aload_n 0, []), (15, .iload_n 1, [])],
  [(16, .iconst 2, []), (17, .invokevirtual 263, [144, 0, 2, 12, 1649]), (20, .ifCond .eq 5, [25]), (23, .iconst 0, []), (24, .ireturn, []), (25, .aload_n 0, []), (26, .getfield 38, [12, 11, 0, 0, 1347]), (29, .iload_n 1, []), (30, .iaload, []), (31, .aload_n 0, [])],
  [(32, .getfield 7, [12, 0, 0, 0, 1336]), (35, .sipush 164, []), (38, .iload_n 1, []), (39, .iadd, []), (40, .iaload, []), (41, .isub, []), (42, .istore_n 2, []), (43, .aload_n 0, []), (44, .iload_n 1, []), (45, .invokevirtual 266, [146, 0, 1, 12, 1677])],
  [(48, .iload_n 2, []), (49, .ifCond .ge 7, [56]), (52, .iconst 0, []), (53, .goto 4, [57]), (56, .iload_n 2, []), (57, .imul, []), (58, .ireturn, [])]])
def mX12_comes : im_M := (yX12_comes, cX12_comes, 3, none, 12, 2, false, [1684, 270, 1683, 19], [[(0, .iload_n 1, []), (1, .aload_n 0, []), (2, .getfield 34, [12, 9, 0, 0, 1345]), (5, .if_icmp .ne 17, [22]), (8, .aload_n 0, []), (9, .getfield 7, [12, 0, 0, 0, 1336]), (12, .bipush 104, []), (14, .dup2, []), (15, .iaload, [])],
  [(16, .iload_n 2, []), (17, .iadd, []), (18, .iastore, []), (19, .goto 13, [32]), (22, .aload_n 0, []), (23, .getfield 7, [12, 0, 0, 0, 1336]), (26, .iload_n 1, []), (27, .dup2, []), (28, .iaload, []), (29, .iload_n 2, []), (30, .iadd, []), (31, .iastore, [])],
  [(32, .return_, [])]])
def mX12_goesRow : im_M := (yX12_goesRow, cX12_goesRow, 7, none, 12, 1, false, [1672, 270, 1671, 16], [[(0, .aload_n 0, []), (1, .getfield 7, [12, 0, 0, 0, 1336]), (4, .sipush 272, []), (7, .iload_n 1, []), (8, .iadd, []), (9, .iconst 0, []), (10, .iastore, []), (11, .aload_n 0, []), (12, .getfield 7, [12, 0, 0, 0, 1336]), (15, .sipush 276, [])],
  [(18, .iload_n 1, []), (19, .iadd, []), (20, .iconst (-1), []), (21, .iastore, []), (22, .aload_n 0, []), (23, .getfield 50, [12, 15, 0, 0, 1351]), (26, .iload_n 1, []), (27, .iaload, []), (28, .ifCond .ne 4, [32]), (31, .return_, [])],
  [(32, .iconst 0, []), (33, .istore_n 2, []), (34, .iconst 0, []), (35, .istore_n 3, []), (36, .iload_n 3, []), (37, .aload_n 0, []), (38, .getfield 50, [12, 15, 0, 0, 1351]), (41, .iload_n 1, []), (42, .iaload, []), (43, .if_icmp .ge 65, [108]), (46, .aload_n 0, []), (47, .getfield 47, [12, 14, 0, 0, 1350])],
  [(50, .bipush 8, []), (52, .iload_n 1, []), (53, .imul, []), (54, .iload_n 3, []), (55, .iadd, []), (56, .iaload, []), (57, .istore 4, []), (59, .aload_n 0, []), (60, .iload 4, []), (62, .invokevirtual 270, [147, 0, 1, 12, 1673])],
  [(65, .istore 5, []), (67, .aload_n 0, []), (68, .getfield 7, [12, 0, 0, 0, 1336]), (71, .sipush 276, []), (74, .iload_n 1, []), (75, .iadd, []), (76, .iaload, []), (77, .iconst (-1), []), (78, .if_icmp .eq 9, [87])],
  [(81, .iload 5, []), (83, .iload_n 2, []), (84, .if_icmp .ge 18, [102]), (87, .aload_n 0, []), (88, .getfield 7, [12, 0, 0, 0, 1336]), (91, .sipush 276, []), (94, .iload_n 1, []), (95, .iadd, [])],
  [(96, .iload 4, []), (98, .iastore, []), (99, .iload 5, []), (101, .istore_n 2, []), (102, .iinc 3 1, []), (105, .goto (-69), [36]), (108, .aload_n 0, []), (109, .getfield 53, [12, 16, 0, 0, 1352])],
  [(112, .iload_n 1, []), (113, .iaload, []), (114, .istore_n 3, []), (115, .iload_n 2, []), (116, .aload_n 0, []), (117, .getfield 7, [12, 0, 0, 0, 1336]), (120, .iload_n 3, []), (121, .iaload, []), (122, .if_icmp .ge 7, [129]), (125, .iload_n 2, []), (126, .goto 9, [135])],
  [(129, .aload_n 0, []), (130, .getfield 7, [12, 0, 0, 0, 1336]), (133, .iload_n 3, []), (134, .iaload, []), (135, .istore 4, []), (137, .aload_n 0, []), (138, .getfield 7, [12, 0, 0, 0, 1336]), (141, .sipush 272, [])],
  [(144, .iload_n 1, []), (145, .iadd, []), (146, .iload 4, []), (148, .iastore, []), (149, .aload_n 0, []), (150, .getfield 7, [12, 0, 0, 0, 1336]), (153, .iload_n 3, []), (154, .dup2, []), (155, .iaload, []), (156, .iload 4, []), (158, .isub, []), (159, .iastore, [])],
  [(160, .iload 4, []), (162, .bipush 10, []), (164, .idiv, []), (165, .istore 5, []), (167, .aload_n 0, []), (168, .getfield 19, [12, 4, 0, 0, 1340]), (171, .iload_n 3, []), (172, .iaload, []), (173, .iconst (-1), []), (174, .if_icmp .eq 75, [249])],
  [(177, .aload_n 0, []), (178, .getfield 7, [12, 0, 0, 0, 1336]), (181, .bipush 100, []), (183, .dup2, []), (184, .iaload, []), (185, .iload 5, []), (187, .aload_n 0, []), (188, .getfield 22, [12, 5, 0, 0, 1341]), (191, .aload_n 0, [])],
  [(192, .getfield 19, [12, 4, 0, 0, 1340]), (195, .iload_n 3, []), (196, .iaload, []), (197, .iaload, []), (198, .imul, []), (199, .iadd, []), (200, .iastore, []), (201, .aload_n 0, []), (202, .getfield 7, [12, 0, 0, 0, 1336]), (205, .bipush 101, []), (207, .dup2, [])],
  [(208, .iaload, []), (209, .iload 5, []), (211, .aload_n 0, []), (212, .getfield 25, [12, 6, 0, 0, 1342]), (215, .aload_n 0, []), (216, .getfield 19, [12, 4, 0, 0, 1340]), (219, .iload_n 3, []), (220, .iaload, []), (221, .iaload, []), (222, .imul, []), (223, .iadd, [])],
  [(224, .iastore, []), (225, .aload_n 0, []), (226, .getfield 7, [12, 0, 0, 0, 1336]), (229, .bipush 102, []), (231, .dup2, []), (232, .iaload, []), (233, .iload 5, []), (235, .aload_n 0, []), (236, .getfield 28, [12, 7, 0, 0, 1343]), (239, .aload_n 0, [])],
  [(240, .getfield 19, [12, 4, 0, 0, 1340]), (243, .iload_n 3, []), (244, .iaload, []), (245, .iaload, []), (246, .imul, []), (247, .iadd, []), (248, .iastore, []), (249, .aload_n 0, []), (250, .getfield 7, [12, 0, 0, 0, 1336]), (253, .bipush 103, []), (255, .dup2, [])],
  [(256, .iaload, []), (257, .iconst 4, []), (258, .iload 5, []), (260, .imul, []), (261, .iadd, []), (262, .iastore, []), (263, .aload_n 0, []), (264, .aload_n 0, []), (265, .getfield 56, [12, 17, 0, 0, 1353]), (268, .iload_n 1, []), (269, .iaload, []), (270, .iload 4, [])],
  [(272, .iconst 4, []), (273, .iload 5, []), (275, .imul, []), (276, .isub, []), (277, .invokevirtual 273, [148, 0, 2, 12, 1681]), (280, .iconst 0, []), (281, .istore 6, []), (283, .iload 6, []), (285, .aload_n 0, []), (286, .getfield 50, [12, 15, 0, 0, 1351])],
  [(289, .iload_n 1, []), (290, .iaload, []), (291, .if_icmp .ge 54, [345]), (294, .iload 4, []), (296, .ifCond .le 49, [345]), (299, .aload_n 0, []), (300, .getfield 7, [12, 0, 0, 0, 1336]), (303, .sipush 188, [])],
  [(306, .aload_n 0, []), (307, .getfield 47, [12, 14, 0, 0, 1350]), (310, .bipush 8, []), (312, .iload_n 1, []), (313, .imul, []), (314, .iload 6, []), (316, .iadd, []), (317, .iaload, []), (318, .iadd, []), (319, .dup2, [])],
  [(320, .iaload, []), (321, .aload_n 0, []), (322, .aload_n 0, []), (323, .getfield 47, [12, 14, 0, 0, 1350]), (326, .bipush 8, []), (328, .iload_n 1, []), (329, .imul, []), (330, .iload 6, []), (332, .iadd, []), (333, .iaload, []), (334, .invokevirtual 266, [146, 0, 1, 12, 1677])],
  [(337, .iadd, []), (338, .iastore, []), (339, .iinc 6 1, []), (342, .goto (-59), [283]), (345, .return_, [])]])
def mX12_goesRail : im_M := (yX12_goesRail, cX12_goesRail, 5, none, 12, 1, false, [1688, 270, 1687, 20], [[(0, .aload_n 0, []), (1, .getfield 7, [12, 0, 0, 0, 1336]), (4, .sipush 280, []), (7, .iload_n 1, []), (8, .iadd, []), (9, .iconst 0, []), (10, .iastore, []), (11, .aload_n 0, []), (12, .getfield 62, [12, 19, 0, 0, 1355]), (15, .iload_n 1, [])],
  [(16, .iaload, []), (17, .ifCond .ne 4, [21]), (20, .return_, []), (21, .aload_n 0, []), (22, .getfield 59, [12, 18, 0, 0, 1354]), (25, .bipush 12, []), (27, .iload_n 1, []), (28, .imul, []), (29, .iaload, []), (30, .istore_n 2, []), (31, .bipush 60, [])],
  [(33, .aload_n 0, []), (34, .getfield 65, [12, 20, 0, 0, 1356]), (37, .iload_n 1, []), (38, .iaload, []), (39, .imul, []), (40, .aload_n 0, []), (41, .getfield 62, [12, 19, 0, 0, 1355]), (44, .iload_n 1, []), (45, .iaload, []), (46, .iconst 1, []), (47, .isub, [])],
  [(48, .idiv, []), (49, .istore_n 3, []), (50, .iload_n 3, []), (51, .aload_n 0, []), (52, .getfield 7, [12, 0, 0, 0, 1336]), (55, .iload_n 2, []), (56, .iaload, []), (57, .if_icmp .ge 7, [64]), (60, .iload_n 3, []), (61, .goto 9, [70])],
  [(64, .aload_n 0, []), (65, .getfield 7, [12, 0, 0, 0, 1336]), (68, .iload_n 2, []), (69, .iaload, []), (70, .istore 4, []), (72, .aload_n 0, []), (73, .getfield 7, [12, 0, 0, 0, 1336]), (76, .sipush 280, []), (79, .iload_n 1, [])],
  [(80, .iadd, []), (81, .iload 4, []), (83, .iastore, []), (84, .aload_n 0, []), (85, .getfield 7, [12, 0, 0, 0, 1336]), (88, .iload_n 2, []), (89, .dup2, []), (90, .iaload, []), (91, .iload 4, []), (93, .isub, []), (94, .iastore, []), (95, .aload_n 0, [])],
  [(96, .aload_n 0, []), (97, .getfield 59, [12, 18, 0, 0, 1354]), (100, .bipush 12, []), (102, .iload_n 1, []), (103, .imul, []), (104, .aload_n 0, []), (105, .getfield 62, [12, 19, 0, 0, 1355]), (108, .iload_n 1, []), (109, .iaload, []), (110, .iadd, []), (111, .iconst 1, [])],
  [(112, .isub, []), (113, .iaload, []), (114, .iload 4, []), (116, .invokevirtual 273, [148, 0, 2, 12, 1681]), (119, .return_, [])]])
def mX12_isAt : im_M := (yX12_isAt, cX12_isAt, 4, (some .int), 12, 1, false, [1704, 270, 1703, 24], [[(0, .iconst 0, []), (1, .istore_n 2, []), (2, .iload_n 2, []), (3, .iconst 4, []), (4, .if_icmp .ge 57, [61]), (7, .iconst 0, []), (8, .istore_n 3, []), (9, .iload_n 3, []), (10, .aload_n 0, []), (11, .getfield 50, [12, 15, 0, 0, 1351]), (14, .iload_n 2, []), (15, .iaload, [])],
  [(16, .if_icmp .ge 39, [55]), (19, .aload_n 0, []), (20, .getfield 47, [12, 14, 0, 0, 1350]), (23, .bipush 8, []), (25, .iload_n 2, []), (26, .imul, []), (27, .iload_n 3, []), (28, .iadd, []), (29, .iaload, []), (30, .iload_n 1, []), (31, .if_icmp .ne 18, [49])],
  [(34, .aload_n 0, []), (35, .iload_n 1, []), (36, .invokevirtual 270, [147, 0, 1, 12, 1673]), (39, .ifCond .le 10, [49]), (42, .aload_n 0, []), (43, .getfield 53, [12, 16, 0, 0, 1352]), (46, .iload_n 2, []), (47, .iaload, [])],
  [(48, .ireturn, []), (49, .iinc 3 1, []), (52, .goto (-43), [9]), (55, .iinc 2 1, []), (58, .goto (-56), [2]), (61, .aload_n 0, []), (62, .getfield 7, [12, 0, 0, 0, 1336])],
  [(65, .sipush 140, []), (68, .iload_n 1, []), (69, .iadd, []), (70, .iaload, []), (71, .ireturn, [])]])
def mX12_falls : im_M := (yX12_falls, cX12_falls, 4, none, 12, 1, false, [1700, 270, 1699, 23], [[(0, .aload_n 0, []), (1, .getfield 71, [12, 23, 0, 0, 1359]), (4, .iload_n 1, []), (5, .iaload, []), (6, .istore_n 2, []), (7, .aload_n 0, []), (8, .getfield 7, [12, 0, 0, 0, 1336]), (11, .bipush 108, []), (13, .iload_n 1, []), (14, .iadd, []), (15, .iconst 0, [])],
  [(16, .iastore, []), (17, .aload_n 0, []), (18, .getfield 7, [12, 0, 0, 0, 1336]), (21, .iload_n 2, []), (22, .dup2, []), (23, .iaload, []), (24, .bipush 20, []), (26, .iadd, []), (27, .iastore, []), (28, .aload_n 0, []), (29, .iconst 0, []), (30, .putfield 277, [12, 61, 0, 0, 1397])],
  [(33, .aload_n 0, []), (34, .iconst 0, []), (35, .putfield 280, [12, 62, 0, 0, 1398]), (38, .iconst 0, []), (39, .istore_n 3, []), (40, .iload_n 3, []), (41, .aload_n 0, []), (42, .getfield 200, [12, 10, 0, 0, 1346]), (45, .if_icmp .ge 91, [136])],
  [(48, .aload_n 0, []), (49, .getfield 7, [12, 0, 0, 0, 1336]), (52, .sipush 236, []), (55, .iload_n 3, []), (56, .iadd, []), (57, .iaload, []), (58, .ifCond .ne 72, [130]), (61, .aload_n 0, []), (62, .iload_n 3, []), (63, .invokevirtual 283, [151, 0, 1, 12, 1701])],
  [(66, .iload_n 2, []), (67, .if_icmp .ne 63, [130]), (70, .aload_n 0, []), (71, .getfield 7, [12, 0, 0, 0, 1336]), (74, .sipush 164, []), (77, .iload_n 3, []), (78, .iadd, []), (79, .dup2, [])],
  [(80, .iaload, []), (81, .iconst 3, []), (82, .iadd, []), (83, .iastore, []), (84, .aload_n 0, []), (85, .dup, []), (86, .getfield 280, [12, 62, 0, 0, 1398]), (89, .iconst 3, []), (90, .iadd, []), (91, .putfield 280, [12, 62, 0, 0, 1398]), (94, .aload_n 0, []), (95, .getfield 7, [12, 0, 0, 0, 1336])],
  [(98, .sipush 164, []), (101, .iload_n 3, []), (102, .iadd, []), (103, .iaload, []), (104, .bipush 9, []), (106, .if_icmp .lt 24, [130]), (109, .aload_n 0, []), (110, .getfield 7, [12, 0, 0, 0, 1336])],
  [(113, .sipush 236, []), (116, .iload_n 3, []), (117, .iadd, []), (118, .iconst 1, []), (119, .iastore, []), (120, .aload_n 0, []), (121, .dup, []), (122, .getfield 277, [12, 61, 0, 0, 1397]), (125, .iconst 1, []), (126, .iadd, []), (127, .putfield 277, [12, 61, 0, 0, 1397])],
  [(130, .iinc 3 1, []), (133, .goto (-93), [40]), (136, .return_, [])]])
def mX12_wears : im_M := (yX12_wears, cX12_wears, 2, (some .boolean), 12, 1, false, [1692, 270, 1691, 21], [[(0, .aload_n 0, []), (1, .getfield 7, [12, 0, 0, 0, 1336]), (4, .bipush 124, []), (6, .iload_n 1, []), (7, .iadd, []), (8, .dup2, []), (9, .iaload, []), (10, .aload_n 0, []), (11, .getfield 7, [12, 0, 0, 0, 1336]), (14, .bipush 106, [])],
  [(16, .iaload, []), (17, .aload_n 0, []), (18, .aload_n 0, []), (19, .getfield 68, [12, 22, 0, 0, 1358]), (22, .iload_n 1, []), (23, .iaload, []), (24, .invokevirtual 286, [122, 0, 1, 12, 1693]), (27, .imul, []), (28, .bipush 10, []), (30, .idiv, []), (31, .isub, [])],
  [(32, .iastore, []), (33, .aload_n 0, []), (34, .getfield 7, [12, 0, 0, 0, 1336]), (37, .bipush 124, []), (39, .iload_n 1, []), (40, .iadd, []), (41, .iaload, []), (42, .iconst 3, []), (43, .aload_n 0, []), (44, .getfield 7, [12, 0, 0, 0, 1336]), (47, .bipush 107, [])],
  [(49, .iaload, []), (50, .imul, []), (51, .if_icmp .gt 7, [58]), (54, .iconst 1, []), (55, .goto 4, [59]), (58, .iconst 0, []), (59, .ireturn, [])]])
def mX12_goes : im_M := (yX12_goes, cX12_goes, 3, none, 12, 0, false, [1668, 270, 1667, 15], [[(0, .iconst 0, []), (1, .istore_n 1, []), (2, .iload_n 1, []), (3, .iconst 4, []), (4, .if_icmp .ge 14, [18]), (7, .aload_n 0, []), (8, .iload_n 1, []), (9, .invokevirtual 289, [149, 0, 1, 12, 1669]), (12, .iinc 1 1, []), (15, .goto (-13), [2])],
  [(18, .iconst 0, []), (19, .istore_n 1, []), (20, .iload_n 1, []), (21, .iconst 3, []), (22, .if_icmp .ge 14, [36]), (25, .aload_n 0, []), (26, .iload_n 1, []), (27, .invokevirtual 293, [150, 0, 1, 12, 1685]), (30, .iinc 1 1, [])],
  [(33, .goto (-13), [20]), (36, .iconst 0, []), (37, .istore_n 1, []), (38, .iload_n 1, []), (39, .aload_n 0, []), (40, .getfield 214, [12, 21, 0, 0, 1357]), (43, .if_icmp .ge 35, [78]), (46, .aload_n 0, []), (47, .getfield 7, [12, 0, 0, 0, 1336])],
  [(50, .bipush 108, []), (52, .iload_n 1, []), (53, .iadd, []), (54, .iaload, []), (55, .iconst 1, []), (56, .if_icmp .ne 16, [72]), (59, .aload_n 0, []), (60, .iload_n 1, []), (61, .invokevirtual 296, [153, 0, 1, 12, 1689])],
  [(64, .ifCond .eq 8, [72]), (67, .aload_n 0, []), (68, .iload_n 1, []), (69, .invokevirtual 299, [152, 0, 1, 12, 1697]), (72, .iinc 1 1, []), (75, .goto (-37), [38]), (78, .iconst 0, []), (79, .istore_n 1, [])],
  [(80, .iload_n 1, []), (81, .aload_n 0, []), (82, .getfield 200, [12, 10, 0, 0, 1346]), (85, .if_icmp .ge 54, [139]), (88, .aload_n 0, []), (89, .getfield 7, [12, 0, 0, 0, 1336]), (92, .sipush 236, []), (95, .iload_n 1, [])],
  [(96, .iadd, []), (97, .iaload, []), (98, .ifCond .ne 35, [133]), (101, .aload_n 0, []), (102, .iload_n 1, []), (103, .iconst 1, []), (104, .invokevirtual 263, [144, 0, 2, 12, 1649]), (107, .istore_n 2, []), (108, .aload_n 0, []), (109, .getfield 7, [12, 0, 0, 0, 1336])],
  [(112, .sipush 212, []), (115, .iload_n 1, []), (116, .iadd, []), (117, .dup2, []), (118, .iaload, []), (119, .iload_n 2, []), (120, .bipush 9, []), (122, .if_icmp .le 8, [130]), (125, .bipush 9, []), (127, .goto 4, [131])],
  [(130, .iload_n 2, []), (131, .iadd, []), (132, .iastore, []), (133, .iinc 1 1, []), (136, .goto (-56), [80]), (139, .iconst 0, []), (140, .istore_n 1, []), (141, .iload_n 1, []), (142, .aload_n 0, []), (143, .getfield 200, [12, 10, 0, 0, 1346])],
  [(146, .if_icmp .ge 68, [214]), (149, .aload_n 0, []), (150, .getfield 7, [12, 0, 0, 0, 1336]), (153, .bipush 105, []), (155, .iaload, []), (156, .bipush 7, []), (158, .irem, []), (159, .bipush 6, [])],
  [(161, .if_icmp .ne 53, [214]), (164, .aload_n 0, []), (165, .getfield 7, [12, 0, 0, 0, 1336]), (168, .sipush 164, []), (171, .iload_n 1, []), (172, .iadd, []), (173, .dup2, []), (174, .iaload, []), (175, .aload_n 0, [])],
  [(176, .getfield 7, [12, 0, 0, 0, 1336]), (179, .sipush 236, []), (182, .iload_n 1, []), (183, .iadd, []), (184, .iaload, []), (185, .ifCond .ne 20, [205]), (188, .aload_n 0, []), (189, .getfield 7, [12, 0, 0, 0, 1336])],
  [(192, .sipush 164, []), (195, .iload_n 1, []), (196, .iadd, []), (197, .iaload, []), (198, .ifCond .le 7, [205]), (201, .iconst 1, []), (202, .goto 4, [206]), (205, .iconst 0, []), (206, .isub, []), (207, .iastore, [])],
  [(208, .iinc 1 1, []), (211, .goto (-70), [141]), (214, .aload_n 0, []), (215, .getfield 7, [12, 0, 0, 0, 1336]), (218, .bipush 105, []), (220, .dup2, []), (221, .iaload, []), (222, .iconst 1, []), (223, .iadd, [])],
  [(224, .iastore, []), (225, .return_, [])]])
def mX12_run : im_M := (yX12_run, cX12_run, 3, (some .int), 12, 1, false, [1664, 270, 1662, 1663], [[(0, .iload_n 1, []), (1, .iconst 1, []), (2, .bipush 60, []), (4, .invokestatic 196, [117, 0, 3, 12, 1559]), (7, .ifCond .ne 6, [13]), (10, .bipush (-2), []), (12, .ireturn, []), (13, .aload_n 0, []), (14, .getfield 7, [12, 0, 0, 0, 1336])],
  [(17, .bipush 105, []), (19, .iaload, []), (20, .iload_n 1, []), (21, .iadd, []), (22, .sipush 2000, []), (25, .if_icmp .le 6, [31]), (28, .bipush (-4), []), (30, .ireturn, []), (31, .iconst 0, [])],
  [(32, .istore_n 2, []), (33, .iload_n 2, []), (34, .iload_n 1, []), (35, .if_icmp .ge 13, [48]), (38, .aload_n 0, []), (39, .invokevirtual 302, [154, 0, 0, 12, 1665]), (42, .iinc 2 1, []), (45, .goto (-12), [33])],
  [(48, .aload_n 0, []), (49, .getfield 7, [12, 0, 0, 0, 1336]), (52, .bipush 105, []), (54, .iaload, []), (55, .ireturn, [])]])
def mX12_cellTold : im_M := (yX12_cellTold, cX12_cellTold, 3, (some .int), 12, 2, false, [1708, 270, 1706, 1707], [[(0, .iload_n 1, []), (1, .invokestatic 207, [118, 0, 1, 12, 1556]), (4, .ifCond .ne 5, [9]), (7, .iconst (-1), []), (8, .ireturn, []), (9, .iload_n 2, []), (10, .ifCond .ne 12, [22]), (13, .aload_n 0, []), (14, .getfield 7, [12, 0, 0, 0, 1336])],
  [(17, .iload_n 1, []), (18, .iaload, []), (19, .goto 47, [66]), (22, .iload_n 2, []), (23, .iconst 1, []), (24, .if_icmp .ne 27, [51]), (27, .aload_n 0, []), (28, .getfield 19, [12, 4, 0, 0, 1340]), (31, .iload_n 1, [])],
  [(32, .iaload, []), (33, .iconst (-1), []), (34, .if_icmp .ne 8, [42]), (37, .bipush (-5), []), (39, .goto 27, [66]), (42, .aload_n 0, []), (43, .getfield 19, [12, 4, 0, 0, 1340]), (46, .iload_n 1, []), (47, .iaload, [])],
  [(48, .goto 18, [66]), (51, .iload_n 2, []), (52, .iconst 2, []), (53, .if_icmp .ne 11, [64]), (56, .aload_n 0, []), (57, .iload_n 1, []), (58, .invokevirtual 286, [122, 0, 1, 12, 1693]), (61, .goto 5, [66])],
  [(64, .bipush (-2), []), (66, .ireturn, [])]])
def mX12_kindTold : im_M := (yX12_kindTold, cX12_kindTold, 3, (some .int), 12, 2, false, [1712, 270, 1710, 1711], [[(0, .iload_n 1, []), (1, .iconst 0, []), (2, .iconst 5, []), (3, .invokestatic 196, [117, 0, 3, 12, 1559]), (6, .ifCond .eq 12, [18]), (9, .iload_n 2, []), (10, .iconst 0, []), (11, .iconst 3, []), (12, .invokestatic 196, [117, 0, 3, 12, 1559]), (15, .ifCond .ne 6, [21])],
  [(18, .bipush (-2), []), (20, .ireturn, []), (21, .iload_n 2, []), (22, .ifCond .ne 12, [34]), (25, .aload_n 0, []), (26, .getfield 22, [12, 5, 0, 0, 1341]), (29, .iload_n 1, []), (30, .iaload, []), (31, .goto 37, [68])],
  [(34, .iload_n 2, []), (35, .iconst 1, []), (36, .if_icmp .ne 12, [48]), (39, .aload_n 0, []), (40, .getfield 25, [12, 6, 0, 0, 1342]), (43, .iload_n 1, []), (44, .iaload, []), (45, .goto 23, [68])],
  [(48, .iload_n 2, []), (49, .iconst 2, []), (50, .if_icmp .ne 12, [62]), (53, .aload_n 0, []), (54, .getfield 28, [12, 7, 0, 0, 1343]), (57, .iload_n 1, []), (58, .iaload, []), (59, .goto 9, [68]), (62, .aload_n 0, []), (63, .getfield 31, [12, 8, 0, 0, 1344])],
  [(66, .iload_n 1, []), (67, .iaload, []), (68, .ireturn, [])]])
def mX12_personTold : im_M := (yX12_personTold, cX12_personTold, 3, (some .int), 12, 2, false, [1716, 270, 1714, 1715], [[(0, .aload_n 0, []), (1, .iload_n 1, []), (2, .invokevirtual 211, [119, 0, 1, 12, 1570]), (5, .ifCond .ne 5, [10]), (8, .iconst (-1), []), (9, .ireturn, []), (10, .iload_n 2, []), (11, .tableswitch 108 0 6 #[41, 52, 63, 74, 85, 96, 102], [119, 0, 41])],
  [],
  [],
  [(52, .aload_n 0, []), (53, .getfield 7, [12, 0, 0, 0, 1336]), (56, .sipush 140, []), (59, .iload_n 1, []), (60, .iadd, []), (61, .iaload, []), (62, .ireturn, []), (63, .aload_n 0, [])],
  [(64, .getfield 7, [12, 0, 0, 0, 1336]), (67, .sipush 164, []), (70, .iload_n 1, []), (71, .iadd, []), (72, .iaload, []), (73, .ireturn, []), (74, .aload_n 0, []), (75, .getfield 7, [12, 0, 0, 0, 1336]), (78, .sipush 188, [])],
  [(81, .iload_n 1, []), (82, .iadd, []), (83, .iaload, []), (84, .ireturn, []), (85, .aload_n 0, []), (86, .getfield 7, [12, 0, 0, 0, 1336]), (89, .sipush 212, []), (92, .iload_n 1, []), (93, .iadd, []), (94, .iaload, []), (95, .ireturn, [])],
  [(96, .aload_n 0, []), (97, .getfield 7, [12, 0, 0, 0, 1336]), (100, .sipush 236, []), (103, .iload_n 1, []), (104, .iadd, []), (105, .iaload, []), (106, .ireturn, []), (107, .aload_n 0, []), (108, .iload_n 1, []), (109, .invokevirtual 270, [147, 0, 1, 12, 1673])],
  [(112, .ireturn, []), (113, .aload_n 0, []), (114, .iload_n 1, []), (115, .invokevirtual 283, [151, 0, 1, 12, 1701]), (118, .ireturn, []), (119, .bipush (-2), []), (121, .ireturn, [])]])
def mX12_rowTold : im_M := (yX12_rowTold, cX12_rowTold, 3, (some .int), 12, 2, false, [1720, 270, 1718, 1719], [[(0, .iload_n 1, []), (1, .iconst 0, []), (2, .iconst 3, []), (3, .invokestatic 196, [117, 0, 3, 12, 1559]), (6, .ifCond .ne 6, [12]), (9, .bipush (-5), []), (11, .ireturn, []), (12, .iload_n 2, []), (13, .ifCond .ne 12, [25])],
  [(16, .aload_n 0, []), (17, .getfield 50, [12, 15, 0, 0, 1351]), (20, .iload_n 1, []), (21, .iaload, []), (22, .goto 54, [76]), (25, .iload_n 2, []), (26, .iconst 1, []), (27, .if_icmp .ne 16, [43]), (30, .aload_n 0, []), (31, .getfield 7, [12, 0, 0, 0, 1336])],
  [(34, .sipush 272, []), (37, .iload_n 1, []), (38, .iadd, []), (39, .iaload, []), (40, .goto 36, [76]), (43, .iload_n 2, []), (44, .iconst 2, []), (45, .if_icmp .ne 29, [74])],
  [(48, .aload_n 0, []), (49, .getfield 50, [12, 15, 0, 0, 1351]), (52, .iload_n 1, []), (53, .iaload, []), (54, .ifCond .ne 7, [61]), (57, .iconst (-1), []), (58, .goto 18, [76]), (61, .aload_n 0, []), (62, .getfield 7, [12, 0, 0, 0, 1336])],
  [(65, .sipush 276, []), (68, .iload_n 1, []), (69, .iadd, []), (70, .iaload, []), (71, .goto 5, [76]), (74, .bipush (-2), []), (76, .ireturn, [])]])
def mX12_railTold : im_M := (yX12_railTold, cX12_railTold, 3, (some .int), 12, 2, false, [1724, 270, 1722, 1723], [[(0, .iload_n 1, []), (1, .iconst 0, []), (2, .iconst 2, []), (3, .invokestatic 196, [117, 0, 3, 12, 1559]), (6, .ifCond .ne 5, [11]), (9, .iconst (-1), []), (10, .ireturn, []), (11, .iload_n 2, []), (12, .ifCond .ne 12, [24]), (15, .aload_n 0, [])],
  [(16, .getfield 62, [12, 19, 0, 0, 1355]), (19, .iload_n 1, []), (20, .iaload, []), (21, .goto 23, [44]), (24, .iload_n 2, []), (25, .iconst 1, []), (26, .if_icmp .ne 16, [42]), (29, .aload_n 0, []), (30, .getfield 7, [12, 0, 0, 0, 1336])],
  [(33, .sipush 280, []), (36, .iload_n 1, []), (37, .iadd, []), (38, .iaload, []), (39, .goto 5, [44]), (42, .bipush (-2), []), (44, .ireturn, [])]])
def mX12_isWall : im_M := (yX12_isWall, cX12_isWall, 2, (some .boolean), 12, 1, false, [1732, 270, 1731, 25], [[(0, .iload_n 1, []), (1, .iconst 0, []), (2, .aload_n 0, []), (3, .getfield 214, [12, 21, 0, 0, 1357]), (6, .iconst 1, []), (7, .isub, []), (8, .invokestatic 196, [117, 0, 3, 12, 1559]), (11, .ireturn, [])]])
def mX12_wallTold : im_M := (yX12_wallTold, cX12_wallTold, 3, (some .int), 12, 2, false, [1728, 270, 1726, 1727], [[(0, .aload_n 0, []), (1, .iload_n 1, []), (2, .invokevirtual 305, [161, 0, 1, 12, 1729]), (5, .ifCond .ne 5, [10]), (8, .iconst (-1), []), (9, .ireturn, []), (10, .iload_n 2, []), (11, .ifCond .ne 15, [26]), (14, .aload_n 0, []), (15, .getfield 7, [12, 0, 0, 0, 1336])],
  [(18, .bipush 108, []), (20, .iload_n 1, []), (21, .iadd, []), (22, .iaload, []), (23, .goto 36, [59]), (26, .iload_n 2, []), (27, .iconst 1, []), (28, .if_icmp .ne 15, [43]), (31, .aload_n 0, [])],
  [(32, .getfield 7, [12, 0, 0, 0, 1336]), (35, .bipush 124, []), (37, .iload_n 1, []), (38, .iadd, []), (39, .iaload, []), (40, .goto 19, [59]), (43, .iload_n 2, []), (44, .iconst 2, []), (45, .if_icmp .ne 12, [57])],
  [(48, .aload_n 0, []), (49, .getfield 71, [12, 23, 0, 0, 1359]), (52, .iload_n 1, []), (53, .iaload, []), (54, .goto 5, [59]), (57, .bipush (-2), []), (59, .ireturn, [])]])
def mX12_sum : im_M := (yX12_sum, cX12_sum, 5, (some .int), 12, 2, false, [1740, 270, 1739, 26], [[(0, .iconst 0, []), (1, .istore_n 3, []), (2, .iconst 0, []), (3, .istore 4, []), (5, .iload 4, []), (7, .iload_n 2, []), (8, .if_icmp .ge 21, [29]), (11, .iload_n 3, []), (12, .aload_n 0, []), (13, .getfield 7, [12, 0, 0, 0, 1336])],
  [(16, .iload_n 1, []), (17, .iload 4, []), (19, .iadd, []), (20, .iaload, []), (21, .iadd, []), (22, .istore_n 3, []), (23, .iinc 4 1, []), (26, .goto (-21), [5]), (29, .iload_n 3, []), (30, .ireturn, [])]])
def mX12_count : im_M := (yX12_count, cX12_count, 2, (some .int), 12, 1, false, [1736, 270, 1734, 1735], [[(0, .iload_n 1, []), (1, .tableswitch 157 0 13 #[71, 79, 87, 95, 103, 103, 103, 115, 120, 132, 137, 142, 147, 152], [158, 0, 71])],
  [],
  [],
  [],
  [(72, .aload_n 0, []), (73, .getfield 7, [12, 0, 0, 0, 1336]), (76, .bipush 105, []), (78, .iaload, []), (79, .ireturn, [])],
  [(80, .aload_n 0, []), (81, .iconst 0, []), (82, .bipush 100, []), (84, .invokevirtual 308, [163, 0, 2, 12, 1737]), (87, .ireturn, []), (88, .aload_n 0, []), (89, .getfield 7, [12, 0, 0, 0, 1336]), (92, .bipush 104, []), (94, .iaload, []), (95, .ireturn, [])],
  [(96, .aload_n 0, []), (97, .getfield 7, [12, 0, 0, 0, 1336]), (100, .bipush 103, []), (102, .iaload, []), (103, .ireturn, []), (104, .aload_n 0, []), (105, .getfield 7, [12, 0, 0, 0, 1336]), (108, .bipush 100, []), (110, .iload_n 1, []), (111, .iadd, [])],
  [(112, .iconst 4, []), (113, .isub, []), (114, .iaload, []), (115, .ireturn, []), (116, .aload_n 0, []), (117, .getfield 200, [12, 10, 0, 0, 1346]), (120, .ireturn, []), (121, .aload_n 0, []), (122, .sipush 236, []), (125, .aload_n 0, []), (126, .getfield 200, [12, 10, 0, 0, 1346])],
  [(129, .invokevirtual 308, [163, 0, 2, 12, 1737]), (132, .ireturn, []), (133, .aload_n 0, []), (134, .getfield 251, [12, 46, 0, 0, 1382]), (137, .ireturn, []), (138, .aload_n 0, []), (139, .getfield 123, [12, 47, 0, 0, 1383]), (142, .ireturn, []), (143, .aload_n 0, [])],
  [(144, .getfield 230, [12, 45, 0, 0, 1381]), (147, .ireturn, []), (148, .aload_n 0, []), (149, .getfield 227, [12, 24, 0, 0, 1360]), (152, .ireturn, []), (153, .aload_n 0, []), (154, .getfield 214, [12, 21, 0, 0, 1357]), (157, .ireturn, []), (158, .bipush (-2), [])],
  [(160, .ireturn, [])]])
def mX12_pull : im_M := (yX12_pull, cX12_pull, 2, (some .int), 12, 1, false, [1744, 270, 1742, 1743], [[(0, .aload_n 0, []), (1, .iload_n 1, []), (2, .invokevirtual 305, [161, 0, 1, 12, 1729]), (5, .ifCond .ne 5, [10]), (8, .iconst (-1), []), (9, .ireturn, []), (10, .aload_n 0, []), (11, .getfield 7, [12, 0, 0, 0, 1336]), (14, .bipush 108, [])],
  [(16, .iload_n 1, []), (17, .iadd, []), (18, .iaload, []), (19, .ifCond .ne 6, [25]), (22, .bipush (-3), []), (24, .ireturn, []), (25, .aload_n 0, []), (26, .iload_n 1, []), (27, .invokevirtual 299, [152, 0, 1, 12, 1697]), (30, .bipush 100, [])],
  [(32, .aload_n 0, []), (33, .getfield 277, [12, 61, 0, 0, 1397]), (36, .imul, []), (37, .aload_n 0, []), (38, .getfield 280, [12, 62, 0, 0, 1398]), (41, .iadd, []), (42, .ireturn, [])]])
def mX12_late : im_M := (yX12_late, cX12_late, 7, (some .int), 12, 2, false, [1752, 270, 1751, 27], [[(0, .iconst 0, []), (1, .istore_n 3, []), (2, .iconst 0, []), (3, .istore 4, []), (5, .iload 4, []), (7, .aload_n 0, []), (8, .getfield 214, [12, 21, 0, 0, 1357]), (11, .if_icmp .ge 43, [54]), (14, .aload_n 0, []), (15, .getfield 187, [12, 63, 0, 0, 1399])],
  [(18, .iload 4, []), (20, .aload_n 0, []), (21, .getfield 7, [12, 0, 0, 0, 1336]), (24, .bipush 108, []), (26, .iload 4, []), (28, .iadd, []), (29, .iaload, []), (30, .iastore, []), (31, .aload_n 0, [])],
  [(32, .getfield 190, [12, 64, 0, 0, 1400]), (35, .iload 4, []), (37, .aload_n 0, []), (38, .getfield 7, [12, 0, 0, 0, 1336]), (41, .bipush 124, []), (43, .iload 4, []), (45, .iadd, []), (46, .iaload, []), (47, .iastore, [])],
  [(48, .iinc 4 1, []), (51, .goto (-46), [5]), (54, .iconst 0, []), (55, .istore 4, []), (57, .iload 4, []), (59, .iload_n 2, []), (60, .if_icmp .ge 116, [176]), (63, .aload_n 0, [])],
  [(64, .getfield 153, [12, 57, 0, 0, 1393]), (67, .bipush 40, []), (69, .iload_n 1, []), (70, .imul, []), (71, .aload_n 0, []), (72, .getfield 193, [12, 65, 0, 0, 1401]), (75, .iload 4, []), (77, .iaload, []), (78, .iadd, []), (79, .iaload, [])],
  [(80, .istore 5, []), (82, .iload_n 3, []), (83, .aload_n 0, []), (84, .getfield 7, [12, 0, 0, 0, 1336]), (87, .bipush 108, []), (89, .iload 5, []), (91, .iadd, []), (92, .iaload, []), (93, .ifCond .ne 7, [100])],
  [(96, .iconst 1, []), (97, .goto 4, [101]), (100, .iconst 0, []), (101, .iadd, []), (102, .istore_n 3, []), (103, .aload_n 0, []), (104, .getfield 7, [12, 0, 0, 0, 1336]), (107, .bipush 108, []), (109, .iload 5, []), (111, .iadd, [])],
  [(112, .iconst 0, []), (113, .iastore, []), (114, .iconst 0, []), (115, .istore 6, []), (117, .iload 6, []), (119, .aload_n 0, []), (120, .getfield 214, [12, 21, 0, 0, 1357]), (123, .if_icmp .ge 47, [170]), (126, .aload_n 0, []), (127, .getfield 7, [12, 0, 0, 0, 1336])],
  [(130, .bipush 108, []), (132, .iload 6, []), (134, .iadd, []), (135, .aload_n 0, []), (136, .getfield 7, [12, 0, 0, 0, 1336]), (139, .bipush 108, []), (141, .iload 6, []), (143, .iadd, [])],
  [(144, .iaload, []), (145, .iconst 1, []), (146, .if_icmp .ne 16, [162]), (149, .aload_n 0, []), (150, .iload 6, []), (152, .invokevirtual 296, [153, 0, 1, 12, 1689]), (155, .ifCond .ne 7, [162]), (158, .iconst 1, []), (159, .goto 4, [163])],
  [(162, .iconst 0, []), (163, .iastore, []), (164, .iinc 6 1, []), (167, .goto (-50), [117]), (170, .iinc 4 1, []), (173, .goto (-116), [57])],
  [(176, .iconst 0, []), (177, .istore 4, []), (179, .iload 4, []), (181, .aload_n 0, []), (182, .getfield 214, [12, 21, 0, 0, 1357]), (185, .if_icmp .ge 43, [228]), (188, .aload_n 0, []), (189, .getfield 7, [12, 0, 0, 0, 1336])],
  [(192, .bipush 108, []), (194, .iload 4, []), (196, .iadd, []), (197, .aload_n 0, []), (198, .getfield 187, [12, 63, 0, 0, 1399]), (201, .iload 4, []), (203, .iaload, []), (204, .iastore, []), (205, .aload_n 0, []), (206, .getfield 7, [12, 0, 0, 0, 1336])],
  [(209, .bipush 124, []), (211, .iload 4, []), (213, .iadd, []), (214, .aload_n 0, []), (215, .getfield 190, [12, 64, 0, 0, 1400]), (218, .iload 4, []), (220, .iaload, []), (221, .iastore, []), (222, .iinc 4 1, [])],
  [(225, .goto (-46), [179]), (228, .iload_n 3, []), (229, .ireturn, [])]])
def mX12_nextOrder : im_M := (yX12_nextOrder, cX12_nextOrder, 8, (some .boolean), 12, 1, false, [1756, 270, 1755, 28], [[(0, .iload_n 1, []), (1, .iconst 2, []), (2, .isub, []), (3, .istore_n 2, []), (4, .iload_n 2, []), (5, .ifCond .lt 26, [31]), (8, .aload_n 0, []), (9, .getfield 193, [12, 65, 0, 0, 1401]), (12, .iload_n 2, []), (13, .iaload, []), (14, .aload_n 0, []), (15, .getfield 193, [12, 65, 0, 0, 1401])],
  [(18, .iload_n 2, []), (19, .iconst 1, []), (20, .iadd, []), (21, .iaload, []), (22, .if_icmp .le 9, [31]), (25, .iinc 2 (-1), []), (28, .goto (-24), [4]), (31, .iload_n 2, [])],
  [(32, .ifCond .ge 5, [37]), (35, .iconst 0, []), (36, .ireturn, []), (37, .iload_n 1, []), (38, .iconst 1, []), (39, .isub, []), (40, .istore_n 3, []), (41, .aload_n 0, []), (42, .getfield 193, [12, 65, 0, 0, 1401]), (45, .iload_n 3, []), (46, .iaload, []), (47, .aload_n 0, [])],
  [(48, .getfield 193, [12, 65, 0, 0, 1401]), (51, .iload_n 2, []), (52, .iaload, []), (53, .if_icmp .ge 9, [62]), (56, .iinc 3 (-1), []), (59, .goto (-18), [41]), (62, .aload_n 0, []), (63, .getfield 193, [12, 65, 0, 0, 1401])],
  [(66, .iload_n 2, []), (67, .iaload, []), (68, .istore 4, []), (70, .aload_n 0, []), (71, .getfield 193, [12, 65, 0, 0, 1401]), (74, .iload_n 2, []), (75, .aload_n 0, []), (76, .getfield 193, [12, 65, 0, 0, 1401]), (79, .iload_n 3, [])],
  [(80, .iaload, []), (81, .iastore, []), (82, .aload_n 0, []), (83, .getfield 193, [12, 65, 0, 0, 1401]), (86, .iload_n 3, []), (87, .iload 4, []), (89, .iastore, []), (90, .iload_n 2, []), (91, .iconst 1, []), (92, .iadd, []), (93, .istore 5, []), (95, .iload_n 1, [])],
  [(96, .iconst 1, []), (97, .isub, []), (98, .istore 6, []), (100, .iload 5, []), (102, .iload 6, []), (104, .if_icmp .ge 44, [148]), (107, .aload_n 0, []), (108, .getfield 193, [12, 65, 0, 0, 1401]), (111, .iload 5, [])],
  [(113, .iaload, []), (114, .istore 7, []), (116, .aload_n 0, []), (117, .getfield 193, [12, 65, 0, 0, 1401]), (120, .iload 5, []), (122, .aload_n 0, []), (123, .getfield 193, [12, 65, 0, 0, 1401]), (126, .iload 6, [])],
  [(128, .iaload, []), (129, .iastore, []), (130, .aload_n 0, []), (131, .getfield 193, [12, 65, 0, 0, 1401]), (134, .iload 6, []), (136, .iload 7, []), (138, .iastore, []), (139, .iinc 6 (-1), []), (142, .iinc 5 1, [])],
  [(145, .goto (-45), [100]), (148, .iconst 1, []), (149, .ireturn, [])]])
def mX12_pulls : im_M := (yX12_pulls, cX12_pulls, 9, (some .int), 12, 1, false, [1748, 270, 1746, 1747], [[(0, .iload_n 1, []), (1, .iconst 0, []), (2, .iconst 3, []), (3, .invokestatic 196, [117, 0, 3, 12, 1559]), (6, .ifCond .ne 5, [11]), (9, .iconst (-1), []), (10, .ireturn, []), (11, .aload_n 0, []), (12, .getfield 147, [12, 55, 0, 0, 1391]), (15, .iload_n 1, [])],
  [(16, .iaload, []), (17, .iconst (-1), []), (18, .if_icmp .ne 6, [24]), (21, .bipush (-11), []), (23, .ireturn, []), (24, .aload_n 0, []), (25, .getfield 150, [12, 56, 0, 0, 1392]), (28, .iload_n 1, []), (29, .iaload, []), (30, .istore_n 2, []), (31, .iconst 0, [])],
  [(32, .istore_n 3, []), (33, .iload_n 2, []), (34, .iconst 1, []), (35, .bipush 6, []), (37, .invokestatic 196, [117, 0, 3, 12, 1559]), (40, .istore 4, []), (42, .iconst 0, []), (43, .istore 5, []), (45, .iload 5, []), (47, .iload_n 2, [])],
  [(48, .if_icmp .ge 96, [144]), (51, .iload 4, []), (53, .ifCond .eq 91, [144]), (56, .aload_n 0, []), (57, .getfield 153, [12, 57, 0, 0, 1393]), (60, .bipush 40, []), (62, .iload_n 1, []), (63, .imul, [])],
  [(64, .iload 5, []), (66, .iadd, []), (67, .iaload, []), (68, .istore 6, []), (70, .aload_n 0, []), (71, .iload 6, []), (73, .invokevirtual 305, [161, 0, 1, 12, 1729]), (76, .ifCond .eq 43, [119]), (79, .aload_n 0, [])],
  [(80, .getfield 7, [12, 0, 0, 0, 1336]), (83, .bipush 108, []), (85, .aload_n 0, []), (86, .iload 6, []), (88, .invokevirtual 305, [161, 0, 1, 12, 1729]), (91, .ifCond .eq 8, [99]), (94, .iload 6, [])],
  [(96, .goto 4, [100]), (99, .iconst 0, []), (100, .iadd, []), (101, .iaload, []), (102, .iconst 1, []), (103, .if_icmp .ne 16, [119]), (106, .iload_n 3, []), (107, .iload 6, []), (109, .ishr, []), (110, .iconst 1, []), (111, .iand, [])],
  [(112, .ifCond .ne 7, [119]), (115, .iconst 1, []), (116, .goto 4, [120]), (119, .iconst 0, []), (120, .istore 4, []), (122, .iload_n 3, []), (123, .iload 4, []), (125, .ifCond .eq 10, [135])],
  [(128, .iconst 1, []), (129, .iload 6, []), (131, .ishl, []), (132, .goto 4, [136]), (135, .iconst 0, []), (136, .ior, []), (137, .istore_n 3, []), (138, .iinc 5 1, []), (141, .goto (-96), [45])],
  [(144, .iload 4, []), (146, .ifCond .ne 6, [152]), (149, .bipush (-2), []), (151, .ireturn, []), (152, .iconst 0, []), (153, .istore 5, []), (155, .iload 5, []), (157, .iload_n 2, []), (158, .if_icmp .ge 18, [176])],
  [(161, .aload_n 0, []), (162, .getfield 193, [12, 65, 0, 0, 1401]), (165, .iload 5, []), (167, .iload 5, []), (169, .iastore, []), (170, .iinc 5 1, []), (173, .goto (-18), [155])],
  [(176, .iconst (-1), []), (177, .istore 5, []), (179, .iconst 1, []), (180, .istore 6, []), (182, .iload 6, []), (184, .ifCond .eq 77, [261]), (187, .aload_n 0, []), (188, .iload_n 1, []), (189, .iload_n 2, []), (190, .invokevirtual 311, [166, 0, 2, 12, 1749])],
  [(193, .istore 7, []), (195, .iload 5, []), (197, .iconst (-1), []), (198, .if_icmp .eq 10, [208]), (201, .iload 7, []), (203, .iload 5, []), (205, .if_icmp .ge 46, [251])],
  [(208, .iload 7, []), (210, .istore 5, []), (212, .iconst 0, []), (213, .istore 8, []), (215, .iload 8, []), (217, .iload_n 2, []), (218, .if_icmp .ge 33, [251]), (221, .aload_n 0, []), (222, .getfield 117, [12, 42, 0, 0, 1378])],
  [(225, .iload 8, []), (227, .aload_n 0, []), (228, .getfield 153, [12, 57, 0, 0, 1393]), (231, .bipush 40, []), (233, .iload_n 1, []), (234, .imul, []), (235, .aload_n 0, []), (236, .getfield 193, [12, 65, 0, 0, 1401]), (239, .iload 8, [])],
  [(241, .iaload, []), (242, .iadd, []), (243, .iaload, []), (244, .iastore, []), (245, .iinc 8 1, []), (248, .goto (-33), [215]), (251, .aload_n 0, []), (252, .iload_n 2, []), (253, .invokevirtual 314, [167, 0, 1, 12, 1753])],
  [(256, .istore 6, []), (258, .goto (-76), [182]), (261, .aload_n 0, []), (262, .iload_n 2, []), (263, .putfield 317, [12, 41, 0, 0, 1377]), (266, .iload 5, []), (268, .ireturn, [])]])
def mX12_pullTold : im_M := (yX12_pullTold, cX12_pullTold, 2, (some .int), 12, 1, false, [1760, 270, 1758, 1759], [[(0, .iload_n 1, []), (1, .iconst 0, []), (2, .aload_n 0, []), (3, .getfield 317, [12, 41, 0, 0, 1377]), (6, .iconst 1, []), (7, .isub, []), (8, .invokestatic 196, [117, 0, 3, 12, 1559]), (11, .ifCond .eq 12, [23]), (14, .aload_n 0, []), (15, .getfield 117, [12, 42, 0, 0, 1378])],
  [(18, .iload_n 1, []), (19, .iaload, []), (20, .goto 4, [24]), (23, .iconst (-1), []), (24, .ireturn, [])]])
def mX12_mends : im_M := (yX12_mends, cX12_mends, 10, (some .int), 12, 1, false, [1764, 270, 1762, 1763], [[(0, .iload_n 1, []), (1, .iconst 0, []), (2, .bipush 12, []), (4, .invokestatic 196, [117, 0, 3, 12, 1559]), (7, .ifCond .ne 6, [13]), (10, .bipush (-2), []), (12, .ireturn, []), (13, .iconst (-1), []), (14, .istore_n 2, []), (15, .aload_n 0, [])],
  [(16, .iconst 0, []), (17, .putfield 320, [12, 43, 0, 0, 1379]), (20, .iconst 0, []), (21, .istore_n 3, []), (22, .iload_n 3, []), (23, .iconst 1, []), (24, .aload_n 0, []), (25, .getfield 227, [12, 24, 0, 0, 1360]), (28, .ishl, []), (29, .if_icmp .ge 166, [195])],
  [(32, .iconst 0, []), (33, .istore 4, []), (35, .iconst 0, []), (36, .istore 5, []), (38, .iconst 0, []), (39, .istore 6, []), (41, .iconst 0, []), (42, .istore 7, []), (44, .iconst 1, []), (45, .istore 8, []), (47, .iconst 0, [])],
  [(48, .istore 9, []), (50, .iload 9, []), (52, .aload_n 0, []), (53, .getfield 227, [12, 24, 0, 0, 1360]), (56, .if_icmp .ge 84, [140]), (59, .iload_n 3, []), (60, .iload 9, []), (62, .ishr, []), (63, .iconst 1, [])],
  [(64, .iand, []), (65, .iconst 1, []), (66, .if_icmp .ne 68, [134]), (69, .iinc 4 1, []), (72, .iload 5, []), (74, .aload_n 0, []), (75, .getfield 77, [12, 26, 0, 0, 1362]), (78, .iload 9, [])],
  [(80, .iaload, []), (81, .iadd, []), (82, .istore 5, []), (84, .iload 6, []), (86, .aload_n 0, []), (87, .getfield 80, [12, 27, 0, 0, 1363]), (90, .iload 9, []), (92, .iaload, []), (93, .iadd, []), (94, .istore 6, [])],
  [(96, .iload 7, []), (98, .aload_n 0, []), (99, .getfield 83, [12, 28, 0, 0, 1364]), (102, .iload 9, []), (104, .iaload, []), (105, .iadd, []), (106, .istore 7, []), (108, .iload 8, []), (110, .ifCond .eq 21, [131])],
  [(113, .aload_n 0, []), (114, .getfield 7, [12, 0, 0, 0, 1336]), (117, .sipush 260, []), (120, .iload 9, []), (122, .iadd, []), (123, .iaload, []), (124, .ifCond .ne 7, [131]), (127, .iconst 1, [])],
  [(128, .goto 4, [132]), (131, .iconst 0, []), (132, .istore 8, []), (134, .iinc 9 1, []), (137, .goto (-87), [50]), (140, .iload 8, []), (142, .ifCond .eq 47, [189])],
  [(145, .iload 4, []), (147, .iload_n 1, []), (148, .if_icmp .gt 41, [189]), (151, .iload 5, []), (153, .aload_n 0, []), (154, .getfield 7, [12, 0, 0, 0, 1336]), (157, .bipush 100, []), (159, .iaload, [])],
  [(160, .if_icmp .gt 29, [189]), (163, .iload 6, []), (165, .aload_n 0, []), (166, .getfield 7, [12, 0, 0, 0, 1336]), (169, .bipush 101, []), (171, .iaload, []), (172, .if_icmp .gt 17, [189]), (175, .iload 7, [])],
  [(177, .iload_n 2, []), (178, .if_icmp .le 11, [189]), (181, .iload 7, []), (183, .istore_n 2, []), (184, .aload_n 0, []), (185, .iload_n 3, []), (186, .putfield 320, [12, 43, 0, 0, 1379]), (189, .iinc 3 1, [])],
  [(192, .goto (-170), [22]), (195, .iload_n 2, []), (196, .ireturn, [])]])
def mX12_mendTold : im_M := (yX12_mendTold, cX12_mendTold, 1, (some .int), 12, 0, false, [1768, 270, 1766, 1767], [[(0, .aload_n 0, []), (1, .getfield 320, [12, 43, 0, 0, 1379]), (4, .ireturn, [])]])
def mX12_isRoom : im_M := (yX12_isRoom, cX12_isRoom, 2, (some .boolean), 12, 1, false, [1792, 270, 1775, 29], [[(0, .iload_n 1, []), (1, .iconst 0, []), (2, .aload_n 0, []), (3, .getfield 227, [12, 24, 0, 0, 1360]), (6, .iconst 1, []), (7, .isub, []), (8, .invokestatic 196, [117, 0, 3, 12, 1559]), (11, .ireturn, [])]])
def mX12_mend : im_M := (yX12_mend, cX12_mend, 2, (some .int), 12, 1, false, [1772, 270, 1770, 1771], [[(0, .aload_n 0, []), (1, .iload_n 1, []), (2, .invokevirtual 323, [172, 0, 1, 12, 1773]), (5, .ifCond .ne 5, [10]), (8, .iconst (-1), []), (9, .ireturn, []), (10, .aload_n 0, []), (11, .getfield 7, [12, 0, 0, 0, 1336]), (14, .sipush 260, [])],
  [(17, .iload_n 1, []), (18, .iadd, []), (19, .iaload, []), (20, .iconst 1, []), (21, .if_icmp .ne 6, [27]), (24, .bipush (-3), []), (26, .ireturn, []), (27, .aload_n 0, []), (28, .getfield 77, [12, 26, 0, 0, 1362]), (31, .iload_n 1, [])],
  [(32, .iaload, []), (33, .aload_n 0, []), (34, .getfield 7, [12, 0, 0, 0, 1336]), (37, .bipush 100, []), (39, .iaload, []), (40, .if_icmp .gt 19, [59]), (43, .aload_n 0, []), (44, .getfield 80, [12, 27, 0, 0, 1363]), (47, .iload_n 1, [])],
  [(48, .iaload, []), (49, .aload_n 0, []), (50, .getfield 7, [12, 0, 0, 0, 1336]), (53, .bipush 101, []), (55, .iaload, []), (56, .if_icmp .le 6, [62]), (59, .bipush (-6), []), (61, .ireturn, []), (62, .aload_n 0, []), (63, .getfield 7, [12, 0, 0, 0, 1336])],
  [(66, .bipush 100, []), (68, .dup2, []), (69, .iaload, []), (70, .aload_n 0, []), (71, .getfield 77, [12, 26, 0, 0, 1362]), (74, .iload_n 1, []), (75, .iaload, []), (76, .isub, []), (77, .iastore, []), (78, .aload_n 0, []), (79, .getfield 7, [12, 0, 0, 0, 1336])],
  [(82, .bipush 101, []), (84, .dup2, []), (85, .iaload, []), (86, .aload_n 0, []), (87, .getfield 80, [12, 27, 0, 0, 1363]), (90, .iload_n 1, []), (91, .iaload, []), (92, .isub, []), (93, .iastore, []), (94, .aload_n 0, []), (95, .getfield 7, [12, 0, 0, 0, 1336])],
  [(98, .sipush 260, []), (101, .iload_n 1, []), (102, .iadd, []), (103, .iconst 1, []), (104, .iastore, []), (105, .aload_n 0, []), (106, .getfield 7, [12, 0, 0, 0, 1336]), (109, .bipush 100, []), (111, .iaload, [])],
  [(112, .ireturn, [])]])
def mX12_roomTold : im_M := (yX12_roomTold, cX12_roomTold, 3, (some .int), 12, 2, false, [1796, 270, 1794, 1795], [[(0, .aload_n 0, []), (1, .iload_n 1, []), (2, .invokevirtual 323, [172, 0, 1, 12, 1773]), (5, .ifCond .ne 5, [10]), (8, .iconst (-1), []), (9, .ireturn, []), (10, .iload_n 2, []), (11, .ifCond .ne 12, [23]), (14, .aload_n 0, []), (15, .getfield 74, [12, 25, 0, 0, 1361])],
  [(18, .iload_n 1, []), (19, .iaload, []), (20, .goto 37, [57]), (23, .iload_n 2, []), (24, .iconst 1, []), (25, .if_icmp .ne 16, [41]), (28, .aload_n 0, []), (29, .getfield 7, [12, 0, 0, 0, 1336])],
  [(32, .sipush 260, []), (35, .iload_n 1, []), (36, .iadd, []), (37, .iaload, []), (38, .goto 19, [57]), (41, .iload_n 2, []), (42, .iconst 2, []), (43, .if_icmp .ne 12, [55]), (46, .aload_n 0, []), (47, .getfield 83, [12, 28, 0, 0, 1364])],
  [(50, .iload_n 1, []), (51, .iaload, []), (52, .goto 5, [57]), (55, .bipush (-2), []), (57, .ireturn, [])]])
def mX12_raid : im_M := (yX12_raid, cX12_raid, 5, (some .int), 12, 4, false, [1800, 270, 1798, 1799], [[(0, .iload_n 1, []), (1, .invokestatic 207, [118, 0, 1, 12, 1556]), (4, .ifCond .ne 5, [9]), (7, .iconst (-1), []), (8, .ireturn, []), (9, .iload_n 2, []), (10, .iconst 0, []), (11, .iconst 3, []), (12, .invokestatic 196, [117, 0, 3, 12, 1559]), (15, .ifCond .eq 24, [39])],
  [(18, .iload_n 3, []), (19, .iconst 1, []), (20, .bipush 10, []), (22, .invokestatic 196, [117, 0, 3, 12, 1559]), (25, .ifCond .eq 14, [39]), (28, .iload 4, []), (30, .iconst 1, []), (31, .bipush 9, [])],
  [(33, .invokestatic 196, [117, 0, 3, 12, 1559]), (36, .ifCond .ne 6, [42]), (39, .bipush (-2), []), (41, .ireturn, []), (42, .aload_n 0, []), (43, .getfield 326, [12, 29, 0, 0, 1365]), (46, .bipush 8, [])],
  [(48, .if_icmp .ne 6, [54]), (51, .bipush (-4), []), (53, .ireturn, []), (54, .aload_n 0, []), (55, .getfield 86, [12, 30, 0, 0, 1366]), (58, .aload_n 0, []), (59, .getfield 326, [12, 29, 0, 0, 1365]), (62, .iload_n 1, []), (63, .iastore, [])],
  [(64, .aload_n 0, []), (65, .getfield 89, [12, 31, 0, 0, 1367]), (68, .aload_n 0, []), (69, .getfield 326, [12, 29, 0, 0, 1365]), (72, .iload_n 2, []), (73, .iastore, []), (74, .aload_n 0, []), (75, .getfield 92, [12, 32, 0, 0, 1368]), (78, .aload_n 0, []), (79, .getfield 326, [12, 29, 0, 0, 1365])],
  [(82, .iload_n 3, []), (83, .iastore, []), (84, .aload_n 0, []), (85, .getfield 95, [12, 33, 0, 0, 1369]), (88, .aload_n 0, []), (89, .getfield 326, [12, 29, 0, 0, 1365]), (92, .iload 4, []), (94, .iastore, []), (95, .aload_n 0, [])],
  [(96, .dup, []), (97, .getfield 326, [12, 29, 0, 0, 1365]), (100, .iconst 1, []), (101, .iadd, []), (102, .putfield 326, [12, 29, 0, 0, 1365]), (105, .aload_n 0, []), (106, .getfield 326, [12, 29, 0, 0, 1365]), (109, .iconst 1, []), (110, .isub, []), (111, .ireturn, [])]])
def mX12_isOver : im_M := (yX12_isOver, cX12_isOver, 5, (some .boolean), 12, 2, false, [1812, 270, 1811, 31], [[(0, .aload_n 0, []), (1, .getfield 86, [12, 30, 0, 0, 1366]), (4, .iload_n 1, []), (5, .iaload, []), (6, .istore_n 3, []), (7, .iconst 0, []), (8, .istore 4, []), (10, .iload 4, []), (12, .aload_n 0, []), (13, .getfield 92, [12, 32, 0, 0, 1368])],
  [(16, .iload_n 1, []), (17, .iaload, []), (18, .if_icmp .ge 32, [50]), (21, .iload_n 3, []), (22, .iconst (-1), []), (23, .if_icmp .eq 27, [50]), (26, .iload_n 3, []), (27, .iload_n 2, []), (28, .if_icmp .ne 5, [33]), (31, .iconst 1, [])],
  [(32, .ireturn, []), (33, .iload_n 3, []), (34, .aload_n 0, []), (35, .getfield 89, [12, 31, 0, 0, 1367]), (38, .iload_n 1, []), (39, .iaload, []), (40, .invokestatic 203, [120, 0, 2, 12, 1578]), (43, .istore_n 3, []), (44, .iinc 4 1, []), (47, .goto (-37), [10])],
  [(50, .iconst 0, []), (51, .ireturn, [])]])
def mX12_leftOver : im_M := (yX12_leftOver, cX12_leftOver, 4, (some .int), 12, 1, false, [1808, 270, 1807, 30], [[(0, .iconst 0, []), (1, .istore_n 2, []), (2, .iconst 0, []), (3, .istore_n 3, []), (4, .iload_n 3, []), (5, .aload_n 0, []), (6, .getfield 326, [12, 29, 0, 0, 1365]), (9, .if_icmp .ge 31, [40]), (12, .iload_n 2, []), (13, .aload_n 0, []), (14, .iload_n 3, []), (15, .iload_n 1, [])],
  [(16, .invokevirtual 329, [176, 0, 2, 12, 1809]), (19, .ifCond .eq 12, [31]), (22, .aload_n 0, []), (23, .getfield 95, [12, 33, 0, 0, 1369]), (26, .iload_n 3, []), (27, .iaload, []), (28, .goto 4, [32]), (31, .iconst 0, [])],
  [(32, .iadd, []), (33, .istore_n 2, []), (34, .iinc 3 1, []), (37, .goto (-33), [4]), (40, .iload_n 2, []), (41, .ireturn, [])]])
def mX12_probe : im_M := (yX12_probe, cX12_probe, 5, (some .int), 12, 2, false, [1804, 270, 1802, 1803], [[(0, .iload_n 1, []), (1, .invokestatic 207, [118, 0, 1, 12, 1556]), (4, .ifCond .ne 5, [9]), (7, .iconst (-1), []), (8, .ireturn, []), (9, .iload_n 2, []), (10, .iconst 0, []), (11, .bipush 9, []), (13, .invokestatic 196, [117, 0, 3, 12, 1559])],
  [(16, .ifCond .ne 6, [22]), (19, .bipush (-2), []), (21, .ireturn, []), (22, .aload_n 0, []), (23, .getfield 98, [12, 34, 0, 0, 1370]), (26, .iload_n 1, []), (27, .baload, []), (28, .ifCond .eq 6, [34]), (31, .bipush (-3), [])],
  [(33, .ireturn, []), (34, .iload_n 2, []), (35, .aload_n 0, []), (36, .iload_n 1, []), (37, .invokevirtual 332, [177, 0, 1, 12, 1805]), (40, .if_icmp .le 6, [46]), (43, .bipush (-6), []), (45, .ireturn, []), (46, .aload_n 0, []), (47, .getfield 98, [12, 34, 0, 0, 1370])],
  [(50, .iload_n 1, []), (51, .iconst 1, []), (52, .bastore, []), (53, .iconst 0, []), (54, .istore_n 3, []), (55, .iload_n 3, []), (56, .iload_n 2, []), (57, .if_icmp .ge 49, [106]), (60, .iconst 0, []), (61, .istore 4, []), (63, .aload_n 0, [])],
  [(64, .iload 4, []), (66, .iload_n 1, []), (67, .invokevirtual 329, [176, 0, 2, 12, 1809]), (70, .ifCond .eq 13, [83]), (73, .aload_n 0, []), (74, .getfield 95, [12, 33, 0, 0, 1369]), (77, .iload 4, []), (79, .iaload, [])],
  [(80, .ifCond .ne 9, [89]), (83, .iinc 4 1, []), (86, .goto (-23), [63]), (89, .aload_n 0, []), (90, .getfield 95, [12, 33, 0, 0, 1369]), (93, .iload 4, []), (95, .dup2, [])],
  [(96, .iaload, []), (97, .iconst 1, []), (98, .isub, []), (99, .iastore, []), (100, .iinc 3 1, []), (103, .goto (-48), [55]), (106, .aload_n 0, []), (107, .iload_n 1, []), (108, .invokevirtual 332, [177, 0, 1, 12, 1805]), (111, .ireturn, [])]])
def mX12_likelyIn : im_M := (yX12_likelyIn, cX12_likelyIn, 7, (some .int), 12, 1, false, [1821, 270, 1820, 32], [[(0, .iconst 0, []), (1, .istore_n 2, []), (2, .iconst 0, []), (3, .istore_n 3, []), (4, .iload_n 3, []), (5, .aload_n 0, []), (6, .getfield 326, [12, 29, 0, 0, 1365]), (9, .if_icmp .ge 113, [122]), (12, .aload_n 0, []), (13, .getfield 98, [12, 34, 0, 0, 1370])],
  [(16, .iload_n 1, []), (17, .baload, []), (18, .ifCond .ne 104, [122]), (21, .aload_n 0, []), (22, .iload_n 3, []), (23, .iload_n 1, []), (24, .invokevirtual 329, [176, 0, 2, 12, 1809]), (27, .ifCond .eq 89, [116]), (30, .iconst 0, []), (31, .istore 4, [])],
  [(33, .aload_n 0, []), (34, .getfield 86, [12, 30, 0, 0, 1366]), (37, .iload_n 3, []), (38, .iaload, []), (39, .istore 5, []), (41, .iconst 0, []), (42, .istore 6, []), (44, .iload 6, []), (46, .aload_n 0, []), (47, .getfield 92, [12, 32, 0, 0, 1368])],
  [(50, .iload_n 3, []), (51, .iaload, []), (52, .if_icmp .ge 48, [100]), (55, .iload 5, []), (57, .iconst (-1), []), (58, .if_icmp .eq 42, [100]), (61, .iload 4, []), (63, .aload_n 0, [])],
  [(64, .getfield 98, [12, 34, 0, 0, 1370]), (67, .iload 5, []), (69, .baload, []), (70, .ifCond .eq 7, [77]), (73, .iconst 0, []), (74, .goto 4, [78]), (77, .iconst 1, []), (78, .iadd, []), (79, .istore 4, [])],
  [(81, .iload 5, []), (83, .aload_n 0, []), (84, .getfield 89, [12, 31, 0, 0, 1367]), (87, .iload_n 3, []), (88, .iaload, []), (89, .invokestatic 203, [120, 0, 2, 12, 1578]), (92, .istore 5, []), (94, .iinc 6 1, [])],
  [(97, .goto (-53), [44]), (100, .iload_n 2, []), (101, .sipush 2520, []), (104, .iload 4, []), (106, .idiv, []), (107, .aload_n 0, []), (108, .getfield 95, [12, 33, 0, 0, 1369]), (111, .iload_n 3, [])],
  [(112, .iaload, []), (113, .imul, []), (114, .iadd, []), (115, .istore_n 2, []), (116, .iinc 3 1, []), (119, .goto (-115), [4]), (122, .iload_n 2, []), (123, .ireturn, [])]])
def mX12_likely : im_M := (yX12_likely, cX12_likely, 7, (some .long), 12, 2, false, [1816, 270, 1814, 1815], [[(0, .iload_n 1, []), (1, .invokestatic 207, [118, 0, 1, 12, 1556]), (4, .ifCond .eq 12, [16]), (7, .iload_n 2, []), (8, .iconst 0, []), (9, .iconst 1, []), (10, .invokestatic 196, [117, 0, 3, 12, 1559]), (13, .ifCond .ne 7, [20])],
  [(16, .ldc2_w 335, [0, 0, 0, 0, 1817]), (19, .lreturn, []), (20, .aload_n 0, []), (21, .iload_n 1, []), (22, .invokevirtual 337, [179, 0, 1, 12, 1818]), (25, .istore_n 3, []), (26, .iload_n 3, []), (27, .istore 4, []), (29, .sipush 2520, [])],
  [(32, .istore 5, []), (34, .iload 5, []), (36, .ifCond .eq 21, [57]), (39, .iload 4, []), (41, .iload 5, []), (43, .irem, []), (44, .istore 6, []), (46, .iload 5, [])],
  [(48, .istore 4, []), (50, .iload 6, []), (52, .istore 5, []), (54, .goto (-20), [34]), (57, .iload_n 2, []), (58, .ifCond .ne 7, [65]), (61, .iload_n 3, []), (62, .goto 6, [68])],
  [(65, .sipush 2520, []), (68, .iload 4, []), (70, .idiv, []), (71, .i2l, []), (72, .lreturn, [])]])
def mX12_next : im_M := (yX12_next, cX12_next, 5, (some .int), 12, 0, false, [1825, 270, 1823, 1824], [[(0, .iconst (-1), []), (1, .istore_n 1, []), (2, .iconst 0, []), (3, .istore_n 2, []), (4, .iconst 0, []), (5, .istore_n 3, []), (6, .iload_n 3, []), (7, .bipush 100, []), (9, .if_icmp .ge 27, [36]), (12, .aload_n 0, []), (13, .iload_n 3, []), (14, .invokevirtual 337, [179, 0, 1, 12, 1818])],
  [(17, .istore 4, []), (19, .iload 4, []), (21, .iload_n 2, []), (22, .if_icmp .le 8, [30]), (25, .iload 4, []), (27, .istore_n 2, []), (28, .iload_n 3, []), (29, .istore_n 1, []), (30, .iinc 3 1, [])],
  [(33, .goto (-27), [6]), (36, .iload_n 1, []), (37, .ireturn, [])]])
def mX12_paper : im_M := (yX12_paper, cX12_paper, 4, (some .int), 12, 3, false, [1829, 270, 1827, 1828], [[(0, .iload_n 1, []), (1, .iconst 0, []), (2, .bipush 11, []), (4, .invokestatic 196, [117, 0, 3, 12, 1559]), (7, .ifCond .eq 11, [18]), (10, .aload_n 0, []), (11, .iload_n 2, []), (12, .invokevirtual 211, [119, 0, 1, 12, 1570]), (15, .ifCond .ne 5, [20])],
  [(18, .iconst (-1), []), (19, .ireturn, []), (20, .iload_n 3, []), (21, .iconst 0, []), (22, .sipush 2000, []), (25, .invokestatic 196, [117, 0, 3, 12, 1559]), (28, .ifCond .ne 6, [34]), (31, .bipush (-2), [])],
  [(33, .ireturn, []), (34, .aload_n 0, []), (35, .getfield 340, [12, 35, 0, 0, 1371]), (38, .bipush 24, []), (40, .if_icmp .ne 6, [46]), (43, .bipush (-4), []), (45, .ireturn, []), (46, .aload_n 0, []), (47, .getfield 102, [12, 36, 0, 0, 1372])],
  [(50, .aload_n 0, []), (51, .getfield 340, [12, 35, 0, 0, 1371]), (54, .iload_n 1, []), (55, .iastore, []), (56, .aload_n 0, []), (57, .getfield 105, [12, 37, 0, 0, 1373]), (60, .aload_n 0, []), (61, .getfield 340, [12, 35, 0, 0, 1371])],
  [(64, .iload_n 2, []), (65, .iastore, []), (66, .aload_n 0, []), (67, .getfield 108, [12, 38, 0, 0, 1374]), (70, .aload_n 0, []), (71, .getfield 340, [12, 35, 0, 0, 1371]), (74, .iload_n 3, []), (75, .iastore, []), (76, .aload_n 0, []), (77, .getfield 111, [12, 39, 0, 0, 1375])],
  [(80, .aload_n 0, []), (81, .getfield 340, [12, 35, 0, 0, 1371]), (84, .aload_n 0, []), (85, .getfield 7, [12, 0, 0, 0, 1336]), (88, .bipush 105, []), (90, .iaload, []), (91, .iastore, []), (92, .aload_n 0, []), (93, .dup, []), (94, .getfield 340, [12, 35, 0, 0, 1371])],
  [(97, .iconst 1, []), (98, .iadd, []), (99, .putfield 340, [12, 35, 0, 0, 1371]), (102, .aload_n 0, []), (103, .getfield 340, [12, 35, 0, 0, 1371]), (106, .iconst 1, []), (107, .isub, []), (108, .ireturn, [])]])
def mX12_burn : im_M := (yX12_burn, cX12_burn, 2, (some .int), 12, 1, false, [1833, 270, 1831, 1832], [[(0, .iload_n 1, []), (1, .iconst 0, []), (2, .aload_n 0, []), (3, .getfield 340, [12, 35, 0, 0, 1371]), (6, .iconst 1, []), (7, .isub, []), (8, .invokestatic 196, [117, 0, 3, 12, 1559]), (11, .ifCond .ne 5, [16]), (14, .iconst (-1), []), (15, .ireturn, [])],
  [(16, .aload_n 0, []), (17, .getfield 114, [12, 40, 0, 0, 1376]), (20, .iload_n 1, []), (21, .iaload, []), (22, .iconst (-1), []), (23, .if_icmp .eq 6, [29]), (26, .bipush (-3), []), (28, .ireturn, []), (29, .aload_n 0, []), (30, .getfield 114, [12, 40, 0, 0, 1376])],
  [(33, .iload_n 1, []), (34, .aload_n 0, []), (35, .getfield 7, [12, 0, 0, 0, 1336]), (38, .bipush 105, []), (40, .iaload, []), (41, .iastore, []), (42, .iconst 1, []), (43, .ireturn, [])]])
def mX12_owner : im_M := (yX12_owner, cX12_owner, 7, (some .int), 12, 3, false, [1837, 270, 1835, 1836], [[(0, .iload_n 1, []), (1, .iconst 0, []), (2, .bipush 11, []), (4, .invokestatic 196, [117, 0, 3, 12, 1559]), (7, .ifCond .ne 6, [13]), (10, .bipush (-5), []), (12, .ireturn, []), (13, .iload_n 2, []), (14, .iconst 0, []), (15, .sipush 2000, [])],
  [(18, .invokestatic 196, [117, 0, 3, 12, 1559]), (21, .ifCond .eq 18, [39]), (24, .iload_n 3, []), (25, .iconst 0, []), (26, .aload_n 0, []), (27, .getfield 7, [12, 0, 0, 0, 1336]), (30, .bipush 105, [])],
  [(32, .iaload, []), (33, .invokestatic 196, [117, 0, 3, 12, 1559]), (36, .ifCond .ne 6, [42]), (39, .bipush (-2), []), (41, .ireturn, []), (42, .iconst (-1), []), (43, .istore 4, []), (45, .iconst 0, []), (46, .istore 5, [])],
  [(48, .iload 5, []), (50, .aload_n 0, []), (51, .getfield 340, [12, 35, 0, 0, 1371]), (54, .if_icmp .ge 108, [162]), (57, .aload_n 0, []), (58, .getfield 102, [12, 36, 0, 0, 1372]), (61, .iload 5, []), (63, .iaload, [])],
  [(64, .iload_n 1, []), (65, .if_icmp .ne 51, [116]), (68, .aload_n 0, []), (69, .getfield 111, [12, 39, 0, 0, 1375]), (72, .iload 5, []), (74, .iaload, []), (75, .iload_n 3, []), (76, .if_icmp .gt 40, [116]), (79, .aload_n 0, [])],
  [(80, .getfield 114, [12, 40, 0, 0, 1376]), (83, .iload 5, []), (85, .iaload, []), (86, .iconst (-1), []), (87, .if_icmp .eq 14, [101]), (90, .aload_n 0, []), (91, .getfield 114, [12, 40, 0, 0, 1376]), (94, .iload 5, [])],
  [(96, .iaload, []), (97, .iload_n 3, []), (98, .if_icmp .le 18, [116]), (101, .aload_n 0, []), (102, .getfield 108, [12, 38, 0, 0, 1374]), (105, .iload 5, []), (107, .iaload, []), (108, .iload_n 2, []), (109, .if_icmp .gt 7, [116])],
  [(112, .iconst 1, []), (113, .goto 4, [117]), (116, .iconst 0, []), (117, .istore 6, []), (119, .iload 6, []), (121, .ifCond .eq 31, [152]), (124, .iload 4, []), (126, .iconst (-1), []), (127, .if_icmp .eq 20, [147])],
  [(130, .aload_n 0, []), (131, .getfield 108, [12, 38, 0, 0, 1374]), (134, .iload 5, []), (136, .iaload, []), (137, .aload_n 0, []), (138, .getfield 108, [12, 38, 0, 0, 1374]), (141, .iload 4, []), (143, .iaload, [])],
  [(144, .if_icmp .lt 8, [152]), (147, .iload 5, []), (149, .goto 5, [154]), (152, .iload 4, []), (154, .istore 4, []), (156, .iinc 5 1, []), (159, .goto (-111), [48])],
  [(162, .iload 4, []), (164, .iconst (-1), []), (165, .if_icmp .ne 7, [172]), (168, .iconst (-1), []), (169, .goto 10, [179]), (172, .aload_n 0, []), (173, .getfield 105, [12, 37, 0, 0, 1373])],
  [(176, .iload 4, []), (178, .iaload, []), (179, .ireturn, [])]])
def mX12_heirs : im_M := (yX12_heirs, cX12_heirs, 7, (some .int), 12, 3, false, [1841, 270, 1839, 1840], [[(0, .aload_n 0, []), (1, .iload_n 1, []), (2, .iload_n 2, []), (3, .iload_n 3, []), (4, .invokevirtual 343, [184, 0, 3, 12, 1842]), (7, .istore 4, []), (9, .iload 4, []), (11, .ifCond .ge 6, [17]), (14, .iload 4, [])],
  [(16, .ireturn, []), (17, .iconst 0, []), (18, .istore 5, []), (20, .iconst 0, []), (21, .istore 6, []), (23, .iload 6, []), (25, .aload_n 0, []), (26, .getfield 200, [12, 10, 0, 0, 1346]), (29, .if_icmp .ge 53, [82])],
  [(32, .iload 5, []), (34, .aload_n 0, []), (35, .getfield 44, [12, 13, 0, 0, 1349]), (38, .iload 6, []), (40, .iaload, []), (41, .aload_n 0, []), (42, .getfield 44, [12, 13, 0, 0, 1349]), (45, .iload 4, []), (47, .iaload, [])],
  [(48, .if_icmp .ne 24, [72]), (51, .aload_n 0, []), (52, .getfield 7, [12, 0, 0, 0, 1336]), (55, .sipush 236, []), (58, .iload 6, []), (60, .iadd, []), (61, .iaload, []), (62, .ifCond .ne 10, [72])],
  [(65, .iconst 1, []), (66, .iload 6, []), (68, .ishl, []), (69, .goto 4, [73]), (72, .iconst 0, []), (73, .ior, []), (74, .istore 5, []), (76, .iinc 6 1, []), (79, .goto (-56), [23])],
  [(82, .aload_n 0, []), (83, .getfield 7, [12, 0, 0, 0, 1336]), (86, .sipush 236, []), (89, .iload 4, []), (91, .iadd, []), (92, .iaload, []), (93, .ifCond .ne 10, [103])],
  [(96, .iconst 1, []), (97, .iload 4, []), (99, .ishl, []), (100, .goto 5, [105]), (103, .iload 5, []), (105, .ireturn, [])]])
def mX12_lays : im_M := (yX12_lays, cX12_lays, 3, none, 12, 1, false, [1850, 270, 1849, 33], [[(0, .iconst 0, []), (1, .istore_n 2, []), (2, .iload_n 2, []), (3, .sipush 283, []), (6, .if_icmp .ge 40, [46]), (9, .iload_n 1, []), (10, .ifCond .eq 18, [28]), (13, .aload_n 0, []), (14, .getfield 7, [12, 0, 0, 0, 1336])],
  [(17, .iload_n 2, []), (18, .aload_n 0, []), (19, .getfield 13, [12, 1, 0, 0, 1337]), (22, .iload_n 2, []), (23, .iaload, []), (24, .iastore, []), (25, .goto 15, [40]), (28, .aload_n 0, []), (29, .getfield 13, [12, 1, 0, 0, 1337])],
  [(32, .iload_n 2, []), (33, .aload_n 0, []), (34, .getfield 7, [12, 0, 0, 0, 1336]), (37, .iload_n 2, []), (38, .iaload, []), (39, .iastore, []), (40, .iinc 2 1, []), (43, .goto (-41), [2]), (46, .return_, [])]])
def mX12_beside : im_M := (yX12_beside, cX12_beside, 5, (some .long), 12, 2, false, [1846, 270, 1844, 1845], [[(0, .iload_n 1, []), (1, .iconst 1, []), (2, .bipush 60, []), (4, .invokestatic 196, [117, 0, 3, 12, 1559]), (7, .ifCond .eq 27, [34]), (10, .iload_n 2, []), (11, .iconst 0, []), (12, .iconst 3, []), (13, .invokestatic 196, [117, 0, 3, 12, 1559])],
  [(16, .ifCond .eq 18, [34]), (19, .aload_n 0, []), (20, .getfield 7, [12, 0, 0, 0, 1336]), (23, .bipush 105, []), (25, .iaload, []), (26, .iload_n 1, []), (27, .iadd, []), (28, .sipush 2000, []), (31, .if_icmp .le 7, [38])],
  [(34, .ldc2_w 335, [0, 0, 0, 0, 1817]), (37, .lreturn, []), (38, .aload_n 0, []), (39, .iconst 0, []), (40, .invokevirtual 347, [186, 0, 1, 12, 1847]), (43, .iload_n 2, []), (44, .iconst 1, []), (45, .if_icmp .ne 13, [58])],
  [(48, .aload_n 0, []), (49, .getfield 7, [12, 0, 0, 0, 1336]), (52, .bipush 100, []), (54, .iaload, []), (55, .goto 23, [78]), (58, .iload_n 2, []), (59, .iconst 2, []), (60, .if_icmp .ne 17, [77]), (63, .aload_n 0, [])],
  [(64, .sipush 236, []), (67, .aload_n 0, []), (68, .getfield 200, [12, 10, 0, 0, 1346]), (71, .invokevirtual 308, [163, 0, 2, 12, 1737]), (74, .goto 4, [78]), (77, .iconst 0, []), (78, .istore_n 3, []), (79, .iconst 0, [])],
  [(80, .istore 4, []), (82, .iload 4, []), (84, .iload_n 1, []), (85, .if_icmp .ge 13, [98]), (88, .aload_n 0, []), (89, .invokevirtual 302, [154, 0, 0, 12, 1665]), (92, .iinc 4 1, []), (95, .goto (-13), [82])],
  [(98, .iload_n 2, []), (99, .ifCond .ne 13, [112]), (102, .aload_n 0, []), (103, .iconst 0, []), (104, .bipush 100, []), (106, .invokevirtual 308, [163, 0, 2, 12, 1737]), (109, .goto 52, [161])],
  [(112, .iload_n 2, []), (113, .iconst 1, []), (114, .if_icmp .ne 15, [129]), (117, .aload_n 0, []), (118, .getfield 7, [12, 0, 0, 0, 1336]), (121, .bipush 100, []), (123, .iaload, []), (124, .iload_n 3, []), (125, .isub, []), (126, .goto 35, [161])],
  [(129, .iload_n 2, []), (130, .iconst 2, []), (131, .if_icmp .ne 19, [150]), (134, .aload_n 0, []), (135, .sipush 236, []), (138, .aload_n 0, []), (139, .getfield 200, [12, 10, 0, 0, 1346]), (142, .invokevirtual 308, [163, 0, 2, 12, 1737])],
  [(145, .iload_n 3, []), (146, .isub, []), (147, .goto 14, [161]), (150, .aload_n 0, []), (151, .sipush 164, []), (154, .aload_n 0, []), (155, .getfield 200, [12, 10, 0, 0, 1346]), (158, .invokevirtual 308, [163, 0, 2, 12, 1737])],
  [(161, .istore 4, []), (163, .aload_n 0, []), (164, .iconst 1, []), (165, .invokevirtual 347, [186, 0, 1, 12, 1847]), (168, .iload 4, []), (170, .i2l, []), (171, .lreturn, [])]])
def mX12_clear : im_M := (yX12_clear, cX12_clear, 4, (some .int), 12, 2, false, [1854, 270, 1852, 1853], [[(0, .iload_n 1, []), (1, .invokestatic 207, [118, 0, 1, 12, 1556]), (4, .ifCond .ne 5, [9]), (7, .iconst (-1), []), (8, .ireturn, []), (9, .iload_n 2, []), (10, .iconst 1, []), (11, .bipush 60, []), (13, .invokestatic 196, [117, 0, 3, 12, 1559])],
  [(16, .ifCond .ne 6, [22]), (19, .bipush (-2), []), (21, .ireturn, []), (22, .aload_n 0, []), (23, .iconst 0, []), (24, .invokevirtual 347, [186, 0, 1, 12, 1847]), (27, .iconst 0, []), (28, .istore_n 3, []), (29, .iload_n 3, []), (30, .iload_n 2, []), (31, .if_icmp .gt 22, [53])],
  [(34, .aload_n 0, []), (35, .getfield 7, [12, 0, 0, 0, 1336]), (38, .iload_n 1, []), (39, .iaload, []), (40, .ifCond .le 13, [53]), (43, .aload_n 0, []), (44, .invokevirtual 302, [154, 0, 0, 12, 1665]), (47, .iinc 3 1, [])],
  [(50, .goto (-21), [29]), (53, .aload_n 0, []), (54, .iconst 1, []), (55, .invokevirtual 347, [186, 0, 1, 12, 1847]), (58, .iload_n 3, []), (59, .iload_n 2, []), (60, .if_icmp .le 8, [68]), (63, .bipush (-3), [])],
  [(65, .goto 4, [69]), (68, .iload_n 3, []), (69, .ireturn, [])]])
def mX12_image : im_M := (yX12_image, cX12_image, 2, (some .int), 12, 0, false, [1858, 270, 1856, 1857], [[(0, .iconst 0, []), (1, .istore_n 1, []), (2, .iload_n 1, []), (3, .sipush 283, []), (6, .if_icmp .ge 21, [27]), (9, .aload_n 0, []), (10, .getfield 16, [12, 2, 0, 0, 1338]), (13, .iload_n 1, []), (14, .aload_n 0, []), (15, .getfield 7, [12, 0, 0, 0, 1336])],
  [(18, .iload_n 1, []), (19, .iaload, []), (20, .iastore, []), (21, .iinc 1 1, []), (24, .goto (-22), [2]), (27, .aload_n 0, []), (28, .iconst 1, []), (29, .putfield 351, [12, 3, 0, 0, 1339])],
  [(32, .aload_n 0, []), (33, .getfield 7, [12, 0, 0, 0, 1336]), (36, .bipush 105, []), (38, .iaload, []), (39, .ireturn, [])]])
def mX12_back : im_M := (yX12_back, cX12_back, 2, (some .int), 12, 0, false, [1862, 270, 1860, 1861], [[(0, .aload_n 0, []), (1, .getfield 351, [12, 3, 0, 0, 1339]), (4, .ifCond .ne 6, [10]), (7, .bipush (-3), []), (9, .ireturn, []), (10, .iconst 0, []), (11, .istore_n 1, []), (12, .iload_n 1, []), (13, .sipush 283, [])],
  [(16, .if_icmp .ge 21, [37]), (19, .aload_n 0, []), (20, .getfield 7, [12, 0, 0, 0, 1336]), (23, .iload_n 1, []), (24, .aload_n 0, []), (25, .getfield 16, [12, 2, 0, 0, 1338]), (28, .iload_n 1, []), (29, .iaload, []), (30, .iastore, []), (31, .iinc 1 1, [])],
  [(34, .goto (-22), [12]), (37, .aload_n 0, []), (38, .getfield 7, [12, 0, 0, 0, 1336]), (41, .bipush 105, []), (43, .iaload, []), (44, .ireturn, [])]])
def mX12_sheet : im_M := (yX12_sheet, cX12_sheet, 5, (some .int), 12, 3, false, [1866, 270, 1864, 1865], [[(0, .iload_n 1, []), (1, .iconst 0, []), (2, .iconst 3, []), (3, .invokestatic 196, [117, 0, 3, 12, 1559]), (6, .ifCond .eq 23, [29]), (9, .iload_n 2, []), (10, .iconst (-1), []), (11, .iconst 2, []), (12, .invokestatic 196, [117, 0, 3, 12, 1559]), (15, .ifCond .eq 14, [29])],
  [(18, .iload_n 2, []), (19, .iconst (-1), []), (20, .if_icmp .eq 12, [32]), (23, .iload_n 3, []), (24, .bipush 40, []), (26, .if_icmp .le 6, [32]), (29, .bipush (-2), []), (31, .ireturn, [])],
  [(32, .iload_n 2, []), (33, .iconst (-1), []), (34, .if_icmp .eq 10, [44]), (37, .iload_n 3, []), (38, .ifCond .ge 6, [44]), (41, .bipush (-14), []), (43, .ireturn, []), (44, .aload_n 0, []), (45, .getfield 147, [12, 55, 0, 0, 1391])],
  [(48, .iload_n 1, []), (49, .iload_n 2, []), (50, .iastore, []), (51, .aload_n 0, []), (52, .getfield 150, [12, 56, 0, 0, 1392]), (55, .iload_n 1, []), (56, .iload_n 2, []), (57, .iconst (-1), []), (58, .if_icmp .ne 7, [65]), (61, .iconst 0, []), (62, .goto 4, [66])],
  [(65, .iload_n 3, []), (66, .iastore, []), (67, .iconst 0, []), (68, .istore 4, []), (70, .iload 4, []), (72, .bipush 40, []), (74, .if_icmp .ge 22, [96]), (77, .aload_n 0, []), (78, .getfield 153, [12, 57, 0, 0, 1393])],
  [(81, .bipush 40, []), (83, .iload_n 1, []), (84, .imul, []), (85, .iload 4, []), (87, .iadd, []), (88, .iconst 0, []), (89, .iastore, []), (90, .iinc 4 1, []), (93, .goto (-23), [70])],
  [(96, .iconst 1, []), (97, .ireturn, [])]])
def mX12_cell : im_M := (yX12_cell, cX12_cell, 4, (some .int), 12, 3, false, [1870, 270, 1868, 1869], [[(0, .iload_n 1, []), (1, .iconst 0, []), (2, .iconst 3, []), (3, .invokestatic 196, [117, 0, 3, 12, 1559]), (6, .ifCond .ne 6, [12]), (9, .bipush (-2), []), (11, .ireturn, []), (12, .aload_n 0, []), (13, .getfield 147, [12, 55, 0, 0, 1391])],
  [(16, .iload_n 1, []), (17, .iaload, []), (18, .iconst (-1), []), (19, .if_icmp .ne 6, [25]), (22, .bipush (-11), []), (24, .ireturn, []), (25, .iload_n 2, []), (26, .iconst 0, []), (27, .aload_n 0, []), (28, .getfield 150, [12, 56, 0, 0, 1392]), (31, .iload_n 1, [])],
  [(32, .iaload, []), (33, .iconst 1, []), (34, .isub, []), (35, .invokestatic 196, [117, 0, 3, 12, 1559]), (38, .ifCond .ne 6, [44]), (41, .bipush (-12), []), (43, .ireturn, []), (44, .aload_n 0, []), (45, .getfield 153, [12, 57, 0, 0, 1393])],
  [(48, .bipush 40, []), (50, .iload_n 1, []), (51, .imul, []), (52, .iload_n 2, []), (53, .iadd, []), (54, .aload_n 0, []), (55, .getfield 147, [12, 55, 0, 0, 1391]), (58, .iload_n 1, []), (59, .iaload, []), (60, .ifCond .ne 8, [68]), (63, .iload_n 3, [])],
  [(64, .i2b, []), (65, .goto 19, [84]), (68, .aload_n 0, []), (69, .getfield 147, [12, 55, 0, 0, 1391]), (72, .iload_n 1, []), (73, .iaload, []), (74, .iconst 1, []), (75, .if_icmp .ne 8, [83]), (78, .iload_n 3, []), (79, .i2s, [])],
  [(80, .goto 4, [84]), (83, .iload_n 3, []), (84, .iastore, []), (85, .iconst 1, []), (86, .ireturn, [])]])
def mX12_copy : im_M := (yX12_copy, cX12_copy, 10, (some .int), 12, 5, false, [1874, 270, 1872, 1873], [[(0, .iload_n 1, []), (1, .iconst 0, []), (2, .iconst 3, []), (3, .invokestatic 196, [117, 0, 3, 12, 1559]), (6, .ifCond .eq 12, [18]), (9, .iload_n 3, []), (10, .iconst 0, []), (11, .iconst 3, []), (12, .invokestatic 196, [117, 0, 3, 12, 1559]), (15, .ifCond .ne 6, [21])],
  [(18, .bipush (-2), []), (20, .ireturn, []), (21, .aload_n 0, []), (22, .getfield 147, [12, 55, 0, 0, 1391]), (25, .iload_n 1, []), (26, .iaload, []), (27, .iconst (-1), []), (28, .if_icmp .eq 13, [41]), (31, .aload_n 0, [])],
  [(32, .getfield 147, [12, 55, 0, 0, 1391]), (35, .iload_n 3, []), (36, .iaload, []), (37, .iconst (-1), []), (38, .if_icmp .ne 6, [44]), (41, .bipush (-11), []), (43, .ireturn, []), (44, .aload_n 0, []), (45, .getfield 147, [12, 55, 0, 0, 1391])],
  [(48, .iload_n 1, []), (49, .iaload, []), (50, .aload_n 0, []), (51, .getfield 147, [12, 55, 0, 0, 1391]), (54, .iload_n 3, []), (55, .iaload, []), (56, .if_icmp .eq 6, [62]), (59, .bipush (-13), []), (61, .ireturn, []), (62, .iload 5, [])],
  [(64, .ifCond .lt 60, [124]), (67, .iload_n 2, []), (68, .ifCond .lt 56, [124]), (71, .iload 4, []), (73, .ifCond .lt 51, [124]), (76, .iload_n 2, []), (77, .aload_n 0, []), (78, .getfield 150, [12, 56, 0, 0, 1392])],
  [(81, .iload_n 1, []), (82, .iaload, []), (83, .if_icmp .gt 41, [124]), (86, .iload 4, []), (88, .aload_n 0, []), (89, .getfield 150, [12, 56, 0, 0, 1392]), (92, .iload_n 3, []), (93, .iaload, []), (94, .if_icmp .gt 30, [124])],
  [(97, .iload 5, []), (99, .aload_n 0, []), (100, .getfield 150, [12, 56, 0, 0, 1392]), (103, .iload_n 1, []), (104, .iaload, []), (105, .iload_n 2, []), (106, .isub, []), (107, .if_icmp .gt 17, [124]), (110, .iload 5, [])],
  [(112, .aload_n 0, []), (113, .getfield 150, [12, 56, 0, 0, 1392]), (116, .iload_n 3, []), (117, .iaload, []), (118, .iload 4, []), (120, .isub, []), (121, .if_icmp .le 6, [127]), (124, .bipush (-12), []), (126, .ireturn, []), (127, .bipush 40, [])],
  [(129, .iload_n 1, []), (130, .imul, []), (131, .iload_n 2, []), (132, .iadd, []), (133, .istore 6, []), (135, .bipush 40, []), (137, .iload_n 3, []), (138, .imul, []), (139, .iload 4, []), (141, .iadd, []), (142, .istore 7, [])],
  [(144, .iconst 0, []), (145, .istore 8, []), (147, .iload 8, []), (149, .iload 5, []), (151, .if_icmp .ge 50, [201]), (154, .iload 6, []), (156, .iload 7, []), (158, .if_icmp .ge 13, [171])],
  [(161, .iload 5, []), (163, .iconst 1, []), (164, .isub, []), (165, .iload 8, []), (167, .isub, []), (168, .goto 5, [173]), (171, .iload 8, []), (173, .istore 9, []), (175, .aload_n 0, [])],
  [(176, .getfield 153, [12, 57, 0, 0, 1393]), (179, .iload 7, []), (181, .iload 9, []), (183, .iadd, []), (184, .aload_n 0, []), (185, .getfield 153, [12, 57, 0, 0, 1393]), (188, .iload 6, []), (190, .iload 9, [])],
  [(192, .iadd, []), (193, .iaload, []), (194, .iastore, []), (195, .iinc 8 1, []), (198, .goto (-51), [147]), (201, .iload 5, []), (203, .ireturn, [])]])
def mX12_people : im_M := (yX12_people, cX12_people, 9, (some .int), 12, 4, false, [1878, 270, 1876, 1877], [[(0, .iload_n 1, []), (1, .iconst 0, []), (2, .iconst 3, []), (3, .invokestatic 196, [117, 0, 3, 12, 1559]), (6, .ifCond .eq 23, [29]), (9, .iload_n 2, []), (10, .iconst 0, []), (11, .iconst 2, []), (12, .invokestatic 196, [117, 0, 3, 12, 1559]), (15, .ifCond .eq 14, [29])],
  [(18, .iload 4, []), (20, .iconst 0, []), (21, .bipush 10, []), (23, .invokestatic 196, [117, 0, 3, 12, 1559]), (26, .ifCond .ne 6, [32]), (29, .bipush (-2), []), (31, .ireturn, [])],
  [(32, .aload_n 0, []), (33, .getfield 147, [12, 55, 0, 0, 1391]), (36, .iload_n 1, []), (37, .iaload, []), (38, .iconst (-1), []), (39, .if_icmp .ne 6, [45]), (42, .bipush (-11), []), (44, .ireturn, []), (45, .aload_n 0, []), (46, .getfield 147, [12, 55, 0, 0, 1391])],
  [(49, .iload_n 1, []), (50, .iaload, []), (51, .iload_n 2, []), (52, .if_icmp .eq 6, [58]), (55, .bipush (-13), []), (57, .ireturn, []), (58, .iconst 0, []), (59, .istore 5, []), (61, .iconst 0, []), (62, .istore 6, [])],
  [(64, .iload 6, []), (66, .iload 4, []), (68, .if_icmp .ge 103, [171]), (71, .iload_n 3, []), (72, .iconst 4, []), (73, .iload 6, []), (75, .imul, []), (76, .iadd, []), (77, .istore 7, []), (79, .iload_n 3, [])],
  [(80, .ifCond .lt 22, [102]), (83, .iload 7, []), (85, .iload_n 3, []), (86, .if_icmp .lt 16, [102]), (89, .iload 7, []), (91, .aload_n 0, []), (92, .getfield 150, [12, 56, 0, 0, 1392]), (95, .iload_n 1, [])],
  [(96, .iaload, []), (97, .iconst 4, []), (98, .isub, []), (99, .if_icmp .le 6, [105]), (102, .bipush (-12), []), (104, .ireturn, []), (105, .bipush 40, []), (107, .iload_n 1, []), (108, .imul, []), (109, .iload 7, []), (111, .iadd, [])],
  [(112, .istore 8, []), (114, .iload 5, []), (116, .aload_n 0, []), (117, .aload_n 0, []), (118, .getfield 153, [12, 57, 0, 0, 1393]), (121, .iload 8, []), (123, .iaload, []), (124, .aload_n 0, []), (125, .getfield 153, [12, 57, 0, 0, 1393])],
  [(128, .iload 8, []), (130, .iconst 1, []), (131, .iadd, []), (132, .iaload, []), (133, .aload_n 0, []), (134, .getfield 153, [12, 57, 0, 0, 1393]), (137, .iload 8, []), (139, .iconst 2, []), (140, .iadd, []), (141, .iaload, []), (142, .aload_n 0, []), (143, .getfield 153, [12, 57, 0, 0, 1393])],
  [(146, .iload 8, []), (148, .iconst 3, []), (149, .iadd, []), (150, .iaload, []), (151, .invokevirtual 355, [124, 0, 4, 12, 1879]), (154, .ifCond .lt 7, [161]), (157, .iconst 1, []), (158, .goto 4, [162])],
  [(161, .iconst 0, []), (162, .iadd, []), (163, .istore 5, []), (165, .iinc 6 1, []), (168, .goto (-104), [64]), (171, .iload 5, []), (173, .ireturn, [])]])
def mX12_isUnder : im_M := (yX12_isUnder, cX12_isUnder, 2, (some .boolean), 12, 2, true, [1886, 270, 1885], [[(0, .iload_n 1, []), (1, .ifCond .eq 33, [34]), (4, .iload_n 0, []), (5, .iload_n 1, []), (6, .if_icmp .eq 28, [34]), (9, .iload_n 1, []), (10, .iconst 1, []), (11, .if_icmp .ne 13, [24]), (14, .iload_n 0, []), (15, .iconst 3, [])],
  [(16, .if_icmp .eq 18, [34]), (19, .iload_n 0, []), (20, .iconst 5, []), (21, .if_icmp .eq 13, [34]), (24, .iload_n 1, []), (25, .iconst 2, []), (26, .if_icmp .ne 12, [38]), (29, .iload_n 0, []), (30, .iconst 4, []), (31, .if_icmp .ne 7, [38])],
  [(34, .iconst 1, []), (35, .goto 4, [39]), (38, .iconst 0, []), (39, .ireturn, [])]])
def mX12_taken : im_M := (yX12_taken, cX12_taken, 3, (some .int), 12, 2, false, [1883, 270, 1881, 1882], [[(0, .iload_n 2, []), (1, .iconst 0, []), (2, .iconst 5, []), (3, .invokestatic 196, [117, 0, 3, 12, 1559]), (6, .ifCond .ne 6, [12]), (9, .bipush (-2), []), (11, .ireturn, []), (12, .iload_n 1, []), (13, .invokestatic 207, [118, 0, 1, 12, 1556])],
  [(16, .ifCond .ne 6, [22]), (19, .bipush (-12), []), (21, .ireturn, []), (22, .aload_n 0, []), (23, .getfield 19, [12, 4, 0, 0, 1340]), (26, .iload_n 1, []), (27, .iaload, []), (28, .iconst (-1), []), (29, .if_icmp .ne 19, [48])],
  [(32, .iload_n 1, []), (33, .aload_n 0, []), (34, .getfield 34, [12, 9, 0, 0, 1345]), (37, .if_icmp .ne 8, [45]), (40, .bipush (-13), []), (42, .goto 5, [47]), (45, .bipush (-11), []), (47, .ireturn, [])],
  [(48, .aload_n 0, []), (49, .getfield 19, [12, 4, 0, 0, 1340]), (52, .iload_n 1, []), (53, .iaload, []), (54, .iload_n 2, []), (55, .invokestatic 359, [195, 0, 2, 12, 1884]), (58, .ifCond .eq 17, [75]), (61, .aload_n 0, []), (62, .getfield 22, [12, 5, 0, 0, 1341])],
  [(65, .aload_n 0, []), (66, .getfield 19, [12, 4, 0, 0, 1340]), (69, .iload_n 1, []), (70, .iaload, []), (71, .iaload, []), (72, .goto 5, [77]), (75, .bipush (-13), []), (77, .ireturn, [])]])
def mJ7_fill_53178 : im_M := (yJ7_fill_53178, cJ7_fill_53178, 4, none, 99, 2, true, [297, 259, 296], [[(0, .iconst 0, []), (1, .istore_n 2, []), (2, .aload_n 0, []), (3, .arraylength, []), (4, .istore_n 3, []), (5, .iload_n 2, []), (6, .iload_n 3, []), (7, .if_icmp .ge 13, [20]), (10, .aload_n 0, []), (11, .iload_n 2, []), (12, .iload_n 1, []), (13, .iastore, []), (14, .iinc 2 1, [])],
  [(17, .goto (-12), [5]), (20, .return_, [])]])
def mL_law : im_M := (yL_law, cL_law, 4, (some .boolean), 99, 1, true, [], [[(0, .new 7, [11, 0, 0, 0, 277]), (3, .dup, []), (4, .invokespecial 9, [60, 0, 0, 11, 279]), (7, .astore_n 1, []), (8, .new 10, [12, 0, 0, 0, 1318]), (11, .dup, []), (12, .invokespecial 12, [116, 0, 0, 12, 1320]), (15, .astore_n 2, [])],
  [(16, .iconst 0, []), (17, .istore_n 3, []), (18, .iload_n 3, []), (19, .aload_n 0, []), (20, .arraylength, []), (21, .bipush 6, []), (23, .isub, []), (24, .if_icmp .gt 1735, [1759]), (27, .aload_n 0, []), (28, .iload_n 3, []), (29, .iaload, []), (30, .bipush 63, [])],
  [(32, .iand, []), (33, .tableswitch 1720 0 44 #[195, 238, 291, 324, 367, 400, 423, 476, 519, 572, 635, 648, 671, 704, 727, 760, 793, 826, 859, 892, 925, 948, 971, 994, 1017, 1040, 1053, 1076, 1109, 1162, 1195, 1228, 1241, 1284, 1307, 1350, 1393, 1426, 1459, 1472, 1485, 1528, 1571, 1634, 1687], [1753, 0, 195])],
  [],
  [],
  [],
  [],
  [],
  [],
  [],
  [],
  [],
  [],
  [],
  [(228, .aload_n 1, []), (229, .aload_n 0, []), (230, .iload_n 3, []), (231, .iconst 1, []), (232, .iadd, []), (233, .iaload, []), (234, .aload_n 0, []), (235, .iload_n 3, []), (236, .iconst 2, []), (237, .iadd, []), (238, .iaload, []), (239, .aload_n 0, [])],
  [(240, .iload_n 3, []), (241, .iconst 3, []), (242, .iadd, []), (243, .iaload, []), (244, .invokevirtual 13, [61, 0, 3, 11, 786]), (247, .pop, []), (248, .aload_n 2, []), (249, .aload_n 0, []), (250, .iload_n 3, []), (251, .iconst 1, []), (252, .iadd, []), (253, .iaload, []), (254, .aload_n 0, []), (255, .iload_n 3, [])],
  [(256, .iconst 2, []), (257, .iadd, []), (258, .iaload, []), (259, .aload_n 0, []), (260, .iload_n 3, []), (261, .iconst 3, []), (262, .iadd, []), (263, .iaload, []), (264, .invokevirtual 17, [123, 0, 3, 12, 1552]), (267, .pop, []), (268, .goto 1485, [1753]), (271, .aload_n 1, [])],
  [(272, .aload_n 0, []), (273, .iload_n 3, []), (274, .iconst 1, []), (275, .iadd, []), (276, .iaload, []), (277, .aload_n 0, []), (278, .iload_n 3, []), (279, .iconst 2, []), (280, .iadd, []), (281, .iaload, []), (282, .aload_n 0, []), (283, .iload_n 3, []), (284, .iconst 3, []), (285, .iadd, []), (286, .iaload, []), (287, .aload_n 0, [])],
  [(288, .iload_n 3, []), (289, .iconst 4, []), (290, .iadd, []), (291, .iaload, []), (292, .invokevirtual 18, [62, 0, 4, 11, 796]), (295, .pop, []), (296, .aload_n 2, []), (297, .aload_n 0, []), (298, .iload_n 3, []), (299, .iconst 1, []), (300, .iadd, []), (301, .iaload, []), (302, .aload_n 0, []), (303, .iload_n 3, [])],
  [(304, .iconst 2, []), (305, .iadd, []), (306, .iaload, []), (307, .aload_n 0, []), (308, .iload_n 3, []), (309, .iconst 3, []), (310, .iadd, []), (311, .iaload, []), (312, .aload_n 0, []), (313, .iload_n 3, []), (314, .iconst 4, []), (315, .iadd, []), (316, .iaload, []), (317, .invokevirtual 22, [124, 0, 4, 12, 1562])],
  [(320, .pop, []), (321, .goto 1432, [1753]), (324, .aload_n 1, []), (325, .aload_n 0, []), (326, .iload_n 3, []), (327, .iconst 1, []), (328, .iadd, []), (329, .iaload, []), (330, .aload_n 0, []), (331, .iload_n 3, []), (332, .iconst 2, []), (333, .iadd, []), (334, .iaload, []), (335, .invokevirtual 23, [63, 0, 2, 11, 800])],
  [(338, .pop, []), (339, .aload_n 2, []), (340, .aload_n 0, []), (341, .iload_n 3, []), (342, .iconst 1, []), (343, .iadd, []), (344, .iaload, []), (345, .aload_n 0, []), (346, .iload_n 3, []), (347, .iconst 2, []), (348, .iadd, []), (349, .iaload, []), (350, .invokevirtual 27, [125, 0, 2, 12, 1566])],
  [(353, .pop, []), (354, .goto 1399, [1753]), (357, .aload_n 1, []), (358, .aload_n 0, []), (359, .iload_n 3, []), (360, .iconst 1, []), (361, .iadd, []), (362, .iaload, []), (363, .aload_n 0, []), (364, .iload_n 3, []), (365, .iconst 2, []), (366, .iadd, []), (367, .iaload, [])],
  [(368, .aload_n 0, []), (369, .iload_n 3, []), (370, .iconst 3, []), (371, .iadd, []), (372, .iaload, []), (373, .invokevirtual 28, [64, 0, 3, 11, 804]), (376, .pop, []), (377, .aload_n 2, []), (378, .aload_n 0, []), (379, .iload_n 3, []), (380, .iconst 1, []), (381, .iadd, []), (382, .iaload, []), (383, .aload_n 0, [])],
  [(384, .iload_n 3, []), (385, .iconst 2, []), (386, .iadd, []), (387, .iaload, []), (388, .aload_n 0, []), (389, .iload_n 3, []), (390, .iconst 3, []), (391, .iadd, []), (392, .iaload, []), (393, .invokevirtual 31, [126, 0, 3, 12, 1574]), (396, .pop, []), (397, .goto 1356, [1753])],
  [(400, .aload_n 1, []), (401, .aload_n 0, []), (402, .iload_n 3, []), (403, .iconst 1, []), (404, .iadd, []), (405, .iaload, []), (406, .aload_n 0, []), (407, .iload_n 3, []), (408, .iconst 2, []), (409, .iadd, []), (410, .iaload, []), (411, .invokevirtual 32, [65, 0, 2, 11, 811]), (414, .pop, []), (415, .aload_n 2, [])],
  [(416, .aload_n 0, []), (417, .iload_n 3, []), (418, .iconst 1, []), (419, .iadd, []), (420, .iaload, []), (421, .aload_n 0, []), (422, .iload_n 3, []), (423, .iconst 2, []), (424, .iadd, []), (425, .iaload, []), (426, .invokevirtual 35, [127, 0, 2, 12, 1581]), (429, .pop, []), (430, .goto 1323, [1753])],
  [(433, .aload_n 1, []), (434, .aload_n 0, []), (435, .iload_n 3, []), (436, .iconst 1, []), (437, .iadd, []), (438, .iaload, []), (439, .invokevirtual 36, [66, 0, 1, 11, 815]), (442, .pop, []), (443, .aload_n 2, []), (444, .aload_n 0, []), (445, .iload_n 3, []), (446, .iconst 1, []), (447, .iadd, [])],
  [(448, .iaload, []), (449, .invokevirtual 40, [128, 0, 1, 12, 1585]), (452, .pop, []), (453, .goto 1300, [1753]), (456, .aload_n 1, []), (457, .aload_n 0, []), (458, .iload_n 3, []), (459, .iconst 1, []), (460, .iadd, []), (461, .iaload, []), (462, .aload_n 0, []), (463, .iload_n 3, [])],
  [(464, .iconst 2, []), (465, .iadd, []), (466, .iaload, []), (467, .aload_n 0, []), (468, .iload_n 3, []), (469, .iconst 3, []), (470, .iadd, []), (471, .iaload, []), (472, .aload_n 0, []), (473, .iload_n 3, []), (474, .iconst 4, []), (475, .iadd, []), (476, .iaload, []), (477, .invokevirtual 41, [67, 0, 4, 11, 819])],
  [(480, .pop, []), (481, .aload_n 2, []), (482, .aload_n 0, []), (483, .iload_n 3, []), (484, .iconst 1, []), (485, .iadd, []), (486, .iaload, []), (487, .aload_n 0, []), (488, .iload_n 3, []), (489, .iconst 2, []), (490, .iadd, []), (491, .iaload, []), (492, .aload_n 0, []), (493, .iload_n 3, []), (494, .iconst 3, []), (495, .iadd, [])],
  [(496, .iaload, []), (497, .aload_n 0, []), (498, .iload_n 3, []), (499, .iconst 4, []), (500, .iadd, []), (501, .iaload, []), (502, .invokevirtual 44, [131, 0, 4, 12, 1589]), (505, .pop, []), (506, .goto 1247, [1753]), (509, .aload_n 1, []), (510, .aload_n 0, []), (511, .iload_n 3, [])],
  [(512, .iconst 1, []), (513, .iadd, []), (514, .iaload, []), (515, .aload_n 0, []), (516, .iload_n 3, []), (517, .iconst 2, []), (518, .iadd, []), (519, .iaload, []), (520, .aload_n 0, []), (521, .iload_n 3, []), (522, .iconst 3, []), (523, .iadd, []), (524, .iaload, []), (525, .invokevirtual 45, [69, 0, 3, 11, 842])],
  [(528, .pop, []), (529, .aload_n 2, []), (530, .aload_n 0, []), (531, .iload_n 3, []), (532, .iconst 1, []), (533, .iadd, []), (534, .iaload, []), (535, .aload_n 0, []), (536, .iload_n 3, []), (537, .iconst 2, []), (538, .iadd, []), (539, .iaload, []), (540, .aload_n 0, []), (541, .iload_n 3, []), (542, .iconst 3, []), (543, .iadd, [])],
  [(544, .iaload, []), (545, .invokevirtual 48, [132, 0, 3, 12, 1604]), (548, .pop, []), (549, .goto 1204, [1753]), (552, .aload_n 1, []), (553, .aload_n 0, []), (554, .iload_n 3, []), (555, .iconst 1, []), (556, .iadd, []), (557, .iaload, []), (558, .aload_n 0, []), (559, .iload_n 3, [])],
  [(560, .iconst 2, []), (561, .iadd, []), (562, .iaload, []), (563, .aload_n 0, []), (564, .iload_n 3, []), (565, .iconst 3, []), (566, .iadd, []), (567, .iaload, []), (568, .aload_n 0, []), (569, .iload_n 3, []), (570, .iconst 4, []), (571, .iadd, []), (572, .iaload, []), (573, .invokevirtual 49, [71, 0, 4, 11, 849])],
  [(576, .pop, []), (577, .aload_n 2, []), (578, .aload_n 0, []), (579, .iload_n 3, []), (580, .iconst 1, []), (581, .iadd, []), (582, .iaload, []), (583, .aload_n 0, []), (584, .iload_n 3, []), (585, .iconst 2, []), (586, .iadd, []), (587, .iaload, []), (588, .aload_n 0, []), (589, .iload_n 3, []), (590, .iconst 3, []), (591, .iadd, [])],
  [(592, .iaload, []), (593, .aload_n 0, []), (594, .iload_n 3, []), (595, .iconst 4, []), (596, .iadd, []), (597, .iaload, []), (598, .invokevirtual 52, [133, 0, 4, 12, 1608]), (601, .pop, []), (602, .goto 1151, [1753]), (605, .aload_n 1, []), (606, .aload_n 0, []), (607, .iload_n 3, [])],
  [(608, .iconst 1, []), (609, .iadd, []), (610, .iaload, []), (611, .i2l, []), (612, .bipush 32, []), (614, .lshl, []), (615, .aload_n 0, []), (616, .iload_n 3, []), (617, .iconst 2, []), (618, .iadd, []), (619, .iaload, []), (620, .i2l, []), (621, .ldc2_w 53, [14, 0, 0, 0, 1887])],
  [(624, .land, []), (625, .lor, []), (626, .aload_n 0, []), (627, .iload_n 3, []), (628, .iconst 3, []), (629, .iadd, []), (630, .iaload, []), (631, .invokevirtual 55, [72, 0, 2, 11, 853]), (634, .pop, []), (635, .aload_n 2, []), (636, .aload_n 0, []), (637, .iload_n 3, []), (638, .iconst 1, []), (639, .iadd, [])],
  [(640, .iaload, []), (641, .i2l, []), (642, .bipush 32, []), (644, .lshl, []), (645, .aload_n 0, []), (646, .iload_n 3, []), (647, .iconst 2, []), (648, .iadd, []), (649, .iaload, []), (650, .i2l, []), (651, .ldc2_w 53, [14, 0, 0, 0, 1887]), (654, .land, []), (655, .lor, [])],
  [(656, .aload_n 0, []), (657, .iload_n 3, []), (658, .iconst 3, []), (659, .iadd, []), (660, .iaload, []), (661, .invokevirtual 59, [134, 0, 2, 12, 1612]), (664, .pop, []), (665, .goto 1088, [1753]), (668, .aload_n 1, []), (669, .invokevirtual 60, [73, 0, 0, 11, 857])],
  [(672, .pop, []), (673, .aload_n 2, []), (674, .invokevirtual 64, [140, 0, 0, 12, 1617]), (677, .pop, []), (678, .goto 1075, [1753]), (681, .aload_n 1, []), (682, .aload_n 0, []), (683, .iload_n 3, []), (684, .iconst 1, []), (685, .iadd, []), (686, .iaload, []), (687, .invokevirtual 65, [74, 0, 1, 11, 953])],
  [(690, .pop, []), (691, .aload_n 2, []), (692, .aload_n 0, []), (693, .iload_n 3, []), (694, .iconst 1, []), (695, .iadd, []), (696, .iaload, []), (697, .invokevirtual 68, [141, 0, 1, 12, 1641]), (700, .pop, []), (701, .goto 1052, [1753])],
  [(704, .aload_n 1, []), (705, .aload_n 0, []), (706, .iload_n 3, []), (707, .iconst 1, []), (708, .iadd, []), (709, .iaload, []), (710, .aload_n 0, []), (711, .iload_n 3, []), (712, .iconst 2, []), (713, .iadd, []), (714, .iaload, []), (715, .invokevirtual 69, [75, 0, 2, 11, 957]), (718, .pop, []), (719, .aload_n 2, [])],
  [(720, .aload_n 0, []), (721, .iload_n 3, []), (722, .iconst 1, []), (723, .iadd, []), (724, .iaload, []), (725, .aload_n 0, []), (726, .iload_n 3, []), (727, .iconst 2, []), (728, .iadd, []), (729, .iaload, []), (730, .invokevirtual 72, [145, 0, 2, 12, 1645]), (733, .pop, []), (734, .goto 1019, [1753])],
  [(737, .aload_n 1, []), (738, .aload_n 0, []), (739, .iload_n 3, []), (740, .iconst 1, []), (741, .iadd, []), (742, .iaload, []), (743, .invokevirtual 73, [76, 0, 1, 11, 969]), (746, .pop, []), (747, .aload_n 2, []), (748, .aload_n 0, []), (749, .iload_n 3, []), (750, .iconst 1, []), (751, .iadd, [])],
  [(752, .iaload, []), (753, .invokevirtual 76, [155, 0, 1, 12, 1661]), (756, .pop, []), (757, .goto 996, [1753]), (760, .aload_n 1, []), (761, .aload_n 0, []), (762, .iload_n 3, []), (763, .iconst 1, []), (764, .iadd, []), (765, .iaload, []), (766, .aload_n 0, []), (767, .iload_n 3, [])],
  [(768, .iconst 2, []), (769, .iadd, []), (770, .iaload, []), (771, .invokevirtual 77, [77, 0, 2, 11, 1050]), (774, .pop, []), (775, .aload_n 2, []), (776, .aload_n 0, []), (777, .iload_n 3, []), (778, .iconst 1, []), (779, .iadd, []), (780, .iaload, []), (781, .aload_n 0, []), (782, .iload_n 3, []), (783, .iconst 2, [])],
  [(784, .iadd, []), (785, .iaload, []), (786, .invokevirtual 80, [156, 0, 2, 12, 1705]), (789, .pop, []), (790, .goto 963, [1753]), (793, .aload_n 1, []), (794, .aload_n 0, []), (795, .iload_n 3, []), (796, .iconst 1, []), (797, .iadd, []), (798, .iaload, []), (799, .aload_n 0, [])],
  [(800, .iload_n 3, []), (801, .iconst 2, []), (802, .iadd, []), (803, .iaload, []), (804, .invokevirtual 81, [78, 0, 2, 11, 1055]), (807, .aload_n 2, []), (808, .aload_n 0, []), (809, .iload_n 3, []), (810, .iconst 1, []), (811, .iadd, []), (812, .iaload, []), (813, .aload_n 0, []), (814, .iload_n 3, []), (815, .iconst 2, [])],
  [(816, .iadd, []), (817, .iaload, []), (818, .invokevirtual 84, [157, 0, 2, 12, 1709]), (821, .if_icmp .eq 932, [1753]), (824, .iconst 0, []), (825, .ireturn, []), (826, .aload_n 1, []), (827, .aload_n 0, []), (828, .iload_n 3, []), (829, .iconst 1, []), (830, .iadd, []), (831, .iaload, [])],
  [(832, .aload_n 0, []), (833, .iload_n 3, []), (834, .iconst 2, []), (835, .iadd, []), (836, .iaload, []), (837, .invokevirtual 85, [79, 0, 2, 11, 1063]), (840, .pop, []), (841, .aload_n 2, []), (842, .aload_n 0, []), (843, .iload_n 3, []), (844, .iconst 1, []), (845, .iadd, []), (846, .iaload, []), (847, .aload_n 0, [])],
  [(848, .iload_n 3, []), (849, .iconst 2, []), (850, .iadd, []), (851, .iaload, []), (852, .invokevirtual 88, [158, 0, 2, 12, 1713]), (855, .pop, []), (856, .goto 897, [1753]), (859, .aload_n 1, []), (860, .aload_n 0, []), (861, .iload_n 3, []), (862, .iconst 1, []), (863, .iadd, [])],
  [(864, .iaload, []), (865, .aload_n 0, []), (866, .iload_n 3, []), (867, .iconst 2, []), (868, .iadd, []), (869, .iaload, []), (870, .invokevirtual 89, [80, 0, 2, 11, 1069]), (873, .pop, []), (874, .aload_n 2, []), (875, .aload_n 0, []), (876, .iload_n 3, []), (877, .iconst 1, []), (878, .iadd, []), (879, .iaload, [])],
  [(880, .aload_n 0, []), (881, .iload_n 3, []), (882, .iconst 2, []), (883, .iadd, []), (884, .iaload, []), (885, .invokevirtual 92, [159, 0, 2, 12, 1717]), (888, .pop, []), (889, .goto 864, [1753]), (892, .aload_n 1, []), (893, .aload_n 0, []), (894, .iload_n 3, []), (895, .iconst 1, [])],
  [(896, .iadd, []), (897, .iaload, []), (898, .aload_n 0, []), (899, .iload_n 3, []), (900, .iconst 2, []), (901, .iadd, []), (902, .iaload, []), (903, .invokevirtual 93, [81, 0, 2, 11, 1073]), (906, .pop, []), (907, .aload_n 2, []), (908, .aload_n 0, []), (909, .iload_n 3, []), (910, .iconst 1, []), (911, .iadd, [])],
  [(912, .iaload, []), (913, .aload_n 0, []), (914, .iload_n 3, []), (915, .iconst 2, []), (916, .iadd, []), (917, .iaload, []), (918, .invokevirtual 96, [160, 0, 2, 12, 1721]), (921, .pop, []), (922, .goto 831, [1753]), (925, .aload_n 1, []), (926, .aload_n 0, []), (927, .iload_n 3, [])],
  [(928, .iconst 1, []), (929, .iadd, []), (930, .iaload, []), (931, .aload_n 0, []), (932, .iload_n 3, []), (933, .iconst 2, []), (934, .iadd, []), (935, .iaload, []), (936, .invokevirtual 97, [82, 0, 2, 11, 1077]), (939, .pop, []), (940, .aload_n 2, []), (941, .aload_n 0, []), (942, .iload_n 3, []), (943, .iconst 1, [])],
  [(944, .iadd, []), (945, .iaload, []), (946, .aload_n 0, []), (947, .iload_n 3, []), (948, .iconst 2, []), (949, .iadd, []), (950, .iaload, []), (951, .invokevirtual 100, [162, 0, 2, 12, 1725]), (954, .pop, []), (955, .goto 798, [1753]), (958, .aload_n 1, []), (959, .aload_n 0, [])],
  [(960, .iload_n 3, []), (961, .iconst 1, []), (962, .iadd, []), (963, .iaload, []), (964, .invokevirtual 101, [83, 0, 1, 11, 1081]), (967, .pop, []), (968, .aload_n 2, []), (969, .aload_n 0, []), (970, .iload_n 3, []), (971, .iconst 1, []), (972, .iadd, []), (973, .iaload, []), (974, .invokevirtual 104, [164, 0, 1, 12, 1733])],
  [(977, .pop, []), (978, .goto 775, [1753]), (981, .aload_n 1, []), (982, .aload_n 0, []), (983, .iload_n 3, []), (984, .iconst 1, []), (985, .iadd, []), (986, .iaload, []), (987, .invokevirtual 105, [84, 0, 1, 11, 1093]), (990, .pop, []), (991, .aload_n 2, [])],
  [(992, .aload_n 0, []), (993, .iload_n 3, []), (994, .iconst 1, []), (995, .iadd, []), (996, .iaload, []), (997, .invokevirtual 108, [165, 0, 1, 12, 1741]), (1000, .pop, []), (1001, .goto 752, [1753]), (1004, .aload_n 1, []), (1005, .aload_n 0, []), (1006, .iload_n 3, []), (1007, .iconst 1, [])],
  [(1008, .iadd, []), (1009, .iaload, []), (1010, .invokevirtual 109, [85, 0, 1, 11, 1098]), (1013, .pop, []), (1014, .aload_n 2, []), (1015, .aload_n 0, []), (1016, .iload_n 3, []), (1017, .iconst 1, []), (1018, .iadd, []), (1019, .iaload, []), (1020, .invokevirtual 112, [168, 0, 1, 12, 1745]), (1023, .pop, [])],
  [(1024, .goto 729, [1753]), (1027, .aload_n 1, []), (1028, .aload_n 0, []), (1029, .iload_n 3, []), (1030, .iconst 1, []), (1031, .iadd, []), (1032, .iaload, []), (1033, .invokevirtual 113, [87, 0, 1, 11, 1130]), (1036, .pop, []), (1037, .aload_n 2, []), (1038, .aload_n 0, []), (1039, .iload_n 3, [])],
  [(1040, .iconst 1, []), (1041, .iadd, []), (1042, .iaload, []), (1043, .invokevirtual 116, [169, 0, 1, 12, 1757]), (1046, .pop, []), (1047, .goto 706, [1753]), (1050, .aload_n 1, []), (1051, .aload_n 0, []), (1052, .iload_n 3, []), (1053, .iconst 1, []), (1054, .iadd, []), (1055, .iaload, [])],
  [(1056, .invokevirtual 117, [88, 0, 1, 11, 1134]), (1059, .pop, []), (1060, .aload_n 2, []), (1061, .aload_n 0, []), (1062, .iload_n 3, []), (1063, .iconst 1, []), (1064, .iadd, []), (1065, .iaload, []), (1066, .invokevirtual 120, [170, 0, 1, 12, 1761]), (1069, .pop, []), (1070, .goto 683, [1753])],
  [(1073, .aload_n 1, []), (1074, .invokevirtual 121, [89, 0, 0, 11, 1146]), (1077, .pop, []), (1078, .aload_n 2, []), (1079, .invokevirtual 124, [171, 0, 0, 12, 1765]), (1082, .pop, []), (1083, .goto 670, [1753]), (1086, .aload_n 1, []), (1087, .aload_n 0, [])],
  [(1088, .iload_n 3, []), (1089, .iconst 1, []), (1090, .iadd, []), (1091, .iaload, []), (1092, .invokevirtual 125, [90, 0, 1, 11, 1150]), (1095, .pop, []), (1096, .aload_n 2, []), (1097, .aload_n 0, []), (1098, .iload_n 3, []), (1099, .iconst 1, []), (1100, .iadd, []), (1101, .iaload, []), (1102, .invokevirtual 128, [173, 0, 1, 12, 1769])],
  [(1105, .pop, []), (1106, .goto 647, [1753]), (1109, .aload_n 1, []), (1110, .aload_n 0, []), (1111, .iload_n 3, []), (1112, .iconst 1, []), (1113, .iadd, []), (1114, .iaload, []), (1115, .aload_n 0, []), (1116, .iload_n 3, []), (1117, .iconst 2, []), (1118, .iadd, []), (1119, .iaload, [])],
  [(1120, .invokevirtual 129, [91, 0, 2, 11, 1154]), (1123, .pop, []), (1124, .aload_n 2, []), (1125, .aload_n 0, []), (1126, .iload_n 3, []), (1127, .iconst 1, []), (1128, .iadd, []), (1129, .iaload, []), (1130, .aload_n 0, []), (1131, .iload_n 3, []), (1132, .iconst 2, []), (1133, .iadd, []), (1134, .iaload, []), (1135, .invokevirtual 132, [174, 0, 2, 12, 1793])],
  [(1138, .pop, []), (1139, .goto 614, [1753]), (1142, .aload_n 1, []), (1143, .aload_n 0, []), (1144, .iload_n 3, []), (1145, .iconst 1, []), (1146, .iadd, []), (1147, .iaload, []), (1148, .aload_n 0, []), (1149, .iload_n 3, []), (1150, .iconst 2, []), (1151, .iadd, [])],
  [(1152, .iaload, []), (1153, .aload_n 0, []), (1154, .iload_n 3, []), (1155, .iconst 3, []), (1156, .iadd, []), (1157, .iaload, []), (1158, .aload_n 0, []), (1159, .iload_n 3, []), (1160, .iconst 4, []), (1161, .iadd, []), (1162, .iaload, []), (1163, .invokevirtual 133, [92, 0, 4, 11, 1158]), (1166, .pop, []), (1167, .aload_n 2, [])],
  [(1168, .aload_n 0, []), (1169, .iload_n 3, []), (1170, .iconst 1, []), (1171, .iadd, []), (1172, .iaload, []), (1173, .aload_n 0, []), (1174, .iload_n 3, []), (1175, .iconst 2, []), (1176, .iadd, []), (1177, .iaload, []), (1178, .aload_n 0, []), (1179, .iload_n 3, []), (1180, .iconst 3, []), (1181, .iadd, []), (1182, .iaload, []), (1183, .aload_n 0, [])],
  [(1184, .iload_n 3, []), (1185, .iconst 4, []), (1186, .iadd, []), (1187, .iaload, []), (1188, .invokevirtual 136, [175, 0, 4, 12, 1797]), (1191, .pop, []), (1192, .goto 561, [1753]), (1195, .aload_n 1, []), (1196, .aload_n 0, []), (1197, .iload_n 3, []), (1198, .iconst 1, []), (1199, .iadd, [])],
  [(1200, .iaload, []), (1201, .aload_n 0, []), (1202, .iload_n 3, []), (1203, .iconst 2, []), (1204, .iadd, []), (1205, .iaload, []), (1206, .invokevirtual 137, [93, 0, 2, 11, 1167]), (1209, .pop, []), (1210, .aload_n 2, []), (1211, .aload_n 0, []), (1212, .iload_n 3, []), (1213, .iconst 1, []), (1214, .iadd, []), (1215, .iaload, [])],
  [(1216, .aload_n 0, []), (1217, .iload_n 3, []), (1218, .iconst 2, []), (1219, .iadd, []), (1220, .iaload, []), (1221, .invokevirtual 140, [178, 0, 2, 12, 1801]), (1224, .pop, []), (1225, .goto 528, [1753]), (1228, .aload_n 1, []), (1229, .aload_n 0, []), (1230, .iload_n 3, []), (1231, .iconst 1, [])],
  [(1232, .iadd, []), (1233, .iaload, []), (1234, .aload_n 0, []), (1235, .iload_n 3, []), (1236, .iconst 2, []), (1237, .iadd, []), (1238, .iaload, []), (1239, .invokevirtual 141, [94, 0, 2, 11, 1184]), (1242, .pop2, []), (1243, .aload_n 2, []), (1244, .aload_n 0, []), (1245, .iload_n 3, []), (1246, .iconst 1, []), (1247, .iadd, [])],
  [(1248, .iaload, []), (1249, .aload_n 0, []), (1250, .iload_n 3, []), (1251, .iconst 2, []), (1252, .iadd, []), (1253, .iaload, []), (1254, .invokevirtual 145, [180, 0, 2, 12, 1813]), (1257, .pop2, []), (1258, .goto 495, [1753]), (1261, .aload_n 1, []), (1262, .invokevirtual 146, [95, 0, 0, 11, 1197])],
  [(1265, .pop, []), (1266, .aload_n 2, []), (1267, .invokevirtual 149, [181, 0, 0, 12, 1822]), (1270, .pop, []), (1271, .goto 482, [1753]), (1274, .aload_n 1, []), (1275, .aload_n 0, []), (1276, .iload_n 3, []), (1277, .iconst 1, []), (1278, .iadd, []), (1279, .iaload, [])],
  [(1280, .aload_n 0, []), (1281, .iload_n 3, []), (1282, .iconst 2, []), (1283, .iadd, []), (1284, .iaload, []), (1285, .aload_n 0, []), (1286, .iload_n 3, []), (1287, .iconst 3, []), (1288, .iadd, []), (1289, .iaload, []), (1290, .invokevirtual 150, [96, 0, 3, 11, 1206]), (1293, .pop, []), (1294, .aload_n 2, []), (1295, .aload_n 0, [])],
  [(1296, .iload_n 3, []), (1297, .iconst 1, []), (1298, .iadd, []), (1299, .iaload, []), (1300, .aload_n 0, []), (1301, .iload_n 3, []), (1302, .iconst 2, []), (1303, .iadd, []), (1304, .iaload, []), (1305, .aload_n 0, []), (1306, .iload_n 3, []), (1307, .iconst 3, []), (1308, .iadd, []), (1309, .iaload, []), (1310, .invokevirtual 153, [182, 0, 3, 12, 1826])],
  [(1313, .pop, []), (1314, .goto 439, [1753]), (1317, .aload_n 1, []), (1318, .aload_n 0, []), (1319, .iload_n 3, []), (1320, .iconst 1, []), (1321, .iadd, []), (1322, .iaload, []), (1323, .invokevirtual 154, [97, 0, 1, 11, 1210]), (1326, .pop, []), (1327, .aload_n 2, [])],
  [(1328, .aload_n 0, []), (1329, .iload_n 3, []), (1330, .iconst 1, []), (1331, .iadd, []), (1332, .iaload, []), (1333, .invokevirtual 157, [183, 0, 1, 12, 1830]), (1336, .pop, []), (1337, .goto 416, [1753]), (1340, .aload_n 1, []), (1341, .aload_n 0, []), (1342, .iload_n 3, []), (1343, .iconst 1, [])],
  [(1344, .iadd, []), (1345, .iaload, []), (1346, .aload_n 0, []), (1347, .iload_n 3, []), (1348, .iconst 2, []), (1349, .iadd, []), (1350, .iaload, []), (1351, .aload_n 0, []), (1352, .iload_n 3, []), (1353, .iconst 3, []), (1354, .iadd, []), (1355, .iaload, []), (1356, .invokevirtual 158, [98, 0, 3, 11, 1214]), (1359, .pop, [])],
  [(1360, .aload_n 2, []), (1361, .aload_n 0, []), (1362, .iload_n 3, []), (1363, .iconst 1, []), (1364, .iadd, []), (1365, .iaload, []), (1366, .aload_n 0, []), (1367, .iload_n 3, []), (1368, .iconst 2, []), (1369, .iadd, []), (1370, .iaload, []), (1371, .aload_n 0, []), (1372, .iload_n 3, []), (1373, .iconst 3, []), (1374, .iadd, []), (1375, .iaload, [])],
  [(1376, .invokevirtual 161, [184, 0, 3, 12, 1834]), (1379, .pop, []), (1380, .goto 373, [1753]), (1383, .aload_n 1, []), (1384, .aload_n 0, []), (1385, .iload_n 3, []), (1386, .iconst 1, []), (1387, .iadd, []), (1388, .iaload, []), (1389, .aload_n 0, []), (1390, .iload_n 3, []), (1391, .iconst 2, [])],
  [(1392, .iadd, []), (1393, .iaload, []), (1394, .aload_n 0, []), (1395, .iload_n 3, []), (1396, .iconst 3, []), (1397, .iadd, []), (1398, .iaload, []), (1399, .invokevirtual 162, [99, 0, 3, 11, 1226]), (1402, .pop, []), (1403, .aload_n 2, []), (1404, .aload_n 0, []), (1405, .iload_n 3, []), (1406, .iconst 1, []), (1407, .iadd, [])],
  [(1408, .iaload, []), (1409, .aload_n 0, []), (1410, .iload_n 3, []), (1411, .iconst 2, []), (1412, .iadd, []), (1413, .iaload, []), (1414, .aload_n 0, []), (1415, .iload_n 3, []), (1416, .iconst 3, []), (1417, .iadd, []), (1418, .iaload, []), (1419, .invokevirtual 165, [185, 0, 3, 12, 1838]), (1422, .pop, []), (1423, .goto 330, [1753])],
  [(1426, .aload_n 1, []), (1427, .aload_n 0, []), (1428, .iload_n 3, []), (1429, .iconst 1, []), (1430, .iadd, []), (1431, .iaload, []), (1432, .aload_n 0, []), (1433, .iload_n 3, []), (1434, .iconst 2, []), (1435, .iadd, []), (1436, .iaload, []), (1437, .invokevirtual 166, [100, 0, 2, 11, 1235])],
  [(1440, .pop2, []), (1441, .aload_n 2, []), (1442, .aload_n 0, []), (1443, .iload_n 3, []), (1444, .iconst 1, []), (1445, .iadd, []), (1446, .iaload, []), (1447, .aload_n 0, []), (1448, .iload_n 3, []), (1449, .iconst 2, []), (1450, .iadd, []), (1451, .iaload, []), (1452, .invokevirtual 169, [187, 0, 2, 12, 1843]), (1455, .pop2, [])],
  [(1456, .goto 297, [1753]), (1459, .aload_n 1, []), (1460, .aload_n 0, []), (1461, .iload_n 3, []), (1462, .iconst 1, []), (1463, .iadd, []), (1464, .iaload, []), (1465, .aload_n 0, []), (1466, .iload_n 3, []), (1467, .iconst 2, []), (1468, .iadd, []), (1469, .iaload, []), (1470, .invokevirtual 170, [101, 0, 2, 11, 1250])],
  [(1473, .pop, []), (1474, .aload_n 2, []), (1475, .aload_n 0, []), (1476, .iload_n 3, []), (1477, .iconst 1, []), (1478, .iadd, []), (1479, .iaload, []), (1480, .aload_n 0, []), (1481, .iload_n 3, []), (1482, .iconst 2, []), (1483, .iadd, []), (1484, .iaload, []), (1485, .invokevirtual 173, [188, 0, 2, 12, 1851])],
  [(1488, .pop, []), (1489, .goto 264, [1753]), (1492, .aload_n 1, []), (1493, .invokevirtual 174, [102, 0, 0, 11, 1254]), (1496, .pop, []), (1497, .aload_n 2, []), (1498, .invokevirtual 177, [189, 0, 0, 12, 1855]), (1501, .pop, []), (1502, .goto 251, [1753])],
  [(1505, .aload_n 1, []), (1506, .invokevirtual 178, [103, 0, 0, 11, 1258]), (1509, .pop, []), (1510, .aload_n 2, []), (1511, .invokevirtual 181, [190, 0, 0, 12, 1859]), (1514, .pop, []), (1515, .goto 238, [1753]), (1518, .aload_n 1, []), (1519, .aload_n 0, [])],
  [(1520, .iload_n 3, []), (1521, .iconst 1, []), (1522, .iadd, []), (1523, .iaload, []), (1524, .aload_n 0, []), (1525, .iload_n 3, []), (1526, .iconst 2, []), (1527, .iadd, []), (1528, .iaload, []), (1529, .aload_n 0, []), (1530, .iload_n 3, []), (1531, .iconst 3, []), (1532, .iadd, []), (1533, .iaload, []), (1534, .invokevirtual 182, [104, 0, 3, 11, 1262])],
  [(1537, .pop, []), (1538, .aload_n 2, []), (1539, .aload_n 0, []), (1540, .iload_n 3, []), (1541, .iconst 1, []), (1542, .iadd, []), (1543, .iaload, []), (1544, .aload_n 0, []), (1545, .iload_n 3, []), (1546, .iconst 2, []), (1547, .iadd, []), (1548, .iaload, []), (1549, .aload_n 0, []), (1550, .iload_n 3, []), (1551, .iconst 3, [])],
  [(1552, .iadd, []), (1553, .iaload, []), (1554, .invokevirtual 185, [191, 0, 3, 12, 1863]), (1557, .pop, []), (1558, .goto 195, [1753]), (1561, .aload_n 1, []), (1562, .aload_n 0, []), (1563, .iload_n 3, []), (1564, .iconst 1, []), (1565, .iadd, []), (1566, .iaload, []), (1567, .aload_n 0, [])],
  [(1568, .iload_n 3, []), (1569, .iconst 2, []), (1570, .iadd, []), (1571, .iaload, []), (1572, .aload_n 0, []), (1573, .iload_n 3, []), (1574, .iconst 3, []), (1575, .iadd, []), (1576, .iaload, []), (1577, .invokevirtual 186, [105, 0, 3, 11, 1283]), (1580, .pop, []), (1581, .aload_n 2, []), (1582, .aload_n 0, []), (1583, .iload_n 3, [])],
  [(1584, .iconst 1, []), (1585, .iadd, []), (1586, .iaload, []), (1587, .aload_n 0, []), (1588, .iload_n 3, []), (1589, .iconst 2, []), (1590, .iadd, []), (1591, .iaload, []), (1592, .aload_n 0, []), (1593, .iload_n 3, []), (1594, .iconst 3, []), (1595, .iadd, []), (1596, .iaload, []), (1597, .invokevirtual 189, [192, 0, 3, 12, 1867])],
  [(1600, .pop, []), (1601, .goto 152, [1753]), (1604, .aload_n 1, []), (1605, .aload_n 0, []), (1606, .iload_n 3, []), (1607, .iconst 1, []), (1608, .iadd, []), (1609, .iaload, []), (1610, .aload_n 0, []), (1611, .iload_n 3, []), (1612, .iconst 2, []), (1613, .iadd, []), (1614, .iaload, []), (1615, .aload_n 0, [])],
  [(1616, .iload_n 3, []), (1617, .iconst 3, []), (1618, .iadd, []), (1619, .iaload, []), (1620, .aload_n 0, []), (1621, .iload_n 3, []), (1622, .iconst 4, []), (1623, .iadd, []), (1624, .iaload, []), (1625, .aload_n 0, []), (1626, .iload_n 3, []), (1627, .iconst 5, []), (1628, .iadd, []), (1629, .iaload, []), (1630, .invokevirtual 190, [106, 0, 5, 11, 1291])],
  [(1633, .pop, []), (1634, .aload_n 2, []), (1635, .aload_n 0, []), (1636, .iload_n 3, []), (1637, .iconst 1, []), (1638, .iadd, []), (1639, .iaload, []), (1640, .aload_n 0, []), (1641, .iload_n 3, []), (1642, .iconst 2, []), (1643, .iadd, []), (1644, .iaload, []), (1645, .aload_n 0, []), (1646, .iload_n 3, []), (1647, .iconst 3, [])],
  [(1648, .iadd, []), (1649, .iaload, []), (1650, .aload_n 0, []), (1651, .iload_n 3, []), (1652, .iconst 4, []), (1653, .iadd, []), (1654, .iaload, []), (1655, .aload_n 0, []), (1656, .iload_n 3, []), (1657, .iconst 5, []), (1658, .iadd, []), (1659, .iaload, []), (1660, .invokevirtual 194, [193, 0, 5, 12, 1871]), (1663, .pop, [])],
  [(1664, .goto 89, [1753]), (1667, .aload_n 1, []), (1668, .aload_n 0, []), (1669, .iload_n 3, []), (1670, .iconst 1, []), (1671, .iadd, []), (1672, .iaload, []), (1673, .aload_n 0, []), (1674, .iload_n 3, []), (1675, .iconst 2, []), (1676, .iadd, []), (1677, .iaload, []), (1678, .aload_n 0, []), (1679, .iload_n 3, [])],
  [(1680, .iconst 3, []), (1681, .iadd, []), (1682, .iaload, []), (1683, .aload_n 0, []), (1684, .iload_n 3, []), (1685, .iconst 4, []), (1686, .iadd, []), (1687, .iaload, []), (1688, .invokevirtual 195, [107, 0, 4, 11, 1300]), (1691, .pop, []), (1692, .aload_n 2, []), (1693, .aload_n 0, []), (1694, .iload_n 3, []), (1695, .iconst 1, [])],
  [(1696, .iadd, []), (1697, .iaload, []), (1698, .aload_n 0, []), (1699, .iload_n 3, []), (1700, .iconst 2, []), (1701, .iadd, []), (1702, .iaload, []), (1703, .aload_n 0, []), (1704, .iload_n 3, []), (1705, .iconst 3, []), (1706, .iadd, []), (1707, .iaload, []), (1708, .aload_n 0, []), (1709, .iload_n 3, []), (1710, .iconst 4, []), (1711, .iadd, [])],
  [(1712, .iaload, []), (1713, .invokevirtual 198, [194, 0, 4, 12, 1875]), (1716, .pop, []), (1717, .goto 36, [1753]), (1720, .aload_n 1, []), (1721, .aload_n 0, []), (1722, .iload_n 3, []), (1723, .iconst 1, []), (1724, .iadd, []), (1725, .iaload, []), (1726, .aload_n 0, []), (1727, .iload_n 3, [])],
  [(1728, .iconst 2, []), (1729, .iadd, []), (1730, .iaload, []), (1731, .invokevirtual 199, [109, 0, 2, 11, 1309]), (1734, .pop, []), (1735, .aload_n 2, []), (1736, .aload_n 0, []), (1737, .iload_n 3, []), (1738, .iconst 1, []), (1739, .iadd, []), (1740, .iaload, []), (1741, .aload_n 0, []), (1742, .iload_n 3, []), (1743, .iconst 2, [])],
  [(1744, .iadd, []), (1745, .iaload, []), (1746, .invokevirtual 202, [196, 0, 2, 12, 1880]), (1749, .pop, []), (1750, .goto 3, [1753]), (1753, .iinc 3 6, []), (1756, .goto (-1738), [18]), (1759, .iconst 1, [])],
  [(1760, .ireturn, [])]])
def im_ms : List im_M := [mX0_init, mX0_setHands, mX0_weakOf, mX0_said, mX0_passes, mX0_cellByDay, mX0_livingKin, mX0_playDay, mX0_workRow, mX0_passOn, mX0_bring, mX0_driveRail, mX0_wearOf, mX0_wearsOut, mX0_fall, mX0_heal, mX0_daysUntilFall, mX1_init, mX1_holds, mX2_init, mX2_ownerOf, mX2_isKnown, mX3_init, mX3_find, mX3_countLate, mX3_keep, mX3_goOn, mX3_swap, mX4_init, mX4_begin, mX4_isOver, mX4_leftOver, mX4_find, mX4_chance, mX4_likeliest, mX5_init, mX6_init, mX6_findBest, mX6_choose, mX7_init, mX8_init, mX8_isMissing, mX8_put, mX8_holds, mX8_hasAheadOf, mX9_init, mX9_become, mX9_allLoads, mX9_allDead, mX9_allHurt, mX10_init, mX10_readInto, mX10_readLine, mX10_readIf, mX10_readTests, mX10_readTest, mX10_readSign, mX10_readNumber, mX10_readWord, mX10_byteAt, mX11_init, mX11_ruin, mX11_person, mX11_moves, mX11_wall, mX11_weather, mX11_tip, mX11_row, mX11_refusalOfHands, mX11_rail, mX11_isWay, mX11_room, mX11_feed, mX11_order, mX11_force, mX11_says, mX11_run, mX11_cellTold, mX11_kindTold, mX11_personTold, mX11_rowTold, mX11_railTold, mX11_wallTold, mX11_count, mX11_pull, mX11_pulls, mX11_areWallsToPull, mX11_pullTold, mX11_mends, mX11_mendTold, mX11_mend, mX11_roomTold, mX11_raid, mX11_probe, mX11_likely, mX11_next, mX11_paper, mX11_burn, mX11_owner, mX11_heirs, mX11_beside, mX11_clear, mX11_image, mX11_back, mX11_sheet, mX11_cell, mX11_copy, mX11_people, mX11_personFrom, mX11_taken, mX11_within, mX11_between, mX11_cellOnSide, mX11_areBeside, mX11_isOfKind, mX11_greatestDivisor, mX12_init, mX12_in, mX12_isCell, mX12_isPerson, mX12_nextTo, mX12_areBeside, mX12_weakOf, mX12_ruin, mX12_person, mX12_moves, mX12_wall, mX12_weather, mX12_tip, mX12_isInOther, mX12_barred, mX12_row, mX12_rail, mX12_room, mX12_feed, mX12_byteHere, mX12_wordOf, mX12_number, mX12_test, mX12_line, mX12_order, mX12_force, mX12_fieldOf, mX12_holds, mX12_saysOf, mX12_says, mX12_worksOf, mX12_passes, mX12_comes, mX12_goesRow, mX12_goesRail, mX12_isAt, mX12_falls, mX12_wears, mX12_goes, mX12_run, mX12_cellTold, mX12_kindTold, mX12_personTold, mX12_rowTold, mX12_railTold, mX12_isWall, mX12_wallTold, mX12_sum, mX12_count, mX12_pull, mX12_late, mX12_nextOrder, mX12_pulls, mX12_pullTold, mX12_mends, mX12_mendTold, mX12_isRoom, mX12_mend, mX12_roomTold, mX12_raid, mX12_isOver, mX12_leftOver, mX12_probe, mX12_likelyIn, mX12_likely, mX12_next, mX12_paper, mX12_burn, mX12_owner, mX12_heirs, mX12_lays, mX12_beside, mX12_clear, mX12_image, mX12_back, mX12_sheet, mX12_cell, mX12_copy, mX12_people, mX12_isUnder, mX12_taken, mJ7_fill_53178]
end
section
/-! WHAT THE INTERPRETER'S CELLS STAND FOR on the machine; the words that a row of the tables must have; the rows of single instructions -/
def im_v (ad : Nat → Nat) (v : Value) : Value := match v with
  | .ref r => .ref (ad r)
  | v => v
def im_e (ca : Nat → ClassId) (ad : Nat → Nat) (x : im_E) : va_E := match x with
  | .inl (t, .inl l) => .inl (ca t, l.length, .inl (fun j => l.getD j 0))
  | .inl (t, .inr (.inl l)) => .inl (ca t, l.length, .inr (.inl (fun j => l.getD j 0)))
  | .inl (t, .inr (.inr l)) => .inl (ca t, l.length, .inr (.inr (.inr (.inr (fun j => (l.getD j none).map ad)))))
  | .inr (ci, fs) => .inr (ci, fs.map (im_v ad))
def im_w (ca : Nat → ClassId) (ad : Nat → Nat) (h : im_H) : va_W := h.mapIdx fun i x => (ad (16 + i), im_e ca ad x)
abbrev im_up (base : Nat) : Nat → Prop := fun q => base ≤ q
def im_tys (ca : Nat → ClassId) : List (ClassId × FieldType) := [(ca 0, .int), (ca 1, .boolean), (ca 2, .long), (ca 3, .object RX7), (ca 4, .object RX5), (ca 5, .object RX1), (ca 6, .object RX8), (ca 7, .array .int)]
theorem im_w_get (ca : Nat → ClassId) (ad : Nat → Nat) (h : im_H) (i : Nat) : (im_w ca ad h)[i]? = (h[i]?).map (fun x => (ad (16 + i), im_e ca ad x)) := by
  simp [im_w, List.getElem?_mapIdx]
theorem im_w_at {ca : Nat → ClassId} {ad : Nat → Nat} {h : im_H} {i : Nat} {x : im_E} (hx : h[i]? = some x) : (im_w ca ad h)[i]? = some (ad (16 + i), im_e ca ad x) := by
  rw [im_w_get, hx]; rfl
theorem im_w_set {ca : Nat → ClassId} {ad : Nat → Nat} {h : im_H} {i : Nat} {x : im_E} : (im_w ca ad h).set i (ad (16 + i), im_e ca ad x) = im_w ca ad (h.set i x) := by
  apply List.ext_getElem?
  intro j
  rw [im_w_get, List.getElem?_set, List.getElem?_set, im_w_get]
  by_cases hj : i = j
  · subst hj
    simp only [if_true]
    by_cases hl : i < h.length
    · simp [hl, im_w]
    · simp [hl, im_w]
  · simp [hj]
theorem im_w_app (ca : Nat → ClassId) (ad : Nat → Nat) (h : im_H) (x : im_E) : im_w ca ad (h ++ [x]) = im_w ca ad h ++ [(ad (16 + h.length), im_e ca ad x)] := by
  simp [im_w, List.mapIdx_append]
theorem im_w_D {ca : Nat → ClassId} {ad : Nat → Nat} {base : Nat} (had : ∀ i, ad (16 + i) = base + i) (h : im_H) : va_D (im_up base) (im_w ca ad h) := by
  refine ⟨fun i j p q hi hj e => ?_, fun k q hk => ?_⟩
  · rw [im_w_get] at hi hj
    obtain ⟨x, -, rfl⟩ := Option.map_eq_some_iff.mp hi
    obtain ⟨y, -, rfl⟩ := Option.map_eq_some_iff.mp hj
    have e2 : ad (16 + i) = ad (16 + j) := e
    rw [had, had] at e2
    omega
  · rw [im_w_get] at hk
    obtain ⟨x, -, rfl⟩ := Option.map_eq_some_iff.mp hk
    show base ≤ ad (16 + k)
    rw [had]; omega
theorem im_cat_v (ad : Nat → Nat) (v : Value) : (im_v ad v).category = v.category := by cases v <;> rfl
theorem im_cat_l (ad : Nat → Nat) (st : List Value) : ((st.map (im_v ad)).map fun v => v.category).sum = (st.map fun v => v.category).sum := by
  rw [List.map_map]
  congr 1
  exact List.map_congr_left (fun v _ => im_cat_v ad v)
theorem im_cat_le {ad : Nat → Nat} {st : List Value} (h : im_cat st = true) : ((st.map (im_v ad)).map fun v => v.category).sum ≤ 8 := by
  rw [im_cat_l]; exact of_decide_eq_true h
-- locals
abbrev im_ml (ad : Nat → Nat) (lv : im_L) : List (Nat × Value) := lv.map fun q => (q.1, im_v ad q.2)
theorem im_lk_mem {lv : im_L} {k : Nat} {v : Value} (h : im_lk lv k = some v) : (k, v) ∈ lv := by
  unfold im_lk at h
  obtain ⟨q, hq, rfl⟩ := Option.map_eq_some_iff.mp h
  have h1 := List.mem_of_find?_eq_some hq
  have h2 : (q.1 == k) = true := List.find?_some (p := fun q : Nat × Value => q.1 == k) hq
  have h3 : q.1 = k := by simpa using h2
  subst h3
  exact h1
theorem im_lk_at {ad : Nat → Nat} {lv : im_L} {k nL : Nat} {v : Value} {ls : Array Slot} (h : im_lk lv k = some v) (hl : lv_has ls nL (im_ml ad lv)) : ls[k]? = some (.val (im_v ad v)) :=
  hl.2.2 (k, im_v ad v) (List.mem_map.mpr ⟨(k, v), im_lk_mem h, rfl⟩)
theorem im_pt_ml (ad : Nat → Nat) (lv : im_L) (k : Nat) (v : Value) : (k, im_v ad v) :: (im_ml ad lv).filter (fun q => !(q.1 == k) && !(q.1 + 1 == k && q.2.category == 2)) = im_ml ad (im_pt lv k v) := by
  simp only [im_ml, im_pt, List.map_cons, List.filter_map]
  congr 2
  apply List.filter_congr
  intro q _
  simp [Function.comp, im_cat_v]
-- the stack
theorem im_1i_eq {st : List Value} {q : Int32 × List Value} (h : im_1i st = some q) : st = .int q.1 :: q.2 := by
  unfold im_1i at h
  split at h
  · cases h; rfl
  · cases h
theorem im_1l_eq {st : List Value} {q : Int64 × List Value} (h : im_1l st = some q) : st = .long q.1 :: q.2 := by
  unfold im_1l at h
  split at h
  · cases h; rfl
  · cases h
theorem im_1r_eq {st : List Value} {q : Nat × List Value} (h : im_1r st = some q) : st = .ref q.1 :: q.2 := by
  unfold im_1r at h
  split at h
  · cases h; rfl
  · cases h
theorem im_pop_eq {st : List Value} {q : Value × List Value} (h : im_pop st = some q) : st = q.1 :: q.2 := by
  unfold im_pop at h
  split at h
  · cases h; rfl
  · cases h
theorem im_1v_eq {v : Value} {x : Int32} (h : im_1v v = some x) : v = .int x := by
  unfold im_1v at h
  split at h
  · cases h; rfl
  · cases h
theorem im_isI_eq {v : Value} (h : im_isI v = true) : ∃ x, v = .int x := by
  unfold im_isI at h
  split at h
  · exact ⟨_, rfl⟩
  · cases h
theorem im_isL_eq {v : Value} (h : im_isL v = true) : ∃ x, v = .long x := by
  unfold im_isL at h
  split at h
  · exact ⟨_, rfl⟩
  · cases h
theorem im_isR_eq {v : Value} (h : im_isR v = true) : ∃ x, v = .ref x := by
  unfold im_isR at h
  split at h
  · exact ⟨_, rfl⟩
  · cases h
theorem im_bd {α β : Type} {o : Option α} {f : α → Option β} {b : β} (h : o.bind f = some b) : ∃ a, o = some a ∧ f a = some b := Option.bind_eq_some_iff.mp h
theorem im_ite {α : Type} {c : Prop} (d : Decidable c) {x : Option α} {b : α} (h : (@ite _ c d x none) = some b) : c ∧ x = some b := by
  by_cases hc : c
  · rw [if_pos hc] at h; exact ⟨hc, h⟩
  · rw [if_neg hc] at h; cases h
theorem im_nx_eq {pc : Nat} {lv : im_L} {st : List Value} {h : im_H} {c2 : im_C} (e : im_nx pc lv st h = some (.inl c2)) : c2 = (pc, lv, st, h) := by
  unfold im_nx at e
  cases e; rfl
theorem im_in_vp {i : Int32} {n : Nat} (h : im_in i n = true) : vp_in i n := by
  simp only [im_in, Bool.not_eq_true', Bool.or_eq_false_iff, decide_eq_false_iff_not] at h
  exact fun q => q.elim h.1 h.2
-- cells
theorem im_obj_eq {h : im_H} {r ci : Nat} {fs : List Value} (e : im_obj h r ci = some fs) : ∃ i, r = 16 + i ∧ h[i]? = some (.inr (ci, fs)) := by
  unfold im_obj at e
  split at e
  · rename_i hr
    split at e
    · rename_i c f hq
      split at e
      · rename_i hc
        cases e
        subst hc
        exact ⟨r - 16, by omega, hq⟩
      · cases e
    · cases e
  · cases e
theorem im_ia_eq {h : im_H} {r t : Nat} {l : List Int32} (e : im_ia h r t = some l) : ∃ i, r = 16 + i ∧ h[i]? = some (.inl (t, .inl l)) := by
  unfold im_ia at e
  split at e
  · rename_i hr
    split at e
    · rename_i c f hq
      split at e
      · rename_i hc
        cases e
        subst hc
        exact ⟨r - 16, by omega, hq⟩
      · cases e
    · cases e
  · cases e
theorem im_la_eq {h : im_H} {r : Nat} {l : List Int64} (e : im_la h r = some l) : ∃ i, r = 16 + i ∧ h[i]? = some (.inl (2, .inr (.inl l))) := by
  unfold im_la at e
  split at e
  · rename_i hr
    split at e
    · rename_i c f hq
      split at e
      · rename_i hc
        cases e
        subst hc
        exact ⟨r - 16, by omega, hq⟩
      · cases e
    · cases e
  · cases e
theorem im_qa_eq {h : im_H} {r : Nat} {q : Nat × List (Option Nat)} (e : im_qa h r = some q) : ∃ i, r = 16 + i ∧ h[i]? = some (.inl (q.1, .inr (.inr q.2))) := by
  unfold im_qa at e
  split at e
  · rename_i hr
    split at e
    · rename_i hq
      cases e
      exact ⟨r - 16, by omega, hq⟩
    · cases e
  · cases e
-- the room that cells take
theorem im_sl_set {h : im_H} {i : Nat} {x y : im_E} (hx : h[i]? = some x) (e : im_sl1 y = im_sl1 x) : im_sl (h.set i y) = im_sl h := by
  unfold im_sl
  induction h generalizing i with
  | nil => simp at hx
  | cons a t ih =>
    cases i with
    | zero =>
      simp only [List.getElem?_cons_zero, Option.some.injEq] at hx
      subst hx
      simp [e]
    | succ i =>
      simp only [List.getElem?_cons_succ] at hx
      simp only [List.set_cons_succ, List.map_cons, List.sum_cons, ih hx]
theorem im_sl_app (h k : im_H) : im_sl (h ++ k) = im_sl h + im_sl k := by simp [im_sl]
end
section
/-! THE WORDS that stand for all methods, the facts that stand for all states, what a row of the tables must meet -/
def im_ws : List Cond := lw_tbl.filter goodWord
def im_nw : List Cond := [(Cond.methodLinkNest "RubbleCity$City" (70 : Nat) ({ cls := "RubbleCity$Row", name := "<init>", desc := "()V" } : MethodName) "RubbleCity"),
  (Cond.methodLinkNest "RubbleCity$City" (71 : Nat) ({ cls := "RubbleCity$Rail", name := "<init>", desc := "()V" } : MethodName) "RubbleCity"),
  (Cond.methodLinkNest "RubbleCity" (35 : Nat) ({ cls := "RubbleCity$Tape", name := "<init>", desc := "()V" } : MethodName) "RubbleCity"),
  (Cond.methodLinkNest "RubbleCity" (55 : Nat) ({ cls := "RubbleCity$Pulls", name := "<init>", desc := "()V" } : MethodName) "RubbleCity"),
  (Cond.methodLinkNest "RubbleCity" (62 : Nat) ({ cls := "RubbleCity$Rooms", name := "<init>", desc := "()V" } : MethodName) "RubbleCity"),
  (Cond.methodLinkNest "RubbleCity" (69 : Nat) ({ cls := "RubbleCity$Raids", name := "<init>", desc := "()V" } : MethodName) "RubbleCity"),
  (Cond.methodLinkNest "RubbleCity" (87 : Nat) ({ cls := "RubbleCity$Order", name := "<init>", desc := "()V" } : MethodName) "RubbleCity"),
  (Cond.methodLinkNest "RubbleCity" (88 : Nat) ({ cls := "RubbleCity$Sheet", name := "<init>", desc := "()V" } : MethodName) "RubbleCity"),
  (Cond.fieldLinkNest "RubbleCity$City" (180 : Nat) "RubbleCity" "BRICKS_OF" "[I" "RubbleCity"),
  (Cond.fieldLinkNest "RubbleCity$City" (183 : Nat) "RubbleCity" "BEAMS_OF" "[I" "RubbleCity"),
  (Cond.fieldLinkNest "RubbleCity$City" (186 : Nat) "RubbleCity" "IRON_OF" "[I" "RubbleCity"),
  (Cond.fieldLinkNest "RubbleCity$City" (84 : Nat) "RubbleCity" "WEAK_OF" "[I" "RubbleCity"),
  (Cond.methodLinkNest "RubbleCity$Raids" (34 : Nat) ({ cls := "RubbleCity", name := "cellOnSide", desc := "(II)I" } : MethodName) "RubbleCity")]
def im_sn : List String := ["BRICKS_OF", "BEAMS_OF", "IRON_OF", "WEAK_OF", "KIND_ABOVE"]
def im_AOA (U : State) : Prop := (Cond.arrayOver (.array .int)).before #[] U = true
/-- what stands all the time: the classes, the nest's links, the arrays' classes, the statics, the texts -/
def im_SF (D : va_G) (ca : Nat → ClassId) (ad : Nat → Nat) (base : Nat) (K : im_K) (U : State) (H : Heap) : Prop :=
  va_K D vwCl (im_tys ca) U ∧ (∀ w ∈ im_nw, va_Nw w U) ∧ (va_AO RX7 U ∧ va_AO RX5 U ∧ va_AO RX1 U ∧ va_AO RX8 U ∧ im_AOA U) ∧
  (∀ (k : Nat) (n : String), im_sn[k]? = some n → va_Z "RubbleCity" n "[I" (.ref (ad k)) (im_up base) U H) ∧
  (∀ (k : Nat) (l : List Int32), K.1[k]? = some l → va_T .int (ad k) l.length (fun j => .int (l.getD j 0)) (im_up base) U H) ∧
  (∀ (k : Nat) (x : String × Nat × String), im_str[k]? = some x → vk_R x.1 x.2.1 x.2.2 (ad (6 + k)) U) ∧
  vk_S 4 (im_txt.map List.length) im_txt (fun k => ad (6 + k)) (fun k => ad (10 + k)) (im_up base) U H ∧
  va_Z "java/lang/String" "COMPACT_STRINGS" "Z" (.int 1) (im_up base) U H ∧
  va_Zq "jdk/internal/util/Preconditions" "SIOOBE_FORMATTER" "Ljava/util/function/BiFunction;" (im_up base) U H
/-- the length of an instruction (of a switch: as told) -/
def im_ln (i : Instr) (w : Nat) : Nat := match i with
  | .bipush _ | .iload _ | .istore _ | .aload _ | .astore _ | .newarray _ | .ldc _ => 2
  | .sipush _ | .getfield _ | .putfield _ | .getstatic _ | .goto _ | .ifCond _ _ | .if_icmp _ _ | .ifnonnull _ | .iinc _ _ | .ldc2_w _ | .new _ | .anewarray _ | .invokestatic _ | .invokevirtual _ | .invokespecial _ => 3
  | .multianewarray _ _ => 4
  | .tableswitch _ _ _ _ | .lookupswitch _ _ => w
  | _ => 1
/-- the words by chunks of at most 256: place x is chunk x / 256, place x % 256 there -/
def im_wl : List (List Cond) := [k2_sels lw_privs, tables_1_1, tables_1_2, tables_1_3, tables_1_4, tables_1_5, tables_1_6, tables_1_7]
def im_tw (x : Nat) (c : Cond) : Bool := decide ((im_wl.getD (x / 256) [])[x % 256]? = some c) && goodWord c
def im_cn (t : Nat) : String := match t with
  | 3 => RX7
  | 4 => RX5
  | 5 => RX1
  | 6 => RX8
  | _ => ""
def im_ty (t : Nat) : FieldType := match t with
  | 0 => .int
  | 1 => .boolean
  | _ => .long
def im_ok2 (ms : List im_M) (M : im_M) (i : Instr) (a b w z x pc : Nat) : Bool := match i with
  | .goto off => decide ((pc : Int) + off = (a : Int))
  | .ifnonnull off => decide ((pc : Int) + off = (a : Int))
  | .ifCond _ off => decide ((pc : Int) + off = (a : Int))
  | .if_icmp _ off => decide ((pc : Int) + off = (a : Int))
  | .getfield idx => match vwCl[a]? with
    | some r => decide (b < r.2.2) && im_tw x (.fieldLink M.1.cls idx (r.2.1 b).1 (r.2.1 b).2.1 (r.2.1 b).2.2.1)
    | none => false
  | .putfield idx => match vwCl[a]? with
    | some r => decide (b < r.2.2) && im_tw x (.fieldLink M.1.cls idx (r.2.1 b).1 (r.2.1 b).2.1 (r.2.1 b).2.2.1) && (!(r.2.1 b).2.2.2 || (decide (M.1.name = "<init>") && decide ((r.2.1 b).1 = M.1.cls)))
    | none => false
  | .getstatic idx => match im_sn[a]? with
    | some n => if b = 0 then im_tw x (.fieldLink M.1.cls idx "RubbleCity" n "[I") else decide (Cond.fieldLinkNest M.1.cls idx "RubbleCity" n "[I" "RubbleCity" ∈ im_nw)
    | none => false
  | .new idx => match vwCl[a]? with
    | some r => im_tw x (.classLink M.1.cls idx r.1)
    | none => false
  | .newarray t => decide (a < 3) && decide (newarray.typeOf t = im_ty a)
  | .anewarray idx => decide (3 ≤ a) && decide (a < 7) && im_tw x (.classLink M.1.cls idx (im_cn a))
  | .multianewarray idx n => decide (n = 2) && im_tw x (.classLink M.1.cls idx "[[I")
  | .ldc idx => match im_str[a]? with
    | some t => decide (M.1.cls = t.1) && decide (idx = t.2.1)
    | none => false
  | .ldc2_w idx => match im_lc[a]? with
    | some v => im_tw x (.constantLong M.1.cls idx v)
    | none => false
  | .invokevirtual idx => match b with
    | 0 => match ms[a]? with
      | some N => !N.2.2.2.2.2.2.1 && decide (N.2.2.2.2.1 = z) && decide (N.2.2.2.2.2.1 = w) && !decide (N.1.name = "<init>") && im_tw x (.methodLink M.1.cls idx N.1)
      | none => false
    | 1 => im_tw x (.methodLink M.1.cls idx yJ0_length_8abf5)
    | 2 => im_tw x (.methodLink M.1.cls idx yJ0_charAt_5068e)
    | _ => false
  | .invokestatic idx => match b with
    | 0 => match ms[a]? with
      | some N => N.2.2.2.2.2.2.1 && decide (N.2.2.2.2.2.1 = w) && (im_tw x (.methodLink M.1.cls idx N.1) || decide (Cond.methodLinkNest M.1.cls idx N.1 "RubbleCity" ∈ im_nw))
      | none => false
    | 3 => decide (z < 2) && im_tw x (.methodLink M.1.cls idx arraycopyName)
    | 5 => im_tw x (.methodLink M.1.cls idx Lib.Math.max.name)
    | 6 => im_tw x (.methodLink M.1.cls idx Lib.Math.min.name)
    | _ => false
  | .invokespecial idx => match b with
    | 0 => match ms[a]? with
      | some N => !N.2.2.2.2.2.2.1 && decide (N.2.2.2.2.2.1 = w) && decide (N.1.name = "<init>") && (im_tw x (.methodLink M.1.cls idx N.1) || decide (Cond.methodLinkNest M.1.cls idx N.1 "RubbleCity" ∈ im_nw))
      | none => false
    | 4 => im_tw x (.methodLink M.1.cls idx objectInit)
    | _ => false
  | _ => true
def im_okI (ms : List im_M) (M : im_M) (pc : Nat) (q : im_I) : Bool := decide (decode M.2.1 pc = .ok (q.1, im_ln q.1 (q.2.getD 2 0))) && im_ok2 ms M q.1 (q.2.getD 0 0) (q.2.getD 1 0) (q.2.getD 2 0) (q.2.getD 3 0) (q.2.getD 4 0) pc
def im_okC (ms : List im_M) (M : im_M) : Bool := M.2.2.2.2.2.2.2.2.all (fun l => l.all (fun q => im_okI ms M q.1 q.2))
/-- the method's own words -/
def im_okM (M : im_M) : Bool := plainName M.1.cls && decide (M.1.cls ≠ "java/lang/invoke/MethodHandle") && decide (M.1.cls ≠ "java/lang/invoke/VarHandle") && decide ((parseMethodDescriptor M.1.desc).map (fun d => d.parameters.length) = some M.2.2.2.2.2.1) && decide (M.2.2.1 ≤ 30) &&
  im_tw (M.2.2.2.2.2.2.2.1.getD 0 0) (.code M.1 M.2.1 M.2.2.1 M.2.2.2.1) && im_tw (M.2.2.2.2.2.2.2.1.getD 1 0) (.initialized M.1.cls) &&
  (if M.2.2.2.2.2.2.1 then im_tw (M.2.2.2.2.2.2.2.1.getD 2 0) (.static M.1) else im_tw (M.2.2.2.2.2.2.2.1.getD 2 0) (.instanceMethod M.1) && (decide (M.1.name = "<init>") || (im_tw (M.2.2.2.2.2.2.2.1.getD 3 0) (.selects M.1.cls M.1 M.1) && (match vwCl[M.2.2.2.2.1]? with | some r => decide (r.1 = M.1.cls) | none => false))))
end
section
/-! INSTRUCTIONS that touch stack and locals alone -/
def im_Cx (D : va_G) (ca : Nat → ClassId) (ad : Nat → Nat) (base : Nat) (K : im_K) (M : im_M) (p : Program) (R : Room) (s : State) (m : MethodId) (args : Array Value) (meth : Method) (c : Code) : Prop :=
  p.tables.exec = Jvm.exec ∧ c.code = M.2.1 ∧ c.maxLocals = M.2.2.1 ∧ s.vm.findClass M.1.cls = some m.cls ∧ (∀ w ∈ im_ws, w.before args s = true) ∧ im_SF D ca ad base K s s.heap ∧ (M.1.name = "<init>" → meth.name = "<init>") ∧ 1 ≤ R.frames ∧ 64 ≤ R.locals ∧ (∀ i, ad (16 + i) = base + i) ∧ K.2.1 = im_fty ∧ K.2.2.1 = im_lc ∧ K.2.2.2 = im_txt
def im_St (D : va_G) (ca : Nat → ClassId) (ad : Nat → Nat) (base nL n0 s0 : Nat) (s : State) (lv : im_L) (h : im_H) (ls : Array Slot) (H : Heap) (locs : List Loc) (cells slots : Nat) : Prop :=
  lv_has ls nL (im_ml ad lv) ∧ va_P D vwCl (im_w ca ad h) H ∧ s.heap.size = base + n0 ∧ va_S (im_up base) s.heap H locs ∧ cells + n0 = h.length ∧ slots + s0 = im_sl h
/-- a step of the interpreter is a step of the machine -/
def im_Go (D : va_G) (ca : Nat → ClassId) (ad : Nat → Nat) (base nL : Nat) (p : Program) (l : Launch) (e : Env) (R : Room) (s : State) (m : MethodId) (args : Array Value) (below : List Frame) (meth : Method) (c : Code) (Q : State → Prop) (pc : Nat) (lv : im_L) (st : List Value) (h : im_H) (c2 : im_C) : Prop :=
  (h.length ≤ c2.2.2.2.length ∧ im_sl h ≤ im_sl c2.2.2.2) ∧ ∀ (n0 s0 : Nat) (ls : Array Slot) (H : Heap) (locs : List Loc) (cells slots : Nat), c2.2.2.2.length ≤ n0 + R.cells → im_sl c2.2.2.2 ≤ s0 + R.slots → im_St D ca ad base nL n0 s0 s lv h ls H locs cells slots →
    (∀ (ls2 : Array Slot) (H2 : Heap) (locs2 : List Loc) (cells2 slots2 : Nat), im_St D ca ad base nL n0 s0 s c2.2.1 c2.2.2.2 ls2 H2 locs2 cells2 slots2 → W p l e R s m args below meth c H2 locs2 cells2 slots2 Q (F0 m c2.1 ls2 (c2.2.2.1.map (im_v ad)))) →
    W p l e R s m args below meth c H locs cells slots Q (F0 m pc ls (st.map (im_v ad)))
section IMP
variable {p : Program} {l : Launch} {e : Env} {R : Room} {s : State} {m : MethodId} {args : Array Value} {below : List Frame} {meth : Method} {c : Code} {Q : State → Prop} {D : va_G} {ca : Nat → ClassId} {ad : Nat → Nat} {base nL : Nat} {K : im_K} {M : im_M} {pc : Nat} {lv : im_L} {st : List Value} {h : im_H} {c2 : im_C}
/-- the cells and the locals stay -/
theorem im_go0 {pc2 : Nat} {st2 : List Value} (k : ∀ (ls : Array Slot) (H : Heap) (locs : List Loc) (cells slots : Nat), lv_has ls nL (im_ml ad lv) → W p l e R s m args below meth c H locs cells slots Q (F0 m pc2 ls (st2.map (im_v ad))) → W p l e R s m args below meth c H locs cells slots Q (F0 m pc ls (st.map (im_v ad)))) : im_Go D ca ad base nL p l e R s m args below meth c Q pc lv st h (pc2, lv, st2, h) :=
  ⟨⟨Nat.le_refl _, Nat.le_refl _⟩, fun _ _ ls H locs cells slots _ _ hI kk => k ls H locs cells slots hI.1 (kk ls H locs cells slots hI)⟩
/-- the cells stay -/
theorem im_go1 {pc2 : Nat} {lv2 : im_L} {st2 : List Value} (k : ∀ (ls : Array Slot) (H : Heap) (locs : List Loc) (cells slots : Nat), lv_has ls nL (im_ml ad lv) → (∀ ls2 : Array Slot, lv_has ls2 nL (im_ml ad lv2) → W p l e R s m args below meth c H locs cells slots Q (F0 m pc2 ls2 (st2.map (im_v ad)))) → W p l e R s m args below meth c H locs cells slots Q (F0 m pc ls (st.map (im_v ad)))) : im_Go D ca ad base nL p l e R s m args below meth c Q pc lv st h (pc2, lv2, st2, h) :=
  ⟨⟨Nat.le_refl _, Nat.le_refl _⟩, fun _ _ ls H locs cells slots _ _ hI kk => k ls H locs cells slots hI.1 (fun ls2 h2 => kk ls2 H locs cells slots ⟨h2, hI.2⟩)⟩
theorem im_go_bin {f : Int32 → Int32 → Option Int32} (hs : im_bin pc lv st h f = some (.inl c2)) (row : ∀ (x y z : Int32) (rest : List Value), f x y = some z → ∀ (ls : Array Slot) (H : Heap) (locs : List Loc) (cells slots : Nat), W p l e R s m args below meth c H locs cells slots Q (F0 m (pc + 1) ls (.int z :: rest)) → W p l e R s m args below meth c H locs cells slots Q (F0 m pc ls (.int y :: .int x :: rest))) : im_Go D ca ad base nL p l e R s m args below meth c Q pc lv st h c2 := by
  obtain ⟨q, h1, hs1⟩ := im_bd hs
  obtain ⟨u, h2, hs2⟩ := im_bd hs1
  obtain ⟨z, h3, hs3⟩ := im_bd hs2
  have e1 := im_1i_eq h1
  rw [im_1i_eq h2] at e1
  cases im_nx_eq hs3
  subst e1
  exact im_go0 fun ls H locs cells slots _ k => row u.1 q.1 z _ h3 ls H locs cells slots k
theorem im_go_binl {f : Int64 → Int64 → Value} (hs : im_binl pc lv st h f = some (.inl c2)) (hf : ∀ x y, im_v ad (f x y) = f x y) (row : ∀ (x y : Int64) (rest : List Value) (ls : Array Slot) (H : Heap) (locs : List Loc) (cells slots : Nat), W p l e R s m args below meth c H locs cells slots Q (F0 m (pc + 1) ls (f x y :: rest)) → W p l e R s m args below meth c H locs cells slots Q (F0 m pc ls (.long y :: .long x :: rest))) : im_Go D ca ad base nL p l e R s m args below meth c Q pc lv st h c2 := by
  obtain ⟨q, h1, hs1⟩ := im_bd hs
  obtain ⟨u, h2, hs2⟩ := im_bd hs1
  have e1 := im_1l_eq h1
  rw [im_1l_eq h2] at e1
  cases im_nx_eq hs2
  subst e1
  refine im_go0 fun ls H locs cells slots _ k => row u.1 q.1 _ ls H locs cells slots ?_
  rw [List.map_cons, hf] at k
  exact k
theorem im_go_shl {f : Int64 → Int32 → Int64} (hs : im_shl pc lv st h f = some (.inl c2)) (row : ∀ (x : Int64) (y : Int32) (rest : List Value) (ls : Array Slot) (H : Heap) (locs : List Loc) (cells slots : Nat), W p l e R s m args below meth c H locs cells slots Q (F0 m (pc + 1) ls (.long (f x y) :: rest)) → W p l e R s m args below meth c H locs cells slots Q (F0 m pc ls (.int y :: .long x :: rest))) : im_Go D ca ad base nL p l e R s m args below meth c Q pc lv st h c2 := by
  obtain ⟨q, h1, hs1⟩ := im_bd hs
  obtain ⟨u, h2, hs2⟩ := im_bd hs1
  have e1 := im_1i_eq h1
  rw [im_1l_eq h2] at e1
  cases im_nx_eq hs2
  subst e1
  exact im_go0 fun ls H locs cells slots _ k => row u.1 q.1 _ ls H locs cells slots k
theorem im_go_un {f : Int32 → Value} (hs : im_un pc lv st h f = some (.inl c2)) (hf : ∀ x, im_v ad (f x) = f x) (row : ∀ (x : Int32) (rest : List Value) (ls : Array Slot) (H : Heap) (locs : List Loc) (cells slots : Nat), W p l e R s m args below meth c H locs cells slots Q (F0 m (pc + 1) ls (f x :: rest)) → W p l e R s m args below meth c H locs cells slots Q (F0 m pc ls (.int x :: rest))) : im_Go D ca ad base nL p l e R s m args below meth c Q pc lv st h c2 := by
  obtain ⟨q, h1, hs1⟩ := im_bd hs
  have e1 := im_1i_eq h1
  cases im_nx_eq hs1
  subst e1
  refine im_go0 fun ls H locs cells slots _ k => row q.1 _ ls H locs cells slots ?_
  rw [List.map_cons, hf] at k
  exact k
theorem is_aload_n (hx : p.tables.exec = Jvm.exec) (hb : c.code = M.2.1) {k : Fin 4} {a b w z : Nat} (hdg : decode M.2.1 pc = .ok (.aload_n k, 1))  (hs : im_ins K M (.aload_n k) a b w z pc lv st h = some (.inl c2)) : im_Go D ca ad base nL p l e R s m args below meth c Q pc lv st h c2 := by
  obtain ⟨v, h1, hs1⟩ := im_bd hs
  obtain ⟨h2, hs2⟩ := im_ite _ hs1
  obtain ⟨x, rfl⟩ := im_isR_eq h2
  cases im_nx_eq hs2
  exact im_go0 fun ls H locs cells slots hl k => lv_aload_n hx hb hdg rfl (im_lk_at h1 hl) k
theorem is_aload (hx : p.tables.exec = Jvm.exec) (hb : c.code = M.2.1) {k : Nat} {a b w z : Nat} (hdg : decode M.2.1 pc = .ok (.aload k, 2))  (hs : im_ins K M (.aload k) a b w z pc lv st h = some (.inl c2)) : im_Go D ca ad base nL p l e R s m args below meth c Q pc lv st h c2 := by
  obtain ⟨v, h1, hs1⟩ := im_bd hs
  obtain ⟨h2, hs2⟩ := im_ite _ hs1
  obtain ⟨x, rfl⟩ := im_isR_eq h2
  cases im_nx_eq hs2
  exact im_go0 fun ls H locs cells slots hl k => lv_aload hx hb hdg (im_lk_at h1 hl) k
theorem is_iload_n (hx : p.tables.exec = Jvm.exec) (hb : c.code = M.2.1) {k : Fin 4} {a b w z : Nat} (hdg : decode M.2.1 pc = .ok (.iload_n k, 1))  (hs : im_ins K M (.iload_n k) a b w z pc lv st h = some (.inl c2)) : im_Go D ca ad base nL p l e R s m args below meth c Q pc lv st h c2 := by
  obtain ⟨v, h1, hs1⟩ := im_bd hs
  obtain ⟨h2, hs2⟩ := im_ite _ hs1
  obtain ⟨x, rfl⟩ := im_isI_eq h2
  cases im_nx_eq hs2
  exact im_go0 fun ls H locs cells slots hl k => lv_iload_n hx hb hdg rfl (im_lk_at h1 hl) k
theorem is_iload (hx : p.tables.exec = Jvm.exec) (hb : c.code = M.2.1) {k : Nat} {a b w z : Nat} (hdg : decode M.2.1 pc = .ok (.iload k, 2))  (hs : im_ins K M (.iload k) a b w z pc lv st h = some (.inl c2)) : im_Go D ca ad base nL p l e R s m args below meth c Q pc lv st h c2 := by
  obtain ⟨v, h1, hs1⟩ := im_bd hs
  obtain ⟨h2, hs2⟩ := im_ite _ hs1
  obtain ⟨x, rfl⟩ := im_isI_eq h2
  cases im_nx_eq hs2
  exact im_go0 fun ls H locs cells slots hl k => lv_iload hx hb hdg (im_lk_at h1 hl) k
theorem is_lload_n (hx : p.tables.exec = Jvm.exec) (hb : c.code = M.2.1) {k : Fin 4} {a b w z : Nat} (hdg : decode M.2.1 pc = .ok (.lload_n k, 1))  (hs : im_ins K M (.lload_n k) a b w z pc lv st h = some (.inl c2)) : im_Go D ca ad base nL p l e R s m args below meth c Q pc lv st h c2 := by
  obtain ⟨v, h1, hs1⟩ := im_bd hs
  obtain ⟨h2, hs2⟩ := im_ite _ hs1
  obtain ⟨x, rfl⟩ := im_isL_eq h2
  cases im_nx_eq hs2
  exact im_go0 fun ls H locs cells slots hl k => lv_lload_n hx hb hdg rfl (im_lk_at h1 hl) k
theorem is_iconst (hx : p.tables.exec = Jvm.exec) (hb : c.code = M.2.1) {n : Int} {a b w z : Nat} (hdg : decode M.2.1 pc = .ok (.iconst n, 1))  (hs : im_ins K M (.iconst n) a b w z pc lv st h = some (.inl c2)) : im_Go D ca ad base nL p l e R s m args below meth c Q pc lv st h c2 := by
  cases im_nx_eq hs
  exact im_go0 fun ls H locs cells slots hl k => lv_iconst hx hb hdg rfl k
theorem is_bipush (hx : p.tables.exec = Jvm.exec) (hb : c.code = M.2.1) {n : Int} {a b w z : Nat} (hdg : decode M.2.1 pc = .ok (.bipush n, 2))  (hs : im_ins K M (.bipush n) a b w z pc lv st h = some (.inl c2)) : im_Go D ca ad base nL p l e R s m args below meth c Q pc lv st h c2 := by
  cases im_nx_eq hs
  exact im_go0 fun ls H locs cells slots hl k => lv_bipush hx hb hdg rfl k
theorem is_sipush (hx : p.tables.exec = Jvm.exec) (hb : c.code = M.2.1) {n : Int} {a b w z : Nat} (hdg : decode M.2.1 pc = .ok (.sipush n, 3))  (hs : im_ins K M (.sipush n) a b w z pc lv st h = some (.inl c2)) : im_Go D ca ad base nL p l e R s m args below meth c Q pc lv st h c2 := by
  cases im_nx_eq hs
  exact im_go0 fun ls H locs cells slots hl k => lv_sipush hx hb hdg rfl k
theorem is_aconst_null (hx : p.tables.exec = Jvm.exec) (hb : c.code = M.2.1)  {a b w z : Nat} (hdg : decode M.2.1 pc = .ok (.aconst_null, 1))  (hs : im_ins K M (.aconst_null) a b w z pc lv st h = some (.inl c2)) : im_Go D ca ad base nL p l e R s m args below meth c Q pc lv st h c2 := by
  cases im_nx_eq hs
  exact im_go0 fun ls H locs cells slots hl k => lv_null hx hb hdg k
theorem is_istore_n (hx : p.tables.exec = Jvm.exec) (hb : c.code = M.2.1) {k : Fin 4} {a b w z : Nat} (hdg : decode M.2.1 pc = .ok (.istore_n k, 1)) (hn : nL = M.2.2.1) (hs : im_ins K M (.istore_n k) a b w z pc lv st h = some (.inl c2)) : im_Go D ca ad base nL p l e R s m args below meth c Q pc lv st h c2 := by
  obtain ⟨q, h1, hs1⟩ := im_bd hs
  obtain ⟨h2, hs2⟩ := im_ite _ hs1
  cases im_1i_eq h1
  cases im_nx_eq hs2
  exact im_go1 fun ls H locs cells slots hl kk => lv_istore_n hx hb hdg rfl hl (hn ▸ h2) (im_pt_ml ad lv _ (.int q.1)) (fun ls2 h3 => kk ls2 h3)
theorem is_istore (hx : p.tables.exec = Jvm.exec) (hb : c.code = M.2.1) {k : Nat} {a b w z : Nat} (hdg : decode M.2.1 pc = .ok (.istore k, 2)) (hn : nL = M.2.2.1) (hs : im_ins K M (.istore k) a b w z pc lv st h = some (.inl c2)) : im_Go D ca ad base nL p l e R s m args below meth c Q pc lv st h c2 := by
  obtain ⟨q, h1, hs1⟩ := im_bd hs
  obtain ⟨h2, hs2⟩ := im_ite _ hs1
  cases im_1i_eq h1
  cases im_nx_eq hs2
  exact im_go1 fun ls H locs cells slots hl kk => lv_istore hx hb hdg hl (hn ▸ h2) (im_pt_ml ad lv _ (.int q.1)) (fun ls2 h3 => kk ls2 h3)
theorem is_astore_n (hx : p.tables.exec = Jvm.exec) (hb : c.code = M.2.1) {k : Fin 4} {a b w z : Nat} (hdg : decode M.2.1 pc = .ok (.astore_n k, 1)) (hn : nL = M.2.2.1) (hs : im_ins K M (.astore_n k) a b w z pc lv st h = some (.inl c2)) : im_Go D ca ad base nL p l e R s m args below meth c Q pc lv st h c2 := by
  obtain ⟨q, h1, hs1⟩ := im_bd hs
  obtain ⟨h2, hs2⟩ := im_ite _ hs1
  cases im_1r_eq h1
  cases im_nx_eq hs2
  exact im_go1 fun ls H locs cells slots hl kk => lv_astore_n hx hb hdg rfl hl (hn ▸ h2) (im_pt_ml ad lv _ (.ref q.1)) (fun ls2 h3 => kk ls2 h3)
theorem is_astore (hx : p.tables.exec = Jvm.exec) (hb : c.code = M.2.1) {k : Nat} {a b w z : Nat} (hdg : decode M.2.1 pc = .ok (.astore k, 2)) (hn : nL = M.2.2.1) (hs : im_ins K M (.astore k) a b w z pc lv st h = some (.inl c2)) : im_Go D ca ad base nL p l e R s m args below meth c Q pc lv st h c2 := by
  obtain ⟨q, h1, hs1⟩ := im_bd hs
  obtain ⟨h2, hs2⟩ := im_ite _ hs1
  cases im_1r_eq h1
  cases im_nx_eq hs2
  exact im_go1 fun ls H locs cells slots hl kk => lv_astore hx hb hdg hl (hn ▸ h2) (im_pt_ml ad lv _ (.ref q.1)) (fun ls2 h3 => kk ls2 h3)
theorem is_iinc (hx : p.tables.exec = Jvm.exec) (hb : c.code = M.2.1) {k : Nat} {n : Int} {a b w z : Nat} (hdg : decode M.2.1 pc = .ok (.iinc k n, 3)) (hn : nL = M.2.2.1) (hs : im_ins K M (.iinc k n) a b w z pc lv st h = some (.inl c2)) : im_Go D ca ad base nL p l e R s m args below meth c Q pc lv st h c2 := by
  obtain ⟨v, h1, hs1⟩ := im_bd hs
  obtain ⟨x, h2, hs2⟩ := im_bd hs1
  obtain ⟨h3, hs3⟩ := im_ite _ hs2
  cases im_1v_eq h2
  cases im_nx_eq hs3
  refine im_go1 fun ls H locs cells slots hl kk => ?_
  obtain ⟨j, hj⟩ := List.getElem?_of_mem (List.mem_map.mpr ⟨(k, Value.int x), im_lk_mem h1, rfl⟩ : (k, im_v ad (.int x)) ∈ im_ml ad lv)
  exact lv_iinc hx hb hdg hl hj rfl (hn ▸ h3) (im_pt_ml ad lv _ (.int (x + Int32.ofInt n))) (fun ls2 h3 => kk ls2 h3)
theorem is_pop (hx : p.tables.exec = Jvm.exec) (hb : c.code = M.2.1)  {a b w z : Nat} (hdg : decode M.2.1 pc = .ok (.pop, 1))  (hs : im_ins K M (.pop) a b w z pc lv st h = some (.inl c2)) : im_Go D ca ad base nL p l e R s m args below meth c Q pc lv st h c2 := by
  obtain ⟨q, h1, hs1⟩ := im_bd hs
  obtain ⟨h2, hs2⟩ := im_ite _ hs1
  cases im_pop_eq h1
  cases im_nx_eq hs2
  exact im_go0 fun ls H locs cells slots hl k => lv_pop hx hb hdg (by rw [im_cat_v]; exact h2) k
theorem is_pop2 (hx : p.tables.exec = Jvm.exec) (hb : c.code = M.2.1)  {a b w z : Nat} (hdg : decode M.2.1 pc = .ok (.pop2, 1))  (hs : im_ins K M (.pop2) a b w z pc lv st h = some (.inl c2)) : im_Go D ca ad base nL p l e R s m args below meth c Q pc lv st h c2 := by
  obtain ⟨q, h1, hs1⟩ := im_bd hs
  obtain ⟨h2, hs2⟩ := im_ite _ hs1
  cases im_pop_eq h1
  cases im_nx_eq hs2
  exact im_go0 fun ls H locs cells slots hl k => lv_pop2_2 hx hb hdg (by rw [im_cat_v]; exact h2) k
theorem is_dup (hx : p.tables.exec = Jvm.exec) (hb : c.code = M.2.1)  {a b w z : Nat} (hdg : decode M.2.1 pc = .ok (.dup, 1))  (hs : im_ins K M (.dup) a b w z pc lv st h = some (.inl c2)) : im_Go D ca ad base nL p l e R s m args below meth c Q pc lv st h c2 := by
  obtain ⟨q, h1, hs1⟩ := im_bd hs
  obtain ⟨h2, hs2⟩ := im_ite _ hs1
  cases im_pop_eq h1
  cases im_nx_eq hs2
  exact im_go0 fun ls H locs cells slots hl k => lv_dup hx hb hdg (by rw [im_cat_v]; exact h2) k
theorem is_dup2 (hx : p.tables.exec = Jvm.exec) (hb : c.code = M.2.1)  {a b w z : Nat} (hdg : decode M.2.1 pc = .ok (.dup2, 1))  (hs : im_ins K M (.dup2) a b w z pc lv st h = some (.inl c2)) : im_Go D ca ad base nL p l e R s m args below meth c Q pc lv st h c2 := by
  obtain ⟨q, h1, hs1⟩ := im_bd hs
  obtain ⟨u, h3, hs2⟩ := im_bd hs1
  obtain ⟨h2, hs3⟩ := im_ite _ hs2
  have e1 := im_pop_eq h1
  rw [im_pop_eq h3] at e1
  cases im_nx_eq hs3
  subst e1
  exact im_go0 fun ls H locs cells slots hl k => lv_dup2_11 hx hb hdg (by rw [im_cat_v]; exact h2.1) (by rw [im_cat_v]; exact h2.2) k
theorem is_iadd (hx : p.tables.exec = Jvm.exec) (hb : c.code = M.2.1)  {a b w z : Nat} (hdg : decode M.2.1 pc = .ok (.iadd, 1))  (hs : im_ins K M (.iadd) a b w z pc lv st h = some (.inl c2)) : im_Go D ca ad base nL p l e R s m args below meth c Q pc lv st h c2 := by
  have hs : im_bin pc lv st h (fun x y => some (x + y)) = some (.inl c2) := hs
  refine im_go_bin hs fun x y z rest hz ls H locs cells slots k => ?_
  cases hz
  exact lv_iadd hx hb hdg k
theorem is_isub (hx : p.tables.exec = Jvm.exec) (hb : c.code = M.2.1)  {a b w z : Nat} (hdg : decode M.2.1 pc = .ok (.isub, 1))  (hs : im_ins K M (.isub) a b w z pc lv st h = some (.inl c2)) : im_Go D ca ad base nL p l e R s m args below meth c Q pc lv st h c2 := by
  have hs : im_bin pc lv st h (fun x y => some (x - y)) = some (.inl c2) := hs
  refine im_go_bin hs fun x y z rest hz ls H locs cells slots k => ?_
  cases hz
  exact lv_isub hx hb hdg k
theorem is_imul (hx : p.tables.exec = Jvm.exec) (hb : c.code = M.2.1)  {a b w z : Nat} (hdg : decode M.2.1 pc = .ok (.imul, 1))  (hs : im_ins K M (.imul) a b w z pc lv st h = some (.inl c2)) : im_Go D ca ad base nL p l e R s m args below meth c Q pc lv st h c2 := by
  have hs : im_bin pc lv st h (fun x y => some (x * y)) = some (.inl c2) := hs
  refine im_go_bin hs fun x y z rest hz ls H locs cells slots k => ?_
  cases hz
  exact lv_imul hx hb hdg k
theorem is_iand (hx : p.tables.exec = Jvm.exec) (hb : c.code = M.2.1)  {a b w z : Nat} (hdg : decode M.2.1 pc = .ok (.iand, 1))  (hs : im_ins K M (.iand) a b w z pc lv st h = some (.inl c2)) : im_Go D ca ad base nL p l e R s m args below meth c Q pc lv st h c2 := by
  have hs : im_bin pc lv st h (fun x y => some (x &&& y)) = some (.inl c2) := hs
  refine im_go_bin hs fun x y z rest hz ls H locs cells slots k => ?_
  cases hz
  exact lv_iand hx hb hdg k
theorem is_ior (hx : p.tables.exec = Jvm.exec) (hb : c.code = M.2.1)  {a b w z : Nat} (hdg : decode M.2.1 pc = .ok (.ior, 1))  (hs : im_ins K M (.ior) a b w z pc lv st h = some (.inl c2)) : im_Go D ca ad base nL p l e R s m args below meth c Q pc lv st h c2 := by
  have hs : im_bin pc lv st h (fun x y => some (x ||| y)) = some (.inl c2) := hs
  refine im_go_bin hs fun x y z rest hz ls H locs cells slots k => ?_
  cases hz
  exact lv_ior hx hb hdg k
theorem is_ishl (hx : p.tables.exec = Jvm.exec) (hb : c.code = M.2.1)  {a b w z : Nat} (hdg : decode M.2.1 pc = .ok (.ishl, 1))  (hs : im_ins K M (.ishl) a b w z pc lv st h = some (.inl c2)) : im_Go D ca ad base nL p l e R s m args below meth c Q pc lv st h c2 := by
  have hs : im_bin pc lv st h (fun x y => some (x <<< (y &&& 31))) = some (.inl c2) := hs
  refine im_go_bin hs fun x y z rest hz ls H locs cells slots k => ?_
  cases hz
  exact lv_ishl hx hb hdg k
theorem is_ishr (hx : p.tables.exec = Jvm.exec) (hb : c.code = M.2.1)  {a b w z : Nat} (hdg : decode M.2.1 pc = .ok (.ishr, 1))  (hs : im_ins K M (.ishr) a b w z pc lv st h = some (.inl c2)) : im_Go D ca ad base nL p l e R s m args below meth c Q pc lv st h c2 := by
  have hs : im_bin pc lv st h (fun x y => some (x >>> (y &&& 31))) = some (.inl c2) := hs
  refine im_go_bin hs fun x y z rest hz ls H locs cells slots k => ?_
  cases hz
  exact lv_ishr hx hb hdg k
theorem is_idiv (hx : p.tables.exec = Jvm.exec) (hb : c.code = M.2.1)  {a b w z : Nat} (hdg : decode M.2.1 pc = .ok (.idiv, 1))  (hs : im_ins K M (.idiv) a b w z pc lv st h = some (.inl c2)) : im_Go D ca ad base nL p l e R s m args below meth c Q pc lv st h c2 := by
  have hs : im_bin pc lv st h (fun x y => if y = 0 then none else some (x / y)) = some (.inl c2) := hs
  refine im_go_bin hs fun x y z rest hz ls H locs cells slots k => ?_
  by_cases h0 : y = 0
  · rw [if_pos h0] at hz; cases hz
  · rw [if_neg h0] at hz
    cases hz
    exact lv_idiv hx hb hdg h0 k
theorem is_irem (hx : p.tables.exec = Jvm.exec) (hb : c.code = M.2.1)  {a b w z : Nat} (hdg : decode M.2.1 pc = .ok (.irem, 1))  (hs : im_ins K M (.irem) a b w z pc lv st h = some (.inl c2)) : im_Go D ca ad base nL p l e R s m args below meth c Q pc lv st h c2 := by
  have hs : im_bin pc lv st h (fun x y => if y = 0 then none else some (x - x / y * y)) = some (.inl c2) := hs
  refine im_go_bin hs fun x y z rest hz ls H locs cells slots k => ?_
  by_cases h0 : y = 0
  · rw [if_pos h0] at hz; cases hz
  · rw [if_neg h0] at hz
    cases hz
    exact lv_irem hx hb hdg h0 k
theorem is_land (hx : p.tables.exec = Jvm.exec) (hb : c.code = M.2.1)  {a b w z : Nat} (hdg : decode M.2.1 pc = .ok (.land, 1))  (hs : im_ins K M (.land) a b w z pc lv st h = some (.inl c2)) : im_Go D ca ad base nL p l e R s m args below meth c Q pc lv st h c2 := by
  have hs : im_binl pc lv st h (fun x y => .long (x &&& y)) = some (.inl c2) := hs
  exact im_go_binl hs (fun _ _ => rfl) fun x y rest ls H locs cells slots k => lv_land hx hb hdg k
theorem is_lor (hx : p.tables.exec = Jvm.exec) (hb : c.code = M.2.1)  {a b w z : Nat} (hdg : decode M.2.1 pc = .ok (.lor, 1))  (hs : im_ins K M (.lor) a b w z pc lv st h = some (.inl c2)) : im_Go D ca ad base nL p l e R s m args below meth c Q pc lv st h c2 := by
  have hs : im_binl pc lv st h (fun x y => .long (x ||| y)) = some (.inl c2) := hs
  exact im_go_binl hs (fun _ _ => rfl) fun x y rest ls H locs cells slots k => lv_lor hx hb hdg k
theorem is_lcmp (hx : p.tables.exec = Jvm.exec) (hb : c.code = M.2.1)  {a b w z : Nat} (hdg : decode M.2.1 pc = .ok (.lcmp, 1))  (hs : im_ins K M (.lcmp) a b w z pc lv st h = some (.inl c2)) : im_Go D ca ad base nL p l e R s m args below meth c Q pc lv st h c2 := by
  have hs : im_binl pc lv st h (fun x y => .int (lg_cmp x y)) = some (.inl c2) := hs
  exact im_go_binl hs (fun _ _ => rfl) fun x y rest ls H locs cells slots k => W.lcmp hx hb hdg k
theorem is_lshl (hx : p.tables.exec = Jvm.exec) (hb : c.code = M.2.1)  {a b w z : Nat} (hdg : decode M.2.1 pc = .ok (.lshl, 1))  (hs : im_ins K M (.lshl) a b w z pc lv st h = some (.inl c2)) : im_Go D ca ad base nL p l e R s m args below meth c Q pc lv st h c2 := by
  have hs : im_shl pc lv st h (fun x y => x <<< (y.toInt64 &&& 63)) = some (.inl c2) := hs
  exact im_go_shl hs fun x y rest ls H locs cells slots k => lv_lshl hx hb hdg rfl k
theorem is_lshr (hx : p.tables.exec = Jvm.exec) (hb : c.code = M.2.1)  {a b w z : Nat} (hdg : decode M.2.1 pc = .ok (.lshr, 1))  (hs : im_ins K M (.lshr) a b w z pc lv st h = some (.inl c2)) : im_Go D ca ad base nL p l e R s m args below meth c Q pc lv st h c2 := by
  have hs : im_shl pc lv st h (fun x y => x >>> (y.toInt64 &&& 63)) = some (.inl c2) := hs
  exact im_go_shl hs fun x y rest ls H locs cells slots k => lv_lshr hx hb hdg rfl k
theorem is_i2l (hx : p.tables.exec = Jvm.exec) (hb : c.code = M.2.1)  {a b w z : Nat} (hdg : decode M.2.1 pc = .ok (.i2l, 1))  (hs : im_ins K M (.i2l) a b w z pc lv st h = some (.inl c2)) : im_Go D ca ad base nL p l e R s m args below meth c Q pc lv st h c2 := by
  have hs : im_un pc lv st h (fun x => .long x.toInt64) = some (.inl c2) := hs
  exact im_go_un hs (fun _ => rfl) fun x rest ls H locs cells slots k => lv_i2l hx hb hdg rfl k
theorem is_i2b (hx : p.tables.exec = Jvm.exec) (hb : c.code = M.2.1)  {a b w z : Nat} (hdg : decode M.2.1 pc = .ok (.i2b, 1))  (hs : im_ins K M (.i2b) a b w z pc lv st h = some (.inl c2)) : im_Go D ca ad base nL p l e R s m args below meth c Q pc lv st h c2 := by
  have hs : im_un pc lv st h (fun x => .int x.toInt8.toInt32) = some (.inl c2) := hs
  exact im_go_un hs (fun _ => rfl) fun x rest ls H locs cells slots k => lv_i2b hx hb hdg rfl k
theorem is_i2s (hx : p.tables.exec = Jvm.exec) (hb : c.code = M.2.1)  {a b w z : Nat} (hdg : decode M.2.1 pc = .ok (.i2s, 1))  (hs : im_ins K M (.i2s) a b w z pc lv st h = some (.inl c2)) : im_Go D ca ad base nL p l e R s m args below meth c Q pc lv st h c2 := by
  have hs : im_un pc lv st h (fun x => .int x.toInt16.toInt32) = some (.inl c2) := hs
  exact im_go_un hs (fun _ => rfl) fun x rest ls H locs cells slots k => lv_i2s hx hb hdg rfl k
theorem is_l2i (hx : p.tables.exec = Jvm.exec) (hb : c.code = M.2.1)  {a b w z : Nat} (hdg : decode M.2.1 pc = .ok (.l2i, 1))  (hs : im_ins K M (.l2i) a b w z pc lv st h = some (.inl c2)) : im_Go D ca ad base nL p l e R s m args below meth c Q pc lv st h c2 := by
  obtain ⟨q, h1, hs1⟩ := im_bd hs
  cases im_1l_eq h1
  cases im_nx_eq hs1
  exact im_go0 fun ls H locs cells slots hl k => lv_l2i hx hb hdg rfl k
theorem is_goto (hx : p.tables.exec = Jvm.exec) (hb : c.code = M.2.1) {off : Int} {a b w z : Nat} (hdg : decode M.2.1 pc = .ok (.goto off, 3)) (ht : (pc : Int) + off = (a : Int)) (hs : im_ins K M (.goto off) a b w z pc lv st h = some (.inl c2)) : im_Go D ca ad base nL p l e R s m args below meth c Q pc lv st h c2 := by
  cases im_nx_eq hs
  exact im_go0 fun ls H locs cells slots hl k => lv_goto hx hb hdg ht k
theorem is_if_eq (hx : p.tables.exec = Jvm.exec) (hb : c.code = M.2.1) {off : Int} {a b w z : Nat} (hdg : decode M.2.1 pc = .ok (.ifCond .eq off, 3)) (ht : (pc : Int) + off = (a : Int)) (hs : im_ins K M (.ifCond .eq off) a b w z pc lv st h = some (.inl c2)) : im_Go D ca ad base nL p l e R s m args below meth c Q pc lv st h c2 := by
  obtain ⟨q, h1, hs1⟩ := im_bd hs
  cases im_1i_eq h1
  cases im_nx_eq hs1
  refine im_go0 fun ls H locs cells slots hl k => lv_if_eq hx hb hdg ht (fun hc => ?_) (fun hc => ?_)
  · rw [show im_cnd .eq q.1 0 = true from decide_eq_true hc] at k; exact k
  · rw [show im_cnd .eq q.1 0 = false from decide_eq_false hc] at k; exact k
theorem is_icmp_eq (hx : p.tables.exec = Jvm.exec) (hb : c.code = M.2.1) {off : Int} {a b w z : Nat} (hdg : decode M.2.1 pc = .ok (.if_icmp .eq off, 3)) (ht : (pc : Int) + off = (a : Int)) (hs : im_ins K M (.if_icmp .eq off) a b w z pc lv st h = some (.inl c2)) : im_Go D ca ad base nL p l e R s m args below meth c Q pc lv st h c2 := by
  obtain ⟨q, h1, hs1⟩ := im_bd hs
  obtain ⟨u, h2, hs2⟩ := im_bd hs1
  have e1 := im_1i_eq h1
  rw [im_1i_eq h2] at e1
  cases im_nx_eq hs2
  subst e1
  refine im_go0 fun ls H locs cells slots hl k => lv_icmp_eq hx hb hdg ht (fun hc => ?_) (fun hc => ?_)
  · rw [show im_cnd .eq u.1 q.1 = true from decide_eq_true hc] at k; exact k
  · rw [show im_cnd .eq u.1 q.1 = false from decide_eq_false hc] at k; exact k
theorem is_if_ne (hx : p.tables.exec = Jvm.exec) (hb : c.code = M.2.1) {off : Int} {a b w z : Nat} (hdg : decode M.2.1 pc = .ok (.ifCond .ne off, 3)) (ht : (pc : Int) + off = (a : Int)) (hs : im_ins K M (.ifCond .ne off) a b w z pc lv st h = some (.inl c2)) : im_Go D ca ad base nL p l e R s m args below meth c Q pc lv st h c2 := by
  obtain ⟨q, h1, hs1⟩ := im_bd hs
  cases im_1i_eq h1
  cases im_nx_eq hs1
  refine im_go0 fun ls H locs cells slots hl k => lv_if_ne hx hb hdg ht (fun hc => ?_) (fun hc => ?_)
  · rw [show im_cnd .ne q.1 0 = true from decide_eq_true hc] at k; exact k
  · rw [show im_cnd .ne q.1 0 = false from decide_eq_false (fun z => z hc)] at k; exact k
theorem is_icmp_ne (hx : p.tables.exec = Jvm.exec) (hb : c.code = M.2.1) {off : Int} {a b w z : Nat} (hdg : decode M.2.1 pc = .ok (.if_icmp .ne off, 3)) (ht : (pc : Int) + off = (a : Int)) (hs : im_ins K M (.if_icmp .ne off) a b w z pc lv st h = some (.inl c2)) : im_Go D ca ad base nL p l e R s m args below meth c Q pc lv st h c2 := by
  obtain ⟨q, h1, hs1⟩ := im_bd hs
  obtain ⟨u, h2, hs2⟩ := im_bd hs1
  have e1 := im_1i_eq h1
  rw [im_1i_eq h2] at e1
  cases im_nx_eq hs2
  subst e1
  refine im_go0 fun ls H locs cells slots hl k => lv_icmp_ne hx hb hdg ht (fun hc => ?_) (fun hc => ?_)
  · rw [show im_cnd .ne u.1 q.1 = true from decide_eq_true hc] at k; exact k
  · rw [show im_cnd .ne u.1 q.1 = false from decide_eq_false (fun z => z hc)] at k; exact k
theorem is_if_lt (hx : p.tables.exec = Jvm.exec) (hb : c.code = M.2.1) {off : Int} {a b w z : Nat} (hdg : decode M.2.1 pc = .ok (.ifCond .lt off, 3)) (ht : (pc : Int) + off = (a : Int)) (hs : im_ins K M (.ifCond .lt off) a b w z pc lv st h = some (.inl c2)) : im_Go D ca ad base nL p l e R s m args below meth c Q pc lv st h c2 := by
  obtain ⟨q, h1, hs1⟩ := im_bd hs
  cases im_1i_eq h1
  cases im_nx_eq hs1
  refine im_go0 fun ls H locs cells slots hl k => lv_if_lt hx hb hdg ht (fun hc => ?_) (fun hc => ?_)
  · rw [show im_cnd .lt q.1 0 = true from decide_eq_true hc] at k; exact k
  · rw [show im_cnd .lt q.1 0 = false from decide_eq_false hc] at k; exact k
theorem is_icmp_lt (hx : p.tables.exec = Jvm.exec) (hb : c.code = M.2.1) {off : Int} {a b w z : Nat} (hdg : decode M.2.1 pc = .ok (.if_icmp .lt off, 3)) (ht : (pc : Int) + off = (a : Int)) (hs : im_ins K M (.if_icmp .lt off) a b w z pc lv st h = some (.inl c2)) : im_Go D ca ad base nL p l e R s m args below meth c Q pc lv st h c2 := by
  obtain ⟨q, h1, hs1⟩ := im_bd hs
  obtain ⟨u, h2, hs2⟩ := im_bd hs1
  have e1 := im_1i_eq h1
  rw [im_1i_eq h2] at e1
  cases im_nx_eq hs2
  subst e1
  refine im_go0 fun ls H locs cells slots hl k => lv_icmp_lt hx hb hdg ht (fun hc => ?_) (fun hc => ?_)
  · rw [show im_cnd .lt u.1 q.1 = true from decide_eq_true hc] at k; exact k
  · rw [show im_cnd .lt u.1 q.1 = false from decide_eq_false hc] at k; exact k
theorem is_if_ge (hx : p.tables.exec = Jvm.exec) (hb : c.code = M.2.1) {off : Int} {a b w z : Nat} (hdg : decode M.2.1 pc = .ok (.ifCond .ge off, 3)) (ht : (pc : Int) + off = (a : Int)) (hs : im_ins K M (.ifCond .ge off) a b w z pc lv st h = some (.inl c2)) : im_Go D ca ad base nL p l e R s m args below meth c Q pc lv st h c2 := by
  obtain ⟨q, h1, hs1⟩ := im_bd hs
  cases im_1i_eq h1
  cases im_nx_eq hs1
  refine im_go0 fun ls H locs cells slots hl k => lv_if_ge hx hb hdg ht (fun hc => ?_) (fun hc => ?_)
  · rw [show im_cnd .ge q.1 0 = true from decide_eq_true hc] at k; exact k
  · rw [show im_cnd .ge q.1 0 = false from decide_eq_false hc] at k; exact k
theorem is_icmp_ge (hx : p.tables.exec = Jvm.exec) (hb : c.code = M.2.1) {off : Int} {a b w z : Nat} (hdg : decode M.2.1 pc = .ok (.if_icmp .ge off, 3)) (ht : (pc : Int) + off = (a : Int)) (hs : im_ins K M (.if_icmp .ge off) a b w z pc lv st h = some (.inl c2)) : im_Go D ca ad base nL p l e R s m args below meth c Q pc lv st h c2 := by
  obtain ⟨q, h1, hs1⟩ := im_bd hs
  obtain ⟨u, h2, hs2⟩ := im_bd hs1
  have e1 := im_1i_eq h1
  rw [im_1i_eq h2] at e1
  cases im_nx_eq hs2
  subst e1
  refine im_go0 fun ls H locs cells slots hl k => lv_icmp_ge hx hb hdg ht (fun hc => ?_) (fun hc => ?_)
  · rw [show im_cnd .ge u.1 q.1 = true from decide_eq_true hc] at k; exact k
  · rw [show im_cnd .ge u.1 q.1 = false from decide_eq_false hc] at k; exact k
theorem is_if_gt (hx : p.tables.exec = Jvm.exec) (hb : c.code = M.2.1) {off : Int} {a b w z : Nat} (hdg : decode M.2.1 pc = .ok (.ifCond .gt off, 3)) (ht : (pc : Int) + off = (a : Int)) (hs : im_ins K M (.ifCond .gt off) a b w z pc lv st h = some (.inl c2)) : im_Go D ca ad base nL p l e R s m args below meth c Q pc lv st h c2 := by
  obtain ⟨q, h1, hs1⟩ := im_bd hs
  cases im_1i_eq h1
  cases im_nx_eq hs1
  refine im_go0 fun ls H locs cells slots hl k => lv_if_gt hx hb hdg ht (fun hc => ?_) (fun hc => ?_)
  · rw [show im_cnd .gt q.1 0 = true from decide_eq_true hc] at k; exact k
  · rw [show im_cnd .gt q.1 0 = false from decide_eq_false hc] at k; exact k
theorem is_icmp_gt (hx : p.tables.exec = Jvm.exec) (hb : c.code = M.2.1) {off : Int} {a b w z : Nat} (hdg : decode M.2.1 pc = .ok (.if_icmp .gt off, 3)) (ht : (pc : Int) + off = (a : Int)) (hs : im_ins K M (.if_icmp .gt off) a b w z pc lv st h = some (.inl c2)) : im_Go D ca ad base nL p l e R s m args below meth c Q pc lv st h c2 := by
  obtain ⟨q, h1, hs1⟩ := im_bd hs
  obtain ⟨u, h2, hs2⟩ := im_bd hs1
  have e1 := im_1i_eq h1
  rw [im_1i_eq h2] at e1
  cases im_nx_eq hs2
  subst e1
  refine im_go0 fun ls H locs cells slots hl k => lv_icmp_gt hx hb hdg ht (fun hc => ?_) (fun hc => ?_)
  · rw [show im_cnd .gt u.1 q.1 = true from decide_eq_true hc] at k; exact k
  · rw [show im_cnd .gt u.1 q.1 = false from decide_eq_false hc] at k; exact k
theorem is_if_le (hx : p.tables.exec = Jvm.exec) (hb : c.code = M.2.1) {off : Int} {a b w z : Nat} (hdg : decode M.2.1 pc = .ok (.ifCond .le off, 3)) (ht : (pc : Int) + off = (a : Int)) (hs : im_ins K M (.ifCond .le off) a b w z pc lv st h = some (.inl c2)) : im_Go D ca ad base nL p l e R s m args below meth c Q pc lv st h c2 := by
  obtain ⟨q, h1, hs1⟩ := im_bd hs
  cases im_1i_eq h1
  cases im_nx_eq hs1
  refine im_go0 fun ls H locs cells slots hl k => lv_if_le hx hb hdg ht (fun hc => ?_) (fun hc => ?_)
  · rw [show im_cnd .le q.1 0 = true from decide_eq_true hc] at k; exact k
  · rw [show im_cnd .le q.1 0 = false from decide_eq_false hc] at k; exact k
theorem is_icmp_le (hx : p.tables.exec = Jvm.exec) (hb : c.code = M.2.1) {off : Int} {a b w z : Nat} (hdg : decode M.2.1 pc = .ok (.if_icmp .le off, 3)) (ht : (pc : Int) + off = (a : Int)) (hs : im_ins K M (.if_icmp .le off) a b w z pc lv st h = some (.inl c2)) : im_Go D ca ad base nL p l e R s m args below meth c Q pc lv st h c2 := by
  obtain ⟨q, h1, hs1⟩ := im_bd hs
  obtain ⟨u, h2, hs2⟩ := im_bd hs1
  have e1 := im_1i_eq h1
  rw [im_1i_eq h2] at e1
  cases im_nx_eq hs2
  subst e1
  refine im_go0 fun ls H locs cells slots hl k => lv_icmp_le hx hb hdg ht (fun hc => ?_) (fun hc => ?_)
  · rw [show im_cnd .le u.1 q.1 = true from decide_eq_true hc] at k; exact k
  · rw [show im_cnd .le u.1 q.1 = false from decide_eq_false hc] at k; exact k
theorem is_ifnonnull (hx : p.tables.exec = Jvm.exec) (hb : c.code = M.2.1) {off : Int} {a b w z : Nat} (hdg : decode M.2.1 pc = .ok (.ifnonnull off, 3)) (ht : (pc : Int) + off = (a : Int)) (hs : im_ins K M (.ifnonnull off) a b w z pc lv st h = some (.inl c2)) : im_Go D ca ad base nL p l e R s m args below meth c Q pc lv st h c2 := by
  have hs : (match st with
    | .ref _ :: r => im_nx a lv r h
    | .null :: r => im_nx (pc + 3) lv r h
    | _ => none) = some (.inl c2) := hs
  split at hs
  · cases im_nx_eq hs
    exact im_go0 fun ls H locs cells slots hl k => lv_ifnonnull hx hb hdg ht k
  · cases im_nx_eq hs
    exact im_go0 fun ls H locs cells slots hl k => lv_ifnonnullN hx hb hdg k
  · cases hs
theorem is_tableswitch (hx : p.tables.exec = Jvm.exec) (hb : c.code = M.2.1) {dflt lo hi : Int} {offs : Array Int} {len : Nat} {a b w z : Nat} (hdg : decode M.2.1 pc = .ok (.tableswitch dflt lo hi offs, len))  (hs : im_ins K M (.tableswitch dflt lo hi offs) a b w z pc lv st h = some (.inl c2)) : im_Go D ca ad base nL p l e R s m args below meth c Q pc lv st h c2 := by
  obtain ⟨q, h1, hs1⟩ := im_bd hs
  cases im_1i_eq h1
  by_cases ho : q.1.toInt < lo ∨ hi < q.1.toInt
  · rw [if_pos ho] at hs1
    obtain ⟨h2, hs2⟩ := im_ite _ hs1
    cases im_nx_eq hs2
    exact im_go0 fun ls H locs cells slots hl k => lv_tableOut hx hb hdg ho h2 k
  · rw [if_neg ho] at hs1
    obtain ⟨off, h3, hs2⟩ := im_bd hs1
    obtain ⟨h2, hs3⟩ := im_ite _ hs2
    cases im_nx_eq hs3
    exact im_go0 fun ls H locs cells slots hl k => lv_tableIn hx hb hdg (fun z => ho (Or.inl z)) (fun z => ho (Or.inr z)) h3 h2 k
theorem is_lookupswitch (hx : p.tables.exec = Jvm.exec) (hb : c.code = M.2.1) {dflt : Int} {ps : Array (Int × Int)} {len : Nat} {a b w z : Nat} (hdg : decode M.2.1 pc = .ok (.lookupswitch dflt ps, len))  (hs : im_ins K M (.lookupswitch dflt ps) a b w z pc lv st h = some (.inl c2)) : im_Go D ca ad base nL p l e R s m args below meth c Q pc lv st h c2 := by
  obtain ⟨q, h1, hs1⟩ := im_bd hs
  cases im_1i_eq h1
  obtain ⟨h2, hs2⟩ := im_ite _ hs1
  cases im_nx_eq hs2
  exact im_go0 fun ls H locs cells slots hl k => lv_lookup hx hb hdg h2.1 rfl h2.2 k
end IMP
end
section
/-! INSTRUCTIONS that read and write cells -/
theorem im_wl_in : ∀ l ∈ im_wl, ∀ w ∈ l, w ∈ lw_tbl := by
  intro l hl w hw
  simp only [im_wl, List.mem_cons, List.not_mem_nil, or_false] at hl
  unfold lw_tbl tables_1
  simp only [List.mem_append]
  rcases hl with rfl | rfl | rfl | rfl | rfl | rfl | rfl | rfl
  · exact Or.inl hw
  · exact Or.inr (Or.inl hw)
  · exact Or.inr (Or.inr (Or.inl hw))
  · exact Or.inr (Or.inr (Or.inr (Or.inl hw)))
  · exact Or.inr (Or.inr (Or.inr (Or.inr (Or.inl hw))))
  · exact Or.inr (Or.inr (Or.inr (Or.inr (Or.inr (Or.inl hw)))))
  · exact Or.inr (Or.inr (Or.inr (Or.inr (Or.inr (Or.inr (Or.inl hw))))))
  · exact Or.inr (Or.inr (Or.inr (Or.inr (Or.inr (Or.inr (Or.inr (hw)))))))
theorem im_twS {x : Nat} {w : Cond} (h : im_tw x w = true) : w ∈ im_ws := by
  simp only [im_tw, Bool.and_eq_true, decide_eq_true_eq] at h
  refine List.mem_filter.mpr ⟨?_, h.2⟩
  have h1 := List.mem_of_getElem? h.1
  cases hc : im_wl[x / 256]? with
  | none =>
    rw [List.getD_eq_getElem?_getD, hc] at h1
    cases h1
  | some l =>
    rw [List.getD_eq_getElem?_getD, hc] at h1
    exact im_wl_in l (List.mem_of_getElem? hc) w h1
def im_lp : List (List Nat) := [[377, 379, 381, 383, 385, 387, 389, 391, 393, 395, 397, 399, 401, 403], [690, 692, 694, 696, 698, 700, 702], [653, 655, 657, 659, 661, 663], [556, 558, 560, 562], [621, 623, 625, 627, 629, 631], [341, 343, 345, 347], [586, 588, 590, 592, 594, 596, 598, 600, 602], [314, 316, 318, 320], [720, 722, 724], [468, 470, 472, 474, 476, 478, 480, 482, 484, 486, 488, 490, 492, 494, 512, 514, 516, 518], [534, 536, 538], [741, 743, 745, 747, 749, 751, 769, 771, 773, 775, 777, 779, 781, 783], [1402, 1404, 1406, 1408, 1410, 1412, 1414, 1416, 1418, 1420, 1422, 1424, 1426, 1428, 1430, 1432, 1434, 1436, 1438, 1440, 1442, 1444, 1446, 1448, 1450, 1452, 1454, 1456, 1458, 1460, 1462, 1464, 1466, 1468, 1470, 1472, 1474, 1476, 1478, 1480, 1482, 1484, 1486, 1488, 1490, 1492, 1494, 1496, 1498, 1500, 1502, 1504, 1506, 1508, 1510, 1512, 1514, 1516, 1518, 1536, 1538, 1540, 1542, 1544, 1546, 1548]]
def im_tyf (ci k : Nat) : FieldType := (im_fty.getD ci []).getD k .int
def im_clsB (ci : Nat) : Bool := match vwCl[ci]? with
  | some r => decide ((im_fty.getD ci []).length = r.2.2) && (List.range r.2.2).all (fun k => decide (parseFieldDescriptor (r.2.1 k).2.2.1 = some (im_tyf ci k)) && im_tw ((im_lp.getD ci []).getD k 0) (u_lay r.1 r.2.1 k) && (List.range r.2.2).all (fun j => decide (k = j) || decide ((r.2.1 k).2.1 ≠ (r.2.1 j).2.1)))
  | none => false
theorem im_clsA : (List.range 12).all im_clsB = true := by decide +kernel
theorem im_clsM : im_clsB 12 = true := by decide +kernel
theorem im_cls_all {ci : Nat} {r : vw_C} (h : vwCl[ci]? = some r) : (im_fty.getD ci []).length = r.2.2 ∧ (∀ k, k < r.2.2 → parseFieldDescriptor (r.2.1 k).2.2.1 = some (im_tyf ci k)) ∧ (∀ w ∈ u_ws r.1 r.2.1 r.2.2, w ∈ im_ws) ∧ (∀ a, a < r.2.2 → ∀ b, b < r.2.2 → a ≠ b → (r.2.1 a).2.1 ≠ (r.2.1 b).2.1) := by
  have hl : ci < 13 := (List.getElem?_eq_some_iff.mp h).1
  have hB : im_clsB ci = true := by
    by_cases h12 : ci = 12
    · rw [h12]; exact im_clsM
    · exact List.all_eq_true.mp im_clsA ci (List.mem_range.mpr (by omega))
  unfold im_clsB at hB
  rw [h] at hB
  simp only [Bool.and_eq_true, List.all_eq_true, decide_eq_true_eq, List.mem_range, Bool.or_eq_true] at hB
  refine ⟨hB.1, fun k hk => (hB.2 k hk).1.1, fun w hw => ?_, fun a ha b hb hne => ?_⟩
  · obtain ⟨k, hk, rfl⟩ := List.mem_map.mp hw
    exact im_twS (hB.2 k (List.mem_range.mp hk)).1.2
  · rcases (hB.2 a ha).2 b hb with e | e
    · exact absurd e hne
    · exact e
end
section
/-! INSTRUCTIONS that read and write cells -/
theorem im_fit_ok {ad : Nat → Nat} {ty : FieldType} {v : Value} (h : im_fit ty v = true) : narrow ty (im_v ad v) = im_v ad v ∧ fits ty (im_v ad v) = true := by
  unfold im_fit at h
  split at h
  · exact ⟨rfl, rfl⟩
  · rename_i x
    simp only [Bool.or_eq_true, decide_eq_true_eq] at h
    rcases h with rfl | rfl
    · exact ⟨rfl, rfl⟩
    · exact ⟨rfl, rfl⟩
  · exact ⟨rfl, rfl⟩
  · exact ⟨rfl, rfl⟩
  · exact ⟨rfl, rfl⟩
  · exact ⟨rfl, rfl⟩
  · cases h
theorem im_getD_map {fs : List Value} {b : Nat} {v : Value} (ad : Nat → Nat) (h : fs[b]? = some v) : (fs.map (im_v ad))[b]? = some (im_v ad v) := by rw [List.getElem?_map, h]; rfl
theorem im_upd {l : List Int32} {k : Nat} {x : Int32} (hk : k < l.length) : upd (fun j => l.getD j 0) k x = fun j => (l.set k x).getD j 0 := by
  funext j
  simp only [upd, List.getD_eq_getElem?_getD, List.getElem?_set]
  by_cases h : j = k
  · subst h; simp [hk]
  · simp [h, Ne.symm h]
theorem im_updL {l : List Int64} {k : Nat} {x : Int64} (hk : k < l.length) : vp_updL (fun j => l.getD j 0) k x = fun j => (l.set k x).getD j 0 := by
  funext j
  simp only [vp_updL, List.getD_eq_getElem?_getD, List.getElem?_set]
  by_cases h : j = k
  · subst h; simp [hk]
  · simp [h, Ne.symm h]
theorem im_updQ {ad : Nat → Nat} {l : List (Option Nat)} {k x : Nat} (hk : k < l.length) : va_up (fun j => (l.getD j none).map ad) k (some (ad x)) = fun j => ((l.set k (some x)).getD j none).map ad := by
  funext j
  simp only [va_up, List.getD_eq_getElem?_getD, List.getElem?_set]
  by_cases h : j = k
  · subst h; simp [hk]
  · simp [h, Ne.symm h]
theorem im_in_lt {i : Int32} {n : Nat} (h : vp_in i n) : i.toNatClampNeg < n := Nat.not_le.mp fun q => h (Or.inr q)
section IMH
variable {p : Program} {l : Launch} {e : Env} {R : Room} {s : State} {m : MethodId} {args : Array Value} {below : List Frame} {meth : Method} {c : Code} {Q : State → Prop} {D : va_G} {ca : Nat → ClassId} {ad : Nat → Nat} {base nL : Nat} {K : im_K} {M : im_M} {pc : Nat} {lv : im_L} {st : List Value} {h : im_H} {c2 : im_C} {ms : List im_M}
/-- one cell is changed, its size isn't -/
theorem im_go2 {pc2 i : Nat} {st2 : List Value} {x y : im_E} (hx : h[i]? = some x) (hy : im_sl1 y = im_sl1 x) (k : ∀ (ls : Array Slot) (H : Heap) (locs : List Loc) (cells slots : Nat), va_P D vwCl (im_w ca ad h) H → va_S (im_up base) s.heap H locs → (∀ (H1 : Heap) (locs1 : List Loc), va_P D vwCl ((im_w ca ad h).set i (ad (16 + i), im_e ca ad y)) H1 → va_S (im_up base) s.heap H1 locs1 → W p l e R s m args below meth c H1 locs1 cells slots Q (F0 m pc2 ls (st2.map (im_v ad)))) → W p l e R s m args below meth c H locs cells slots Q (F0 m pc ls (st.map (im_v ad)))) : im_Go D ca ad base nL p l e R s m args below meth c Q pc lv st h (pc2, lv, st2, h.set i y) := by
  have e1 : (h.set i y).length = h.length := List.length_set
  have e2 : im_sl (h.set i y) = im_sl h := im_sl_set hx hy
  refine ⟨⟨Nat.le_of_eq e1.symm, Nat.le_of_eq e2.symm⟩, fun n0 s0 ls H locs cells slots _ _ hI kk => ?_⟩
  obtain ⟨hl, hP, hz, hS, hc, hq⟩ := hI
  refine k ls H locs cells slots hP hS fun H1 locs1 hP1 hS1 => ?_
  rw [im_w_set] at hP1
  exact kk ls H1 locs1 cells slots ⟨hl, hP1, hz, hS1, by show cells + n0 = (h.set i y).length; rw [e1]; exact hc, by show slots + s0 = im_sl (h.set i y); rw [e2]; exact hq⟩
/-- reading alone -/
theorem im_go3 {pc2 : Nat} {st2 : List Value} (k : ∀ (ls : Array Slot) (H : Heap) (locs : List Loc) (cells slots : Nat), va_P D vwCl (im_w ca ad h) H → va_S (im_up base) s.heap H locs → W p l e R s m args below meth c H locs cells slots Q (F0 m pc2 ls (st2.map (im_v ad))) → W p l e R s m args below meth c H locs cells slots Q (F0 m pc ls (st.map (im_v ad)))) : im_Go D ca ad base nL p l e R s m args below meth c Q pc lv st h (pc2, lv, st2, h) :=
  ⟨⟨Nat.le_refl _, Nat.le_refl _⟩, fun _ _ ls H locs cells slots _ _ hI kk => k ls H locs cells slots hI.2.1 hI.2.2.2.1 (kk ls H locs cells slots hI)⟩
theorem is_getfield (C : im_Cx D ca ad base K M p R s m args meth c) {idx a b w z x : Nat} (hdg : decode M.2.1 pc = .ok (.getfield idx, 3)) (hok : im_ok2 ms M (.getfield idx) a b w z x pc = true) (hs : im_ins K M (.getfield idx) a b w z pc lv st h = some (.inl c2)) : im_Go D ca ad base nL p l e R s m args below meth c Q pc lv st h c2 := by
  obtain ⟨hx, hb, hml, hown, hts, hSF, -, -, -, had, -, -, -⟩ := C
  have hok : (match vwCl[a]? with
    | some r => decide (b < r.2.2) && im_tw x (.fieldLink M.1.cls idx (r.2.1 b).1 (r.2.1 b).2.1 (r.2.1 b).2.2.1)
    | none => false) = true := hok
  split at hok
  · rename_i r hr
    simp only [Bool.and_eq_true, decide_eq_true_eq] at hok
    obtain ⟨q, h1, hs1⟩ := im_bd hs
    obtain ⟨fs, h2, hs2⟩ := im_bd hs1
    obtain ⟨v, h3, hs3⟩ := im_bd hs2
    obtain ⟨i, hi, hc⟩ := im_obj_eq h2
    have e1 := im_1r_eq h1
    cases im_nx_eq hs3
    subst e1
    refine im_go3 fun ls H locs cells slots hP hS k => ?_
    have hw := im_w_at (ca := ca) (ad := ad) hc
    rw [List.map_cons, show im_v ad (.ref q.1) = .ref (ad (16 + i)) by rw [← hi]; rfl]
    exact va_get (C := r.1) (T := r.2.1) (N := r.2.2) hx hb hts (im_cls_all hr).2.2.1 hown hSF.1 hP i hw hr b hok.1 (hts _ (im_twS hok.2)) (fun _ h9 => h9) (im_getD_map ad h3) hdg k
  · cases hok
theorem is_putfield (C : im_Cx D ca ad base K M p R s m args meth c) {idx a b w z x : Nat} (hdg : decode M.2.1 pc = .ok (.putfield idx, 3)) (hok : im_ok2 ms M (.putfield idx) a b w z x pc = true) (hs : im_ins K M (.putfield idx) a b w z pc lv st h = some (.inl c2)) : im_Go D ca ad base nL p l e R s m args below meth c Q pc lv st h c2 := by
  obtain ⟨hx, hb, hml, hown, hts, hSF, hin, -, -, had, hfty, -, -⟩ := C
  have hok : (match vwCl[a]? with
    | some r => decide (b < r.2.2) && im_tw x (.fieldLink M.1.cls idx (r.2.1 b).1 (r.2.1 b).2.1 (r.2.1 b).2.2.1) && (!(r.2.1 b).2.2.2 || (decide (M.1.name = "<init>") && decide ((r.2.1 b).1 = M.1.cls)))
    | none => false) = true := hok
  split at hok
  · rename_i r hr
    simp only [Bool.and_eq_true, decide_eq_true_eq, Bool.or_eq_true, Bool.not_eq_true'] at hok
    obtain ⟨⟨hbN, hlk⟩, hfin⟩ := hok
    obtain ⟨v, h1, hs1⟩ := im_bd hs
    obtain ⟨q, h2, hs2⟩ := im_bd hs1
    obtain ⟨fs, h3, hs3⟩ := im_bd hs2
    obtain ⟨tys, h4, hs4⟩ := im_bd hs3
    obtain ⟨ty, h5, hs5⟩ := im_bd hs4
    obtain ⟨h6, hs6⟩ := im_ite _ hs5
    obtain ⟨i, hi, hc⟩ := im_obj_eq h3
    have e1 := im_pop_eq h1
    rw [im_1r_eq h2] at e1
    cases im_nx_eq hs6
    subst e1
    obtain ⟨c1, c2, c3, c4⟩ := im_cls_all hr
    have hty : im_tyf a b = ty := by
      rw [hfty] at h4
      simp [im_tyf, List.getD_eq_getElem?_getD, h4, h5]
    have hft := im_fit_ok (ad := ad) h6.1
    have hw := im_w_at (ca := ca) (ad := ad) hc
    have hpd : parseFieldDescriptor (r.2.1 b).2.2.1 = some ty := by rw [c2 b hbN, hty]
    rw [show q.1 - 16 = i by omega]
    refine im_go2 hc (by simp [im_sl1]) fun ls H locs cells slots hP hS kk => ?_
    rw [List.map_cons, List.map_cons, show im_v ad (.ref q.1) = .ref (ad (16 + i)) by rw [← hi]; rfl]
    have hkk : ∀ (H1 : Heap) (locs1 : List Loc), va_P D vwCl ((im_w ca ad h).set i (ad (16 + i), .inr (a, (fs.map (im_v ad)).set b (im_v ad v.1)))) H1 → va_D (im_up base) ((im_w ca ad h).set i (ad (16 + i), .inr (a, (fs.map (im_v ad)).set b (im_v ad v.1)))) → va_S (im_up base) s.heap H1 locs1 → W p l e R s m args below meth c H1 locs1 cells slots Q (F0 m (pc + 3) ls (q.2.map (im_v ad))) := fun H1 locs1 hP1 _ hS1 => by
      rw [← List.map_set] at hP1
      exact kk H1 locs1 hP1 hS1
    by_cases hf : (r.2.1 b).2.2.2 = true
    · rcases hfin with hf0 | ⟨hin2, hdecl⟩
      · rw [hf] at hf0; cases hf0
      · exact va_putF (C := r.1) (T := r.2.1) (N := r.2.2) hx hb hts c3 (im_tyf a) c2 c4 hown hSF.1 hP (im_w_D had h) hS i hw hr b hbN (hts _ (im_twS hlk)) (fun _ h9 => h9) hf (hin hin2) hdecl hpd hft.1 hft.2 (by rw [List.length_map]; exact h6.2) hdg hkk
    · exact va_put (C := r.1) (T := r.2.1) (N := r.2.2) hx hb hts c3 (im_tyf a) c2 c4 hown hSF.1 hP (im_w_D had h) hS i hw hr b hbN (hts _ (im_twS hlk)) (fun _ h9 => h9) (by simpa using hf) hpd hft.1 hft.2 (by rw [List.length_map]; exact h6.2) hdg hkk
  · cases hok
end IMH
end
section
/-! STATICS, CONSTANTS, ROWS -/
section IMA
variable {p : Program} {l : Launch} {e : Env} {R : Room} {s : State} {m : MethodId} {args : Array Value} {below : List Frame} {meth : Method} {c : Code} {Q : State → Prop} {D : va_G} {ca : Nat → ClassId} {ad : Nat → Nat} {base nL : Nat} {K : im_K} {M : im_M} {pc : Nat} {lv : im_L} {st : List Value} {h : im_H} {c2 : im_C} {ms : List im_M}
theorem is_getstatic (C : im_Cx D ca ad base K M p R s m args meth c) {idx : Nat} {a b w z x : Nat} (hdg : decode M.2.1 pc = .ok (.getstatic idx, 3)) (hok : im_ok2 ms M (.getstatic idx) a b w z x pc = true) (hs : im_ins K M (.getstatic idx) a b w z pc lv st h = some (.inl c2)) : im_Go D ca ad base nL p l e R s m args below meth c Q pc lv st h c2 := by
  obtain ⟨hx, hb, hml, hown, hts, hSF, hin, hR1, hR2, had, hfty, hlc, htx⟩ := C
  have hok : (match im_sn[a]? with
    | some n => if b = 0 then im_tw x (.fieldLink M.1.cls idx "RubbleCity" n "[I") else decide (Cond.fieldLinkNest M.1.cls idx "RubbleCity" n "[I" "RubbleCity" ∈ im_nw)
    | none => false) = true := hok
  obtain ⟨h1, hs1⟩ := im_ite _ hs
  split at hok
  · rename_i n hn
    have hZ := hSF.2.2.2.1 a n hn
    cases im_nx_eq hs1
    by_cases hb0 : b = 0
    · rw [if_pos hb0] at hok
      exact im_go3 fun ls H locs cells slots hP hS k => va_gets hx hb hZ hS hown (hts _ (im_twS hok)) (fun _ h9 => h9) hdg k
    · rw [if_neg hb0] at hok
      have hN := va_Nw.use (A := args) rfl (hSF.2.1 _ (of_decide_eq_true hok))
      exact im_go3 fun ls H locs cells slots hP hS k => va_getsN hx hb hZ hS hown hN (fun _ h9 => h9) hdg k
  · cases hok
theorem is_ldc (C : im_Cx D ca ad base K M p R s m args meth c) {idx : Nat} {a b w z x : Nat} (hdg : decode M.2.1 pc = .ok (.ldc idx, 2)) (hok : im_ok2 ms M (.ldc idx) a b w z x pc = true) (hs : im_ins K M (.ldc idx) a b w z pc lv st h = some (.inl c2)) : im_Go D ca ad base nL p l e R s m args below meth c Q pc lv st h c2 := by
  obtain ⟨hx, hb, hml, hown, hts, hSF, hin, hR1, hR2, had, hfty, hlc, htx⟩ := C
  have hok : (match im_str[a]? with
    | some t => decide (M.1.cls = t.1) && decide (idx = t.2.1)
    | none => false) = true := hok
  obtain ⟨h1, hs1⟩ := im_ite _ hs
  split at hok
  · rename_i t ht
    simp only [Bool.and_eq_true, decide_eq_true_eq] at hok
    have hZ := hSF.2.2.2.2.2.1 a t ht
    cases im_nx_eq hs1
    rw [← hok.1, ← hok.2] at hZ
    exact im_go3 fun ls H locs cells slots hP hS k => va_ldcS hx hb hown hZ hdg k
  · cases hok
theorem is_ldc2_w (C : im_Cx D ca ad base K M p R s m args meth c) {idx : Nat} {a b w z x : Nat} (hdg : decode M.2.1 pc = .ok (.ldc2_w idx, 3)) (hok : im_ok2 ms M (.ldc2_w idx) a b w z x pc = true) (hs : im_ins K M (.ldc2_w idx) a b w z pc lv st h = some (.inl c2)) : im_Go D ca ad base nL p l e R s m args below meth c Q pc lv st h c2 := by
  obtain ⟨hx, hb, hml, hown, hts, hSF, hin, hR1, hR2, had, hfty, hlc, htx⟩ := C
  have hok : (match im_lc[a]? with
    | some v => im_tw x (.constantLong M.1.cls idx v)
    | none => false) = true := hok
  obtain ⟨v, h1, hs1⟩ := im_bd hs
  rw [hlc] at h1
  rw [h1] at hok
  cases im_nx_eq hs1
  exact im_go0 fun ls H locs cells slots hl k => lv_ldc2 hx hb hown (hts _ (im_twS hok)) hdg k
theorem im_ref {ad : Nat → Nat} {r i : Nat} (hi : r = 16 + i) (st : List Value) : (Value.ref r :: st).map (im_v ad) = .ref (ad (16 + i)) :: st.map (im_v ad) := by rw [← hi]; rfl
theorem im_tys_at (ca : Nat → ClassId) {t : Nat} (h : t < 8) : ∃ ty, (im_tys ca)[t]? = some (ca t, ty) := by
  rcases (show t = 0 ∨ t = 1 ∨ t = 2 ∨ t = 3 ∨ t = 4 ∨ t = 5 ∨ t = 6 ∨ t = 7 by omega) with rfl | rfl | rfl | rfl | rfl | rfl | rfl | rfl <;> exact ⟨_, rfl⟩
theorem im_len_eq {h : im_H} {r n : Nat} (e : im_len h r = some n) : ∃ i x t v, r = 16 + i ∧ h[i]? = some x ∧ t < 8 ∧ ∀ (ca : Nat → ClassId) (ad : Nat → Nat), ∃ f, im_e ca ad x = .inl (ca t, n, f) ∧ v = Int32.ofNat n := by
  unfold im_len at e
  split at e
  · rename_i hr
    split at e
    · rename_i t l hq
      obtain ⟨h1, h2⟩ := im_ite _ e
      cases h2
      exact ⟨r - 16, _, t, _, by omega, hq, by omega, fun ca ad => ⟨_, rfl, rfl⟩⟩
    · rename_i t l hq
      obtain ⟨h1, h2⟩ := im_ite _ e
      cases h2
      exact ⟨r - 16, _, t, _, by omega, hq, by omega, fun ca ad => ⟨_, rfl, rfl⟩⟩
    · rename_i t l hq
      obtain ⟨h1, h2⟩ := im_ite _ e
      cases h2
      exact ⟨r - 16, _, t, _, by omega, hq, by omega, fun ca ad => ⟨_, rfl, rfl⟩⟩
    · cases e
  · cases e
theorem is_arraylength (C : im_Cx D ca ad base K M p R s m args meth c)  {a b w z x : Nat} (hdg : decode M.2.1 pc = .ok (.arraylength, 1)) (hs : im_ins K M (.arraylength) a b w z pc lv st h = some (.inl c2)) : im_Go D ca ad base nL p l e R s m args below meth c Q pc lv st h c2 := by
  obtain ⟨hx, hb, hml, hown, hts, hSF, hin, hR1, hR2, had, hfty, hlc, htx⟩ := C
  obtain ⟨q, h1, hs1⟩ := im_bd hs
  obtain ⟨n, h2, hs2⟩ := im_bd hs1
  cases im_1r_eq h1
  cases im_nx_eq hs2
  by_cases hr : 16 ≤ q.1
  · rw [if_pos hr] at h2
    obtain ⟨i, y, t, v, hi, hy, ht, hf⟩ := im_len_eq h2
    obtain ⟨f, hf, -⟩ := hf ca ad
    obtain ⟨ty, hty⟩ := im_tys_at ca ht
    refine im_go3 fun ls H locs cells slots hP hS k => ?_
    rw [im_ref hi]
    have hw := im_w_at (ca := ca) (ad := ad) hy
    rw [hf] at hw
    exact va_alen hx hb hSF.1 hP i t hw hty rfl hdg k
  · rw [if_neg hr] at h2
    obtain ⟨l0, h3, rfl⟩ := Option.map_eq_some_iff.mp h2
    have hT := hSF.2.2.2.2.1 q.1 l0 h3
    exact im_go3 fun ls H locs cells slots hP hS k => va_tlen hx hb hT hS rfl hdg k
theorem is_iaload (C : im_Cx D ca ad base K M p R s m args meth c)  {a b w z x : Nat} (hdg : decode M.2.1 pc = .ok (.iaload, 1)) (hs : im_ins K M (.iaload) a b w z pc lv st h = some (.inl c2)) : im_Go D ca ad base nL p l e R s m args below meth c Q pc lv st h c2 := by
  obtain ⟨hx, hb, hml, hown, hts, hSF, hin, hR1, hR2, had, hfty, hlc, htx⟩ := C
  obtain ⟨q, h1, hs1⟩ := im_bd hs
  obtain ⟨r, h2, hs2⟩ := im_bd hs1
  obtain ⟨l0, h3, hs3⟩ := im_bd hs2
  obtain ⟨h4, hs4⟩ := im_ite _ hs3
  have e1 := im_1i_eq h1
  rw [im_1r_eq h2] at e1
  cases im_nx_eq hs4
  subst e1
  by_cases hr : 16 ≤ r.1
  · rw [if_pos hr] at h3
    obtain ⟨i, hi, hc⟩ := im_ia_eq h3
    refine im_go3 fun ls H locs cells slots hP hS k => ?_
    rw [List.map_cons, im_ref hi]
    exact va_iald hx hb hSF.1 hP i 0 (im_w_at (ca := ca) (ad := ad) hc) rfl (im_in_vp h4) hdg k
  · rw [if_neg hr] at h3
    have hT := hSF.2.2.2.2.1 r.1 l0 h3
    exact im_go3 fun ls H locs cells slots hP hS k => va_ti hx hb hT hS (im_in_vp h4) rfl hdg k
theorem is_baload (C : im_Cx D ca ad base K M p R s m args meth c)  {a b w z x : Nat} (hdg : decode M.2.1 pc = .ok (.baload, 1)) (hs : im_ins K M (.baload) a b w z pc lv st h = some (.inl c2)) : im_Go D ca ad base nL p l e R s m args below meth c Q pc lv st h c2 := by
  obtain ⟨hx, hb, hml, hown, hts, hSF, hin, hR1, hR2, had, hfty, hlc, htx⟩ := C
  obtain ⟨q, h1, hs1⟩ := im_bd hs
  obtain ⟨r, h2, hs2⟩ := im_bd hs1
  obtain ⟨l0, h3, hs3⟩ := im_bd hs2
  obtain ⟨h4, hs4⟩ := im_ite _ hs3
  have e1 := im_1i_eq h1
  rw [im_1r_eq h2] at e1
  cases im_nx_eq hs4
  subst e1
  obtain ⟨i, hi, hc⟩ := im_ia_eq h3
  refine im_go3 fun ls H locs cells slots hP hS k => ?_
  rw [List.map_cons, im_ref hi]
  exact va_zald hx hb hSF.1 hP i 1 (im_w_at (ca := ca) (ad := ad) hc) rfl (im_in_vp h4) hdg k
theorem is_laload (C : im_Cx D ca ad base K M p R s m args meth c)  {a b w z x : Nat} (hdg : decode M.2.1 pc = .ok (.laload, 1)) (hs : im_ins K M (.laload) a b w z pc lv st h = some (.inl c2)) : im_Go D ca ad base nL p l e R s m args below meth c Q pc lv st h c2 := by
  obtain ⟨hx, hb, hml, hown, hts, hSF, hin, hR1, hR2, had, hfty, hlc, htx⟩ := C
  obtain ⟨q, h1, hs1⟩ := im_bd hs
  obtain ⟨r, h2, hs2⟩ := im_bd hs1
  obtain ⟨l0, h3, hs3⟩ := im_bd hs2
  obtain ⟨h4, hs4⟩ := im_ite _ hs3
  have e1 := im_1i_eq h1
  rw [im_1r_eq h2] at e1
  cases im_nx_eq hs4
  subst e1
  obtain ⟨i, hi, hc⟩ := im_la_eq h3
  refine im_go3 fun ls H locs cells slots hP hS k => ?_
  rw [List.map_cons, im_ref hi]
  exact va_lald hx hb hSF.1 hP i 2 (im_w_at (ca := ca) (ad := ad) hc) rfl (im_in_vp h4) hdg k
theorem im_rf_v (ad : Nat → Nat) (o : Option Nat) : im_v ad (im_rf o) = va_rf (o.map ad) := by cases o <;> rfl
theorem is_aaload (C : im_Cx D ca ad base K M p R s m args meth c)  {a b w z x : Nat} (hdg : decode M.2.1 pc = .ok (.aaload, 1)) (hs : im_ins K M (.aaload) a b w z pc lv st h = some (.inl c2)) : im_Go D ca ad base nL p l e R s m args below meth c Q pc lv st h c2 := by
  obtain ⟨hx, hb, hml, hown, hts, hSF, hin, hR1, hR2, had, hfty, hlc, htx⟩ := C
  obtain ⟨q, h1, hs1⟩ := im_bd hs
  obtain ⟨r, h2, hs2⟩ := im_bd hs1
  obtain ⟨l0, h3, hs3⟩ := im_bd hs2
  obtain ⟨h4, hs4⟩ := im_ite _ hs3
  have e1 := im_1i_eq h1
  rw [im_1r_eq h2] at e1
  cases im_nx_eq hs4
  subst e1
  obtain ⟨i, hi, hc⟩ := im_qa_eq h3
  refine im_go3 fun ls H locs cells slots hP hS k => ?_
  rw [List.map_cons, im_rf_v] at k
  rw [List.map_cons, im_ref hi]
  have hw := im_w_at (ca := ca) (ad := ad) hc
  obtain ⟨hin4, ht3, ht8⟩ := h4
  have hin5 := im_in_vp hin4
  have hlt := im_in_lt hin5
  have hrow : ∀ (ty : FieldType), ty.isReference = true → (im_tys ca)[l0.1]? = some (ca l0.1, ty) → W p l e R s m args below meth c H locs cells slots Q (F0 m pc ls (.int q.1 :: .ref (ad (16 + i)) :: r.2.map (im_v ad))) := fun ty hrf hty =>
    W.aald (v := va_rf ((l0.2.getD q.1.toNatClampNeg none).map ad)) (ty := ty) hx hb (hP i _ hw) ((hSF.1.2 l0.1 _ hty).1 l0.2.length (fun j => va_rf ((l0.2.getD j none).map ad))) hrf (fun q => by cases q) (by show ¬ (q.1 < 0 ∨ (arrV _ _ _).slots.size ≤ _); rw [arrV_size]; exact hin5) (by show (arrV _ _ _).slots[_]? = _; rw [arrV_read _ _ hlt]) rfl rfl hdg k
  rcases (show l0.1 = 3 ∨ l0.1 = 4 ∨ l0.1 = 5 ∨ l0.1 = 6 ∨ l0.1 = 7 by omega) with e9 | e9 | e9 | e9 | e9
  · exact hrow (.object RX7) rfl (by rw [e9]; rfl)
  · exact hrow (.object RX5) rfl (by rw [e9]; rfl)
  · exact hrow (.object RX1) rfl (by rw [e9]; rfl)
  · exact hrow (.object RX8) rfl (by rw [e9]; rfl)
  · exact hrow (.array .int) rfl (by rw [e9]; rfl)
theorem is_iastore (C : im_Cx D ca ad base K M p R s m args meth c)  {a b w z x : Nat} (hdg : decode M.2.1 pc = .ok (.iastore, 1)) (hs : im_ins K M (.iastore) a b w z pc lv st h = some (.inl c2)) : im_Go D ca ad base nL p l e R s m args below meth c Q pc lv st h c2 := by
  obtain ⟨hx, hb, hml, hown, hts, hSF, hin, hR1, hR2, had, hfty, hlc, htx⟩ := C
  obtain ⟨y, h1, hs1⟩ := im_bd hs
  obtain ⟨q, h2, hs2⟩ := im_bd hs1
  obtain ⟨r, h3, hs3⟩ := im_bd hs2
  obtain ⟨l0, h4, hs4⟩ := im_bd hs3
  obtain ⟨h5, hs5⟩ := im_ite _ hs4
  have e1 := im_1i_eq h1
  rw [im_1i_eq h2, im_1r_eq h3] at e1
  cases im_nx_eq hs5
  subst e1
  obtain ⟨i, hi, hc⟩ := im_ia_eq h4
  rw [show r.1 - 16 = i by omega]
  refine im_go2 hc (by simp [im_sl1]) fun ls H locs cells slots hP hS kk => ?_
  rw [List.map_cons, List.map_cons, im_ref hi]
  refine va_iast hx hb hSF.1 hP (im_w_D had h) hS i 0 (im_w_at (ca := ca) (ad := ad) hc) rfl (im_in_vp h5) hdg fun H1 locs1 hP1 _ hS1 => kk H1 locs1 ?_ hS1
  rw [im_upd (im_in_lt (im_in_vp h5))] at hP1
  simpa [im_e] using hP1
theorem is_bastore (C : im_Cx D ca ad base K M p R s m args meth c)  {a b w z x : Nat} (hdg : decode M.2.1 pc = .ok (.bastore, 1)) (hs : im_ins K M (.bastore) a b w z pc lv st h = some (.inl c2)) : im_Go D ca ad base nL p l e R s m args below meth c Q pc lv st h c2 := by
  obtain ⟨hx, hb, hml, hown, hts, hSF, hin, hR1, hR2, had, hfty, hlc, htx⟩ := C
  obtain ⟨y, h1, hs1⟩ := im_bd hs
  obtain ⟨q, h2, hs2⟩ := im_bd hs1
  obtain ⟨r, h3, hs3⟩ := im_bd hs2
  obtain ⟨l0, h4, hs4⟩ := im_bd hs3
  obtain ⟨h5, hs5⟩ := im_ite _ hs4
  have e1 := im_1i_eq h1
  rw [im_1i_eq h2, im_1r_eq h3] at e1
  cases im_nx_eq hs5
  subst e1
  obtain ⟨i, hi, hc⟩ := im_ia_eq h4
  rw [show r.1 - 16 = i by omega]
  refine im_go2 hc (by simp [im_sl1]) fun ls H locs cells slots hP hS kk => ?_
  rw [List.map_cons, List.map_cons, im_ref hi]
  refine va_zast hx hb hSF.1 hP (im_w_D had h) hS i 1 (im_w_at (ca := ca) (ad := ad) hc) rfl (im_in_vp h5.1) hdg fun H1 locs1 hP1 _ hS1 => kk H1 locs1 ?_ hS1
  have hnar : vp_nar .boolean y.1 = y.1 := by
    rcases h5.2 with e9 | e9 <;> (rw [e9]; decide +kernel)
  rw [hnar, im_upd (im_in_lt (im_in_vp h5.1))] at hP1
  simpa [im_e] using hP1
theorem is_lastore (C : im_Cx D ca ad base K M p R s m args meth c)  {a b w z x : Nat} (hdg : decode M.2.1 pc = .ok (.lastore, 1)) (hs : im_ins K M (.lastore) a b w z pc lv st h = some (.inl c2)) : im_Go D ca ad base nL p l e R s m args below meth c Q pc lv st h c2 := by
  obtain ⟨hx, hb, hml, hown, hts, hSF, hin, hR1, hR2, had, hfty, hlc, htx⟩ := C
  obtain ⟨y, h1, hs1⟩ := im_bd hs
  obtain ⟨q, h2, hs2⟩ := im_bd hs1
  obtain ⟨r, h3, hs3⟩ := im_bd hs2
  obtain ⟨l0, h4, hs4⟩ := im_bd hs3
  obtain ⟨h5, hs5⟩ := im_ite _ hs4
  have e1 := im_1l_eq h1
  rw [im_1i_eq h2, im_1r_eq h3] at e1
  cases im_nx_eq hs5
  subst e1
  obtain ⟨i, hi, hc⟩ := im_la_eq h4
  rw [show r.1 - 16 = i by omega]
  refine im_go2 hc (by simp [im_sl1]) fun ls H locs cells slots hP hS kk => ?_
  rw [List.map_cons, List.map_cons, im_ref hi]
  refine va_last hx hb hSF.1 hP (im_w_D had h) hS i 2 (im_w_at (ca := ca) (ad := ad) hc) rfl (im_in_vp h5) hdg fun H1 locs1 hP1 _ hS1 => kk H1 locs1 ?_ hS1
  rw [im_updL (im_in_lt (im_in_vp h5))] at hP1
  simpa [im_e] using hP1
theorem is_aastore (C : im_Cx D ca ad base K M p R s m args meth c)  {a b w z x : Nat} (hdg : decode M.2.1 pc = .ok (.aastore, 1)) (hs : im_ins K M (.aastore) a b w z pc lv st h = some (.inl c2)) : im_Go D ca ad base nL p l e R s m args below meth c Q pc lv st h c2 := by
  obtain ⟨hx, hb, hml, hown, hts, hSF, hin, hR1, hR2, had, hfty, hlc, htx⟩ := C
  obtain ⟨y, h1, hs1⟩ := im_bd hs
  obtain ⟨q, h2, hs2⟩ := im_bd hs1
  obtain ⟨r, h3, hs3⟩ := im_bd hs2
  obtain ⟨l0, h4, hs4⟩ := im_bd hs3
  obtain ⟨fs, h6, hs5⟩ := im_bd hs4
  obtain ⟨h5, hs6⟩ := im_ite _ hs5
  have e1 := im_1r_eq h1
  rw [im_1i_eq h2, im_1r_eq h3] at e1
  cases im_nx_eq hs6
  subst e1
  obtain ⟨i, hi, hc⟩ := im_qa_eq h4
  obtain ⟨j, hj, hd⟩ := im_obj_eq h6
  rw [show r.1 - 16 = i by omega]
  refine im_go2 hc (by simp [im_sl1]) fun ls H locs cells slots hP hS kk => ?_
  rw [List.map_cons, List.map_cons, im_ref hi, show im_v ad (.ref y.1) = .ref (ad (16 + j)) by rw [← hj]; rfl]
  have hin5 := im_in_vp h5.1
  have hkk : ∀ (H1 : Heap) (locs1 : List Loc), va_P D vwCl ((im_w ca ad h).set i (ad (16 + i), .inl (ca l0.1, l0.2.length, .inr (.inr (.inr (.inr (va_up (fun j => (l0.2.getD j none).map ad) q.1.toNatClampNeg (some (ad (16 + j)))))))))) H1 → va_D (im_up base) ((im_w ca ad h).set i (ad (16 + i), .inl (ca l0.1, l0.2.length, .inr (.inr (.inr (.inr (va_up (fun j => (l0.2.getD j none).map ad) q.1.toNatClampNeg (some (ad (16 + j)))))))))) → va_S (im_up base) s.heap H1 locs1 → W p l e R s m args below meth c H1 locs1 cells slots Q (F0 m (pc + 1) ls (r.2.map (im_v ad))) := fun H1 locs1 hP1 _ hS1 => by
    refine kk H1 locs1 ?_ hS1
    rw [im_updQ (im_in_lt hin5)] at hP1
    rw [hj]
    simpa [im_e] using hP1
  have hw := im_w_at (ca := ca) (ad := ad) hc
  have hv := im_w_at (ca := ca) (ad := ad) hd
  obtain ⟨-, ht3, ht7⟩ := h5
  rcases (show l0.1 = 3 ∨ l0.1 = 4 ∨ l0.1 = 5 ∨ l0.1 = 6 by omega) with e9 | e9 | e9 | e9
  · rw [e9] at hv hw hkk
    exact va_astq (r := (RX7, TX7, 4)) hx hb hSF.1 hP (im_w_D had h) hS i 3 j 7 hw rfl hv rfl hin5 hdg hkk
  · rw [e9] at hv hw hkk
    exact va_astq (r := (RX5, TX5, 4)) hx hb hSF.1 hP (im_w_D had h) hS i 4 j 5 hw rfl hv rfl hin5 hdg hkk
  · rw [e9] at hv hw hkk
    exact va_astq (r := (RX1, TX1, 7)) hx hb hSF.1 hP (im_w_D had h) hS i 5 j 1 hw rfl hv rfl hin5 hdg hkk
  · rw [e9] at hv hw hkk
    exact va_astq (r := (RX8, TX8, 3)) hx hb hSF.1 hP (im_w_D had h) hS i 6 j 8 hw rfl hv rfl hin5 hdg hkk
end IMA
end
section
/-! NEW CELLS; arraycopy; Object's constructor -/
theorem im_w_native : Cond.native arraycopyName ∈ im_ws := im_twS (x := 1245) (by decide +kernel)
theorem im_w_static : Cond.static arraycopyName ∈ im_ws := im_twS (x := 1244) (by decide +kernel)
theorem im_w_system : Cond.initialized "java/lang/System" ∈ im_ws := im_twS (x := 276) (by decide +kernel)
theorem im_w_oi : Cond.instanceMethod objectInit ∈ im_ws := im_twS (x := 283) (by decide +kernel)
theorem im_w_oc : Cond.code objectInit ⟨#[0xb1]⟩ 1 none ∈ im_ws := im_twS (x := 284) (by decide +kernel)
theorem im_w_int : Cond.arrayClass .int ∈ im_ws := im_twS (x := 323) (by decide +kernel)
theorem im_w_bool : Cond.arrayClass .boolean ∈ im_ws := im_twS (x := 521) (by decide +kernel)
theorem im_w_long : Cond.arrayClass .long ∈ im_ws := im_twS (x := 1551) (by decide +kernel)
def im_ip : List (Nat × Nat) := [(286, 258), (668, 268), (635, 267), (544, 264), (606, 266), (324, 261), (566, 265), (298, 260), (705, 269), (407, 262), (523, 263), (278, 257), (1319, 270)]
def im_instB (ci : Nat) : Bool := match vwCl[ci]? with
  | some r => im_tw (im_ip.getD ci (0, 0)).1 (.instantiable r.1 r.2.2) && im_tw (im_ip.getD ci (0, 0)).2 (.initialized r.1)
  | none => false
theorem im_instA : (List.range 13).all im_instB = true := by decide +kernel
theorem im_inst {ci : Nat} {r : vw_C} (h : vwCl[ci]? = some r) : Cond.instantiable r.1 r.2.2 ∈ im_ws ∧ Cond.initialized r.1 ∈ im_ws := by
  have hl : ci < 13 := (List.getElem?_eq_some_iff.mp h).1
  have hB := List.all_eq_true.mp im_instA ci (List.mem_range.mpr hl)
  unfold im_instB at hB
  rw [h] at hB
  simp only [Bool.and_eq_true] at hB
  exact ⟨im_twS hB.1, im_twS hB.2⟩
/-- a new cell lies just behind the others -/
theorem im_fresh {D : va_G} {ca : Nat → ClassId} {ad : Nat → Nat} {base q : Nat} {h : im_H} {x : va_E} {H1 : Heap} (had : ∀ i, ad (16 + i) = base + i) (hP : va_P D vwCl (im_w ca ad h ++ [(q, x)]) H1) (hD : va_D (im_up base) (im_w ca ad h ++ [(q, x)])) (hz : H1.size ≤ base + h.length + 1) : q = ad (16 + h.length) := by
  have hlen : (im_w ca ad h).length = h.length := by simp [im_w]
  have hl : (im_w ca ad h ++ [(q, x)])[h.length]? = some (q, x) := by
    rw [List.getElem?_append_right (by omega), hlen]; simp
  have h1 : q < H1.size := (hP _ _ hl).lt
  have h2 : base ≤ q := hD.2 _ _ hl
  rw [had]
  by_cases hq : q < base + h.length
  · exfalso
    have hi : q - base < h.length := by omega
    obtain ⟨y, hy⟩ : ∃ y, h[q - base]? = some y := ⟨_, List.getElem?_eq_getElem hi⟩
    have hw : (im_w ca ad h ++ [(q, x)])[q - base]? = some (ad (16 + (q - base)), im_e ca ad y) := by
      rw [List.getElem?_append_left (by omega)]; exact im_w_at hy
    have := hD.1 _ _ _ _ hw hl (by show ad (16 + (q - base)) = q; rw [had]; omega)
    omega
  · omega
theorem im_rep (n j : Nat) : (List.replicate n (0 : Int32)).getD j 0 = 0 := by
  simp [List.getD_eq_getElem?_getD, List.getElem?_replicate]
  split <;> rfl
theorem im_repL (n j : Nat) : (List.replicate n (0 : Int64)).getD j 0 = 0 := by
  simp [List.getD_eq_getElem?_getD, List.getElem?_replicate]
  split <;> rfl
theorem im_repQ (ad : Nat → Nat) (n : Nat) : (fun j => ((List.replicate n (none : Option Nat)).getD j none).map ad) = fun _ => none := by
  funext j
  simp [List.getD_eq_getElem?_getD, List.getElem?_replicate]
  split <;> simp
section IMN
variable {p : Program} {l : Launch} {e : Env} {R : Room} {s : State} {m : MethodId} {args : Array Value} {below : List Frame} {meth : Method} {c : Code} {Q : State → Prop} {D : va_G} {ca : Nat → ClassId} {ad : Nat → Nat} {base nL : Nat} {K : im_K} {M : im_M} {pc : Nat} {lv : im_L} {st : List Value} {h : im_H} {c2 : im_C} {ms : List im_M}

/-- one cell more -/
theorem im_goN {pc2 : Nat} {st2 : List Value} {y : im_E} (had : ∀ i, ad (16 + i) = base + i) (k : ∀ (ls : Array Slot) (H : Heap) (locs : List Loc) (cells slots : Nat), cells + 1 ≤ R.cells → slots + im_sl1 y ≤ R.slots → va_P D vwCl (im_w ca ad h) H → va_S (im_up base) s.heap H locs → (∀ q, s.heap.size ≤ q → im_up base q) → (∀ (q : Nat) (H1 : Heap), va_P D vwCl (im_w ca ad h ++ [(q, im_e ca ad y)]) H1 → va_D (im_up base) (im_w ca ad h ++ [(q, im_e ca ad y)]) → va_S (im_up base) s.heap H1 locs → W p l e R s m args below meth c H1 locs (cells + 1) (slots + im_sl1 y) Q (F0 m pc2 ls (.ref q :: st2.map (im_v ad)))) → W p l e R s m args below meth c H locs cells slots Q (F0 m pc ls (st.map (im_v ad)))) : im_Go D ca ad base nL p l e R s m args below meth c Q pc lv st h (pc2, lv, .ref (16 + h.length) :: st2, h ++ [y]) := by
  have e1 : (h ++ [y]).length = h.length + 1 := by simp
  have e2 : im_sl (h ++ [y]) = im_sl h + im_sl1 y := by rw [im_sl_app]; simp [im_sl]
  refine ⟨⟨by show h.length ≤ (h ++ [y]).length; omega, by show im_sl h ≤ im_sl (h ++ [y]); omega⟩, fun n0 s0 ls H locs cells slots hc1 hs1 hI kk => ?_⟩
  obtain ⟨hl, hP, hz, hS, hc, hq⟩ := hI
  have hc1 : (h ++ [y]).length ≤ n0 + R.cells := hc1
  have hs1 : im_sl (h ++ [y]) ≤ s0 + R.slots := hs1
  refine k ls H locs cells slots (by omega) (by omega) hP hS (fun q hq => by show base ≤ q; omega) fun q H1 hP1 hD1 hS1 => ?_
  intro T hT X
  have hX := X.heapSize
  rw [hT] at hX
  have hqe := im_fresh had hP1 hD1 (by omega)
  subst hqe
  rw [← im_w_app] at hP1
  exact kk ls H1 locs (cells + 1) (slots + im_sl1 y) ⟨hl, hP1, hz, hS1, by show cells + 1 + n0 = (h ++ [y]).length; omega, by show slots + im_sl1 y + s0 = im_sl (h ++ [y]); omega⟩ T hT X
theorem is_new (C : im_Cx D ca ad base K M p R s m args meth c) {idx : Nat} {a b w z x : Nat} (hdg : decode M.2.1 pc = .ok (.new idx, 3)) (hok : im_ok2 ms M (.new idx) a b w z x pc = true) (hs : im_ins K M (.new idx) a b w z pc lv st h = some (.inl c2)) : im_Go D ca ad base nL p l e R s m args below meth c Q pc lv st h c2 := by
  obtain ⟨hx, hb, hml, hown, hts, hSF, hin, hR1, hR2, had, hfty, hlc, htx⟩ := C
  have hok : (match vwCl[a]? with
    | some r => im_tw x (.classLink M.1.cls idx r.1)
    | none => false) = true := hok
  obtain ⟨tys, h1, hs1⟩ := im_bd hs
  split at hok
  · rename_i r hr
    cases im_nx_eq hs1
    rw [hfty] at h1
    obtain ⟨c1, c2, c3, c4⟩ := im_cls_all hr
    have hlen : tys.length = r.2.2 := by rw [← c1]; simp [List.getD_eq_getElem?_getD, h1]
    refine im_goN had fun ls H locs cells slots hc hsl hP hS hA kk => ?_
    have hsl : slots + (tys.map defaultValue).length ≤ R.slots := hsl
    rw [List.length_map, hlen] at hsl
    have hkk : ∀ (q : Nat) (H1 : Heap), va_P D vwCl (im_w ca ad h ++ [(q, .inr (a, (tys.map defaultValue).map (im_v ad)))]) H1 → va_D (im_up base) (im_w ca ad h ++ [(q, .inr (a, (tys.map defaultValue).map (im_v ad)))]) → va_S (im_up base) s.heap H1 locs → W p l e R s m args below meth c H1 locs (cells + 1) (slots + r.2.2) Q (F0 m (pc + 3) ls (.ref q :: st.map (im_v ad))) := fun q H1 h1 h2 h3 => by
      have := kk q H1 h1 h2 h3
      rw [show im_sl1 (.inr (a, tys.map defaultValue)) = r.2.2 by simp [im_sl1, hlen]] at this
      exact this
    exact va_new (C := r.1) (T := r.2.1) (N := r.2.2) hx hb hts c3 (im_tyf a) c2 hown (hts _ (im_twS hok)) (hts _ (im_inst hr).1) (hts _ (im_inst hr).2) hSF.1 hP (im_w_D had h) hS hA hr (fun j hj => by
      have ht : tys[j]? = some (im_tyf a j) := by
        simp only [im_tyf, List.getD_eq_getElem?_getD, h1, Option.getD_some]
        rw [List.getElem?_eq_getElem (by omega)]; rfl
      show defaultValue (im_tyf a j) = ((tys.map defaultValue).map (im_v ad)).getD j .null
      rw [List.getD_eq_getElem?_getD, List.getElem?_map, List.getElem?_map, ht]
      show defaultValue (im_tyf a j) = im_v ad (defaultValue (im_tyf a j))
      cases im_tyf a j <;> rfl) hc hsl hdg hkk
  · cases hok
theorem is_newarray (C : im_Cx D ca ad base K M p R s m args meth c) {t : ArrayType} {a b w z x : Nat} (hdg : decode M.2.1 pc = .ok (.newarray t, 2)) (hok : im_ok2 ms M (.newarray t) a b w z x pc = true) (hs : im_ins K M (.newarray t) a b w z pc lv st h = some (.inl c2)) : im_Go D ca ad base nL p l e R s m args below meth c Q pc lv st h c2 := by
  obtain ⟨hx, hb, hml, hown, hts, hSF, hin, hR1, hR2, had, hfty, hlc, htx⟩ := C
  have hok : (decide (a < 3) && decide (newarray.typeOf t = im_ty a)) = true := hok
  simp only [Bool.and_eq_true, decide_eq_true_eq] at hok
  obtain ⟨q, h1, hs1⟩ := im_bd hs
  cases im_1i_eq h1
  by_cases hn : q.1 < 0 ∨ 4096 < q.1.toNatClampNeg
  · rw [if_pos hn] at hs1; cases hs1
  rw [if_neg hn] at hs1
  have hn0 : ¬ q.1 < 0 := fun z => hn (Or.inl z)
  have hn1 : q.1.toNatClampNeg ≤ 4096 := Nat.not_lt.mp fun z => hn (Or.inr z)
  obtain ⟨ha3, hty⟩ := hok
  rcases (show a = 0 ∨ a = 1 ∨ a = 2 by omega) with rfl | rfl | rfl
  · cases im_nx_eq hs1
    refine im_goN had fun ls H locs cells slots hc hsl hP hS hA kk => ?_
    have hsl : slots + (List.replicate q.1.toNatClampNeg (0 : Int32)).length ≤ R.slots := hsl
    rw [List.length_replicate] at hsl
    refine va_newa (ty := .int) (a0 := ((List.replicate q.1.toNatClampNeg (0 : Int32)).length, .inl (fun j => (List.replicate q.1.toNatClampNeg (0 : Int32)).getD j 0))) hx hb (by rw [hty]; exact hts _ im_w_int) hty hSF.1 hP (im_w_D had h) hS hA (fun cA => by rw [vp_cell_i, List.length_replicate]; exact congrArg (arrV cA _) (funext fun j => by rw [im_rep]; rfl)) hn0 rfl (by show _ * 4 ≤ _; omega) hc hsl hdg fun r cA H1 hK1 hP1 hD1 hS1 => ?_
    have hcA : ca 0 = cA := Option.some.inj ((hSF.1.2 0 _ rfl).2.symm.trans (hK1.2 8 (cA, .int) rfl).2)
    subst hcA
    have := kk r H1 hP1 hD1 hS1
    rw [show im_sl1 (.inl (0, .inl (List.replicate q.1.toNatClampNeg (0 : Int32)))) = q.1.toNatClampNeg by simp [im_sl1]] at this
    exact this
  · cases im_nx_eq hs1
    refine im_goN had fun ls H locs cells slots hc hsl hP hS hA kk => ?_
    have hsl : slots + (List.replicate q.1.toNatClampNeg (0 : Int32)).length ≤ R.slots := hsl
    rw [List.length_replicate] at hsl
    refine va_newa (ty := .boolean) (a0 := ((List.replicate q.1.toNatClampNeg (0 : Int32)).length, .inl (fun j => (List.replicate q.1.toNatClampNeg (0 : Int32)).getD j 0))) hx hb (by rw [hty]; exact hts _ im_w_bool) hty hSF.1 hP (im_w_D had h) hS hA (fun cA => by rw [vp_cell_i, List.length_replicate]; exact congrArg (arrV cA _) (funext fun j => by rw [im_rep]; rfl)) hn0 rfl (by show _ * 1 ≤ _; omega) hc hsl hdg fun r cA H1 hK1 hP1 hD1 hS1 => ?_
    have hcA : ca 1 = cA := Option.some.inj ((hSF.1.2 1 _ rfl).2.symm.trans (hK1.2 8 (cA, .boolean) rfl).2)
    subst hcA
    have := kk r H1 hP1 hD1 hS1
    rw [show im_sl1 (.inl (1, .inl (List.replicate q.1.toNatClampNeg (0 : Int32)))) = q.1.toNatClampNeg by simp [im_sl1]] at this
    exact this
  · cases im_nx_eq hs1
    refine im_goN had fun ls H locs cells slots hc hsl hP hS hA kk => ?_
    have hsl : slots + (List.replicate q.1.toNatClampNeg (0 : Int64)).length ≤ R.slots := hsl
    rw [List.length_replicate] at hsl
    refine va_newa (ty := .long) (a0 := ((List.replicate q.1.toNatClampNeg (0 : Int64)).length, .inr (.inl (fun j => (List.replicate q.1.toNatClampNeg (0 : Int64)).getD j 0)))) hx hb (by rw [hty]; exact hts _ im_w_long) hty hSF.1 hP (im_w_D had h) hS hA (fun cA => by rw [vp_cell_l, List.length_replicate]; exact congrArg (arrV cA _) (funext fun j => by rw [im_repL]; rfl)) hn0 rfl (by show _ * 8 ≤ _; omega) hc hsl hdg fun r cA H1 hK1 hP1 hD1 hS1 => ?_
    have hcA : ca 2 = cA := Option.some.inj ((hSF.1.2 2 _ rfl).2.symm.trans (hK1.2 8 (cA, .long) rfl).2)
    subst hcA
    have := kk r H1 hP1 hD1 hS1
    rw [show im_sl1 (.inl (2, .inr (.inl (List.replicate q.1.toNatClampNeg (0 : Int64))))) = q.1.toNatClampNeg by simp [im_sl1]] at this
    exact this
theorem is_anewarray (C : im_Cx D ca ad base K M p R s m args meth c) {idx : Nat} {a b w z x : Nat} (hdg : decode M.2.1 pc = .ok (.anewarray idx, 3)) (hok : im_ok2 ms M (.anewarray idx) a b w z x pc = true) (hs : im_ins K M (.anewarray idx) a b w z pc lv st h = some (.inl c2)) : im_Go D ca ad base nL p l e R s m args below meth c Q pc lv st h c2 := by
  obtain ⟨hx, hb, hml, hown, hts, hSF, hin, hR1, hR2, had, hfty, hlc, htx⟩ := C
  have hok : (decide (3 ≤ a) && decide (a < 7) && im_tw x (.classLink M.1.cls idx (im_cn a))) = true := hok
  simp only [Bool.and_eq_true, decide_eq_true_eq] at hok
  obtain ⟨⟨ha3, ha7⟩, hlk⟩ := hok
  obtain ⟨q, h1, hs1⟩ := im_bd hs
  cases im_1i_eq h1
  by_cases hn : q.1 < 0 ∨ 4096 < q.1.toNatClampNeg
  · rw [if_pos hn] at hs1; cases hs1
  rw [if_neg hn] at hs1
  have hn0 : ¬ q.1 < 0 := fun z => hn (Or.inl z)
  have hn1 : q.1.toNatClampNeg ≤ 4096 := Nat.not_lt.mp fun z => hn (Or.inr z)
  cases im_nx_eq hs1
  refine im_goN had fun ls H locs cells slots hc hsl hP hS hA kk => ?_
  have hsl : slots + (List.replicate q.1.toNatClampNeg (none : Option Nat)).length ≤ R.slots := hsl
  rw [List.length_replicate] at hsl
  have hgo : ∀ C : String, im_cn a = C → va_AO C s → (im_tys ca)[a]? = some (ca a, .object C) → W p l e R s m args below meth c H locs cells slots Q (F0 m pc ls (.int q.1 :: q.2.map (im_v ad))) := fun C hC hAO hty => by
    refine va_newq (C := C) hx hb hown (by rw [← hC]; exact hts _ (im_twS hlk)) hAO hSF.1 hP (im_w_D had h) hS hA hn0 rfl (by omega) hc hsl hdg fun r cA H1 hK1 hP1 hD1 hS1 => ?_
    obtain ⟨-, k1, m1, -, -, -, f1⟩ := hSF.1.2 a _ hty
    obtain ⟨-, k2, m2, -, -, -, f2⟩ := hK1.2 8 (cA, .object C) rfl
    have hcA : ca a = cA := Option.some.inj (f1.symm.trans f2)
    subst hcA
    have he : im_e ca ad (.inl (a, .inr (.inr (List.replicate q.1.toNatClampNeg none)))) = .inl (ca a, q.1.toNatClampNeg, .inr (.inr (.inr (.inr (fun _ => none))))) := by
      simp only [im_e, List.length_replicate, im_repQ]
    have := kk r H1 (by rw [he]; exact hP1) (by rw [he]; exact hD1) hS1
    rw [show im_sl1 (.inl (a, .inr (.inr (List.replicate q.1.toNatClampNeg (none : Option Nat))))) = q.1.toNatClampNeg by simp [im_sl1]] at this
    exact this
  obtain ⟨a1, a2, a3, a4, -⟩ := hSF.2.2.1
  rcases (show a = 3 ∨ a = 4 ∨ a = 5 ∨ a = 6 by omega) with rfl | rfl | rfl | rfl
  · exact hgo RX7 rfl a1 rfl
  · exact hgo RX5 rfl a2 rfl
  · exact hgo RX1 rfl a3 rfl
  · exact hgo RX8 rfl a4 rfl
theorem im_size {T : State} {locs : List Loc} {cells slots n0 : Nat} (had : ∀ i, ad (16 + i) = base + i) (X : Stand p l e R s m args below meth c T locs cells slots) (hP : va_P D vwCl (im_w ca ad h) T.heap) (hS : va_S (im_up base) s.heap T.heap locs) (hz : s.heap.size = base + n0) (hc : cells + n0 = h.length) : T.heap.size = base + h.length := by
  have h1 := X.heapSize
  have h2 := hS.1
  by_cases h0 : h.length = 0
  · omega
  · obtain ⟨y, hy⟩ : ∃ y, h[h.length - 1]? = some y := ⟨_, List.getElem?_eq_getElem (by omega)⟩
    have h3 : ad (16 + (h.length - 1)) < T.heap.size := (hP _ _ (im_w_at (ca := ca) (ad := ad) hy)).lt
    rw [had] at h3
    omega
theorem is_multianewarray (C : im_Cx D ca ad base K M p R s m args meth c) {idx n2 : Nat} {a b w z x : Nat} (hdg : decode M.2.1 pc = .ok (.multianewarray idx n2, 4)) (hok : im_ok2 ms M (.multianewarray idx n2) a b w z x pc = true) (hs : im_ins K M (.multianewarray idx n2) a b w z pc lv st h = some (.inl c2)) : im_Go D ca ad base nL p l e R s m args below meth c Q pc lv st h c2 := by
  obtain ⟨hx, hb, hml, hown, hts, hSF, hin, hR1, hR2, had, hfty, hlc, htx⟩ := C
  have hok : (decide (n2 = 2) && im_tw x (.classLink M.1.cls idx "[[I")) = true := hok
  simp only [Bool.and_eq_true, decide_eq_true_eq] at hok
  obtain ⟨rfl, hlk⟩ := hok
  obtain ⟨k, h1, hs1⟩ := im_bd hs
  obtain ⟨n, h2, hs2⟩ := im_bd hs1
  have e1 := im_1i_eq h1
  rw [im_1i_eq h2] at e1
  by_cases hn : k.1 < 0 ∨ 4096 < k.1.toNatClampNeg ∨ n.1 < 0 ∨ 4096 < n.1.toNatClampNeg
  · rw [if_pos hn] at hs2; cases hs2
  rw [if_neg hn] at hs2
  have hk0 : ¬ k.1 < 0 := fun z => hn (Or.inl z)
  have hk1 : k.1.toNatClampNeg ≤ 4096 := Nat.not_lt.mp fun z => hn (Or.inr (Or.inl z))
  have hn0 : ¬ n.1 < 0 := fun z => hn (Or.inr (Or.inr (Or.inl z)))
  have hn1 : n.1.toNatClampNeg ≤ 4096 := Nat.not_lt.mp fun z => hn (Or.inr (Or.inr (Or.inr z)))
  cases im_nx_eq hs2
  subst e1
  generalize hN : n.1.toNatClampNeg = N at *
  generalize hKk : k.1.toNatClampNeg = K9 at *
  have e2 : ((h ++ [(Sum.inl (7, Sum.inr (Sum.inr (im_mul (16 + h.length) N))) : im_E)]) ++ List.replicate N (Sum.inl (0, Sum.inl (List.replicate K9 (0 : Int32))) : im_E)).length = h.length + 1 + N := by simp; omega
  have e3 : im_sl ((h ++ [(Sum.inl (7, Sum.inr (Sum.inr (im_mul (16 + h.length) N))) : im_E)]) ++ List.replicate N (Sum.inl (0, Sum.inl (List.replicate K9 (0 : Int32))) : im_E)) = im_sl h + N + N * K9 := by
    rw [im_sl_app, im_sl_app]
    simp [im_sl, im_sl1, im_mul]
  refine ⟨⟨by show h.length ≤ _; rw [e2]; omega, by show im_sl h ≤ _; rw [e3]; omega⟩, fun n0 s0 ls H locs cells slots hc1 hs1 hI kk => ?_⟩
  obtain ⟨hl, hP, hz, hS, hc, hq⟩ := hI
  have hc1 : h.length + 1 + N ≤ n0 + R.cells := by rw [← e2]; exact hc1
  have hs1 : im_sl h + N + N * K9 ≤ s0 + R.slots := by rw [← e3]; exact hs1
  intro T hT X
  subst hT
  have hsz := im_size had X hP hS hz hc
  obtain ⟨vm₁, cA, comp, -, fA, fC, hO, -, X', step⟩ := X.multianewarray2F hx hown (hts _ (im_twS hlk)) (show (Cond.arrayOver (.array .int)).before args s = true from hSF.2.2.1.2.2.2.2) (hts _ im_w_int) (g := F0 m pc ls ((Value.int k.1 :: Value.int n.1 :: n.2).map (im_v ad))) rfl (by rw [hb]; exact hdg) rfl hn0 hk0 (by rw [hN]; omega) (by rw [hKk]; show _ * 4 ≤ _; omega) (by rw [hKk]; omega) rfl rfl (by rw [hN]; omega) (by rw [hN, hKk]; omega)
  rw [hN, hKk] at X' step
  have hcA : ca 7 = cA := Option.some.inj ((hSF.1.2 7 _ rfl).2.symm.trans fA)
  have hcC : ca 0 = comp := Option.some.inj ((hSF.1.2 0 _ rfl).2.symm.trans fC)
  subst hcA
  subst hcC
  have f0 := Jvm.Free.Multi.fill_facts (T.setVm vm₁) (ca 7) (ca 0) N K9 (defaultValue .int) N
  have f3 := Jvm.Free.Multi.fill_inner (T.setVm vm₁) (ca 7) (ca 0) N K9 (defaultValue .int) N
  have f4 : ∀ q, q < T.heap.size → (Jvm.Free.Multi.fill (T.setVm vm₁) (ca 7) (ca 0) N K9 (defaultValue .int) N).heap[q]? = T.heap[q]? := fun q hq => Jvm.Free.Multi.fill_old (T.setVm vm₁) (ca 7) (ca 0) N K9 (defaultValue .int) (a := q) hq N
  generalize hF : Jvm.Free.Multi.fill (T.setVm vm₁) (ca 7) (ca 0) N K9 (defaultValue .int) N = F at X' step f0 f3 f4
  have hh : (T.setVm vm₁).heap = T.heap := rfl
  rw [hh] at f0 f3
  have hP1 : va_P D vwCl (im_w ca ad ((h ++ [(Sum.inl (7, Sum.inr (Sum.inr (im_mul (16 + h.length) N))) : im_E)]) ++ List.replicate N (Sum.inl (0, Sum.inl (List.replicate K9 (0 : Int32))) : im_E))) F.heap := by
    intro i y hy
    rw [im_w_get] at hy
    obtain ⟨y0, hy0, rfl⟩ := Option.map_eq_some_iff.mp hy
    by_cases hi : i < h.length
    · rw [List.getElem?_append_left (by simp; omega), List.getElem?_append_left hi] at hy0
      have := hP i _ (im_w_at hy0)
      exact this.kept (f4 _ this.lt)
    · by_cases hi2 : i = h.length
      · rw [List.getElem?_append_left (by simp; omega), List.getElem?_append_right (by omega), hi2] at hy0
        simp only [Nat.sub_self, List.getElem?_cons_zero, Option.some.injEq] at hy0
        subst hy0
        show F.heap[ad (16 + i)]? = some (vp_cell _ _)
        rw [had, hi2, ← hsz, f0.2.1, vr_outer, vp_cell_q]
        simp only [im_mul, List.length_map, List.length_range]
        refine congrArg (fun z => some (arrV _ _ z)) (funext fun j => congrArg va_rf ?_)
        simp only [List.getD_eq_getElem?_getD, List.getElem?_map]
        by_cases hj : j < N
        · rw [List.getElem?_range hj, if_pos hj]
          show some (T.heap.size + 1 + j) = some (ad (16 + h.length + 1 + j))
          rw [show 16 + h.length + 1 + j = 16 + (h.length + 1 + j) by omega, had, hsz]
          congr 1; omega
        · rw [List.getElem?_eq_none (by simp; omega), if_neg hj]; rfl
      · rw [List.getElem?_append_right (by simp; omega)] at hy0
        have hlt : i - (h ++ [(Sum.inl (7, Sum.inr (Sum.inr (im_mul (16 + h.length) N))) : im_E)]).length < N := by
          have := (List.getElem?_eq_some_iff.mp hy0).1
          simpa using this
        rw [List.getElem?_replicate] at hy0
        simp only [hlt, if_true, Option.some.injEq] at hy0
        subst hy0
        simp only [List.length_append, List.length_cons, List.length_nil] at hlt
        show F.heap[ad (16 + i)]? = some (vp_cell _ _)
        rw [had, show base + i = T.heap.size + 1 + (i - (h.length + 1)) by omega, f3 _ (by omega), vp_cell_i, List.length_replicate]
        show some ({ cls := ca 0, slots := Array.replicate K9 (.int 0), vm := .none } : Cell) = _
        rw [arrV_new]
        exact congrArg (fun z => some (arrV _ _ z)) (funext fun j => by rw [im_rep])
  obtain ⟨t, a1, b1⟩ := kk ls F.heap locs (cells + 1 + N) (slots + N + N * K9) ⟨hl, hP1, hz, ⟨by rw [f0.1]; have := hS.1; omega, fun q hq1 hq2 => (f4 q (Nat.lt_of_lt_of_le hq1 hS.1)).trans (hS.2.1 q hq1 hq2), hS.2.2⟩, by show cells + 1 + N + n0 = _; rw [e2]; omega, by show slots + N + N * K9 + s0 = _; rw [e3]; omega⟩ F rfl X'
  refine ⟨t, step t ?_, b1⟩
  have e9 : T.heap.size = ad (16 + h.length) := by rw [had, hsz]
  rw [e9]
  exact a1
theorem is_objInit (C : im_Cx D ca ad base K M p R s m args meth c) {idx : Nat} {a w z x : Nat} (hdg : decode M.2.1 pc = .ok (.invokespecial idx, 3)) (hn : nL = M.2.2.1) (hok : im_ok2 ms M (.invokespecial idx) a 4 w z x pc = true) (hs : im_ins K M (.invokespecial idx) a 4 w z pc lv st h = some (.inl c2)) : im_Go D ca ad base nL p l e R s m args below meth c Q pc lv st h c2 := by
  obtain ⟨hx, hb, hml, hown, hts, hSF, hin, hR1, hR2, had, hfty, hlc, htx⟩ := C
  have hok : im_tw x (.methodLink M.1.cls idx objectInit) = true := hok
  obtain ⟨r, h1, hs1⟩ := im_bd hs
  obtain ⟨h2, hs2⟩ := im_ite _ hs1
  cases im_1r_eq h1
  cases im_nx_eq hs2
  refine im_go0 fun ls H locs cells slots hl k => ?_
  refine W.objInit (a := ad r.1) (rest := r.2.map (im_v ad)) hx hb hown (hts _ (im_twS hok)) (hts _ im_w_oi) (hts _ im_w_oc) rfl (by rw [hml, ← hn]; exact hl.1) rfl hdg hR1 (Nat.le_trans (Nat.add_le_add_right (lv_room (m := m) (pc := pc) (ls := ls) (rest := []) (im_cat_le h2)) 12) (by omega)) k
theorem im_go2l {pc2 i : Nat} {st2 : List Value} {x y : im_E} (hx : h[i]? = some x) (hy : im_sl1 y = im_sl1 x) (k : ∀ (ls : Array Slot) (H : Heap) (locs : List Loc) (cells slots : Nat), lv_has ls nL (im_ml ad lv) → va_P D vwCl (im_w ca ad h) H → va_S (im_up base) s.heap H locs → (∀ (H1 : Heap) (locs1 : List Loc), va_P D vwCl ((im_w ca ad h).set i (ad (16 + i), im_e ca ad y)) H1 → va_S (im_up base) s.heap H1 locs1 → W p l e R s m args below meth c H1 locs1 cells slots Q (F0 m pc2 ls (st2.map (im_v ad)))) → W p l e R s m args below meth c H locs cells slots Q (F0 m pc ls (st.map (im_v ad)))) : im_Go D ca ad base nL p l e R s m args below meth c Q pc lv st h (pc2, lv, st2, h.set i y) := by
  have e1 : (h.set i y).length = h.length := List.length_set
  have e2 : im_sl (h.set i y) = im_sl h := im_sl_set hx hy
  refine ⟨⟨Nat.le_of_eq e1.symm, Nat.le_of_eq e2.symm⟩, fun n0 s0 ls H locs cells slots _ _ hI kk => ?_⟩
  obtain ⟨hl, hP, hz, hS, hc, hq⟩ := hI
  refine k ls H locs cells slots hl hP hS fun H1 locs1 hP1 hS1 => ?_
  rw [im_w_set] at hP1
  exact kk ls H1 locs1 cells slots ⟨hl, hP1, hz, hS1, by show cells + n0 = (h.set i y).length; rw [e1]; exact hc, by show slots + s0 = im_sl (h.set i y); rw [e2]; exact hq⟩
theorem im_cpy_f {α : Type} (d : α) (l0 l1 : List α) (sp dp n : Nat) (h0 : sp + n ≤ l0.length) (h1 : dp + n ≤ l1.length) : va_cpy (fun j => l0.getD j d) (fun j => l1.getD j d) sp dp n = fun j => (im_cpy l0 l1 sp dp n).getD j d := by
  have e : (l1.take dp).length = dp := by rw [List.length_take]; omega
  have e2 : ((l0.drop sp).take n).length = n := by rw [List.length_take, List.length_drop]; omega
  funext k
  simp only [va_cpy, im_cpy, List.getD_eq_getElem?_getD]
  by_cases hk : dp ≤ k ∧ k < dp + n
  · rw [if_pos hk, List.getElem?_append_right (by rw [e]; omega), e, List.getElem?_append_left (by rw [e2]; omega), List.getElem?_take_of_lt (by omega), List.getElem?_drop]
  · rw [if_neg hk]
    by_cases hk2 : k < dp
    · rw [List.getElem?_append_left (by rw [e]; omega), List.getElem?_take_of_lt hk2]
    · rw [List.getElem?_append_right (by rw [e]; omega), e, List.getElem?_append_right (by rw [e2]; omega), e2, List.getElem?_drop, show dp + n + (k - dp - n) = k by omega]
theorem im_cpy_len {α : Type} (l0 l1 : List α) (sp dp n : Nat) (h0 : sp + n ≤ l0.length) (h1 : dp + n ≤ l1.length) : (im_cpy l0 l1 sp dp n).length = l1.length := by
  simp [im_cpy]; omega
theorem is_copy (C : im_Cx D ca ad base K M p R s m args meth c) {idx : Nat} {a w z x : Nat} (hdg : decode M.2.1 pc = .ok (.invokestatic idx, 3)) (hn : nL = M.2.2.1) (hok : im_ok2 ms M (.invokestatic idx) a 3 w z x pc = true) (hs : im_ins K M (.invokestatic idx) a 3 w z pc lv st h = some (.inl c2)) : im_Go D ca ad base nL p l e R s m args below meth c Q pc lv st h c2 := by
  obtain ⟨hx, hb, hml, hown, hts, hSF, hin, hR1, hR2, had, hfty, hlc, htx⟩ := C
  have hok : (decide (z < 2) && im_tw x (.methodLink M.1.cls idx arraycopyName)) = true := hok
  simp only [Bool.and_eq_true, decide_eq_true_eq] at hok
  obtain ⟨hz2, hlk⟩ := hok
  have hs : im_copy pc lv st h z = some (.inl c2) := hs
  obtain ⟨n, h1, hs1⟩ := im_bd hs
  obtain ⟨dp, h2, hs2⟩ := im_bd hs1
  obtain ⟨d, h3, hs3⟩ := im_bd hs2
  obtain ⟨sp, h4, hs4⟩ := im_bd hs3
  obtain ⟨s0, h5, hs5⟩ := im_bd hs4
  obtain ⟨l0, h6, hs6⟩ := im_bd hs5
  obtain ⟨l1, h7, hs7⟩ := im_bd hs6
  obtain ⟨h8, hs8⟩ := im_ite _ hs7
  have e1 := im_1i_eq h1
  rw [im_1i_eq h2, im_1r_eq h3, im_1i_eq h4, im_1r_eq h5] at e1
  cases im_nx_eq hs8
  subst e1
  simp only [Bool.and_eq_true, Bool.not_eq_true', decide_eq_false_iff_not, decide_eq_true_eq, Bool.or_eq_true, beq_iff_eq] at h8
  obtain ⟨⟨⟨⟨⟨⟨g1, g2⟩, g3⟩, g4⟩, g5⟩, g6⟩, g7⟩ := h8
  obtain ⟨i, hi, hc⟩ := im_ia_eq h6
  obtain ⟨j, hj, hd⟩ := im_ia_eq h7
  rw [show d.1 - 16 = j by omega]
  have hlen := im_cpy_len l0 l1 _ _ _ g4 g5
  refine im_go2l hd (by simp [im_sl1, hlen]) fun ls H locs cells slots hl hP hS kk => ?_
  rw [List.map_cons, List.map_cons, im_ref hj, List.map_cons, im_ref hi]
  have hw0 := im_w_at (ca := ca) (ad := ad) hc
  have hw1 := im_w_at (ca := ca) (ad := ad) hd
  have hkk : ∀ (H1 : Heap) (locs1 : List Loc), va_P D vwCl ((im_w ca ad h).set j (ad (16 + j), .inl (ca z, l1.length, .inl (va_cpy (fun j => l0.getD j 0) (fun j => l1.getD j 0) sp.1.toNatClampNeg dp.1.toNatClampNeg n.1.toNatClampNeg)))) H1 → va_D (im_up base) ((im_w ca ad h).set j (ad (16 + j), .inl (ca z, l1.length, .inl (va_cpy (fun j => l0.getD j 0) (fun j => l1.getD j 0) sp.1.toNatClampNeg dp.1.toNatClampNeg n.1.toNatClampNeg)))) → va_S (im_up base) s.heap H1 locs1 → W p l e R s m args below meth c H1 locs1 cells slots Q (F0 m (pc + 3) ls (s0.2.map (im_v ad))) := fun H1 locs1 hP1 _ hS1 => by
    refine kk H1 locs1 ?_ hS1
    rw [im_cpy_f 0 l0 l1 _ _ _ g4 g5] at hP1
    simp only [im_e, hlen]
    exact hP1
  have hRl : ((s0.2.map (im_v ad)).map fun v => v.category).sum + (nativeFrameWords "java/lang/System" "arraycopy" 5 + 11) ≤ R.locals := by
    have h9 := im_cat_le (ad := ad) g7
    have h10 : nativeFrameWords "java/lang/System" "arraycopy" 5 = 7 := by decide +kernel
    omega
  have hmls : c.maxLocals = ls.size := by rw [hml, ← hn, hl.1]
  rcases (show z = 0 ∨ z = 1 by omega) with rfl | rfl
  · exact va_copyi hx hb hmls hown (hts _ (im_twS hlk)) (hts _ im_w_native) (hts _ im_w_static) (hts _ im_w_system) hSF.1 hP (im_w_D had h) hS i j 0 0 hw0 hw1 rfl rfl rfl g3 g2 g1 g4 g5 (fun _ _ => rfl) hR1 hRl hdg hkk
  · refine va_copyi hx hb hmls hown (hts _ (im_twS hlk)) (hts _ im_w_native) (hts _ im_w_static) (hts _ im_w_system) hSF.1 hP (im_w_D had h) hS i j 1 1 hw0 hw1 rfl rfl rfl g3 g2 g1 g4 g5 (fun k9 hk9 => ?_) hR1 hRl hdg hkk
    have hb9 : im_bits l0 = true := g6.resolve_left (by decide)
    have hlt : sp.1.toNatClampNeg + k9 < l0.length := by omega
    have := List.all_eq_true.mp hb9 _ (List.getElem_mem hlt)
    simp only [Bool.or_eq_true, decide_eq_true_eq] at this
    rw [List.getD_eq_getElem?_getD, List.getElem?_eq_getElem hlt]
    show fits .boolean (.int l0[sp.1.toNatClampNeg + k9]) = true
    rcases this with e9 | e9 <;> (rw [e9]; rfl)
end IMN
end
section
/-! WHAT STANDS ALL THE TIME goes along to a callee -/
theorem im_AOA.moved {u U : State} (hvm : u.vm.Alike U.vm) (h : im_AOA u) : im_AOA U := by
  have h0 := h
  unfold im_AOA Cond.before Cond.holds at h0
  simp only [Cond.value, beq_iff_eq] at h0
  obtain ⟨comp, h1, h2⟩ := Option.bind_eq_some_iff.mp h0
  obtain ⟨c, h3, h4⟩ := Option.bind_eq_some_iff.mp h2
  obtain ⟨k, h5, h6⟩ := Option.map_eq_some_iff.mp h4
  obtain ⟨k', hk', he⟩ := hvm.2.2 _ _ h5
  have hi : (U.vm.classes.findIdx? fun (x : Class) => match x.kind with | .array component _ => component == comp | _ => false) = some c := by
    have e1 := va_idx_bare U.vm comp
    have e2 := va_idx_bare u.vm comp
    first | rw [hvm.bare_eq] at e1 | rw [← hvm.bare_eq] at e1
    exact e1.symm.trans (e2.trans h3)
  have hkind : k'.kind = k.kind := by rw [he]
  have f1 : U.vm.findClass (FieldType.array .int).toString = some comp := by rw [hvm.findClass]; exact h1
  have f2 : ∀ n, U.vm.findClass n = u.vm.findClass n := fun n => hvm.findClass n _
  unfold im_AOA Cond.before Cond.holds
  simp only [Cond.value]
  rw [f1, Option.bind_some]
  refine (congrArg (fun o : Option Nat => (o.bind (fun c => (U.vm.classes[c]?).map fun (k : Class) => match k.kind with | .array _ ty => decide (ty = FieldType.array .int) && decide (U.vm.findClass ("[" ++ (FieldType.array .int).toString) = some c) | _ => false) == some true)) hi).trans ?_
  simp only [Option.bind_some, hk', Option.map_some, hkind, f2, beq_iff_eq]
  exact congrArg some h6
theorem im_nw_form : ∀ w ∈ im_nw, (∃ a i x h, w = Cond.methodLinkNest a i x h) ∨ (∃ a i b n d h, w = Cond.fieldLinkNest a i b n d h) := by
  intro w hw
  simp only [im_nw, List.mem_cons, List.not_mem_nil, or_false] at hw
  rcases hw with rfl | rfl | rfl | rfl | rfl | rfl | rfl | rfl | rfl | rfl | rfl | rfl | rfl
  all_goals first
    | exact Or.inl ⟨_, _, _, _, rfl⟩
    | exact Or.inr ⟨_, _, _, _, _, _, rfl⟩
theorem im_SF.warm {D : va_G} {ca : Nat → ClassId} {ad : Nat → Nat} {base : Nat} {K : im_K} {s U : State} {H H1 : Heap} (hW : s.WarmedH U.vm) (hk : ∀ a : Nat, a < H.size → ¬ im_up base a → H1[a]? = H[a]?) (h : im_SF D ca ad base K s H) : im_SF D ca ad base K U H1 := by
  obtain ⟨h1, h2, ⟨a1, a2, a3, a4, a5⟩, h4, h5, h6, h7, h8, h9⟩ := h
  have hv := hW.alike
  refine ⟨va_K.moved hv h1, fun w hw => ?_, ⟨va_AO.moved hv a1, va_AO.moved hv a2, va_AO.moved hv a3, va_AO.moved hv a4, im_AOA.moved hv a5⟩, fun k n hn => (va_Z.moved hv (h4 k n hn)).kept hk, fun k l hl => (va_T.moved hv (h5 k l hl)).kept hk, fun k x hx => vk_R.warm hW (h6 k x hx), (vk_S.moved hv h7).kept hk, (va_Z.moved hv h8).kept hk, (va_Zq.moved hv h9).kept hk⟩
  rcases im_nw_form w hw with ⟨a, i, x, hh, rfl⟩ | ⟨a, i, b, n, d, hh, rfl⟩
  · exact va_Nw.warmM hW (h2 _ hw)
  · exact va_Nw.warmF hW (h2 _ hw)
/-- a start: the arguments, the cells, what stands -/
def im_P (D : va_G) (ca : Nat → ClassId) (ad : Nat → Nat) (base : Nat) (K : im_K) (as : List Value) (h : im_H) : Array Value → State → Prop := va_Pc (as.map (im_v ad)) (fun U => U.heap.size = base + h.length ∧ va_P D vwCl (im_w ca ad h) U.heap ∧ im_SF D ca ad base K U U.heap)
/-- an end: the answer, the cells -/
def im_Q (D : va_G) (ca : Nat → ClassId) (ad : Nat → Nat) (base : Nat) (v : Option Value) (h : im_H) : Array Value → State → Outcome → State → Prop := fun _ st oc t => (oc = .returned (v.map (im_v ad)) ∧ va_P D vwCl (im_w ca ad h) t.heap) ∧ va_F (im_up base) st t
theorem im_P_blind {D : va_G} {ca : Nat → ClassId} {ad : Nat → Nat} {base : Nat} {K : im_K} {as : List Value} {h : im_H} : FrameBlind (im_P D ca ad base K as h) := by
  intro a U g mk q
  obtain ⟨q0, q1, qP, qS⟩ := q
  exact ⟨q0, q1, qP, im_SF.warm (U := U.calling g mk a) (State.WarmedH.refl U) (fun _ _ _ => rfl) qS⟩
theorem im_P_at {D : va_G} {ca : Nat → ClassId} {ad : Nat → Nat} {base : Nat} {K : im_K} {as : List Value} {h : im_H} {s U : State} {H : Heap} {locs : List Loc} (hU : U.heap = H) (hW : s.WarmedH U.vm) (hz : H.size = base + h.length) (hP : va_P D vwCl (im_w ca ad h) H) (hS : va_S (im_up base) s.heap H locs) (hSF : im_SF D ca ad base K s s.heap) : im_P D ca ad base K as h (as.map (im_v ad)).toArray U :=
  ⟨rfl, by rw [hU]; exact hz, by rw [hU]; exact hP, by rw [hU]; exact im_SF.warm hW hS.2.1 hSF⟩
end
section
/-! THE JDK's length() and charAt() over the texts -/
theorem sw_coder_code : Cond.code yJ0_coder_7d493 cJ0_coder_7d493 1 (some .byte) ∈ im_ws := im_twS (x := 881) (by decide +kernel)
theorem sw_coder_inst : Cond.instanceMethod yJ0_coder_7d493 ∈ im_ws := im_twS (x := 879) (by decide +kernel)
theorem sw_coder_sel : Cond.selects "java/lang/String" yJ0_coder_7d493 yJ0_coder_7d493 ∈ im_ws := im_twS (x := 880) (by decide +kernel)
theorem sw_isLatin1_code : Cond.code yJ0_isLatin1_aae02 cJ0_isLatin1_aae02 1 (some .boolean) ∈ im_ws := im_twS (x := 891) (by decide +kernel)
theorem sw_isLatin1_inst : Cond.instanceMethod yJ0_isLatin1_aae02 ∈ im_ws := im_twS (x := 889) (by decide +kernel)
theorem sw_isLatin1_sel : Cond.selects "java/lang/String" yJ0_isLatin1_aae02 yJ0_isLatin1_aae02 ∈ im_ws := im_twS (x := 890) (by decide +kernel)
theorem sw_length_code : Cond.code yJ0_length_8abf5 cJ0_length_8abf5 1 (some .int) ∈ im_ws := im_twS (x := 877) (by decide +kernel)
theorem sw_length_inst : Cond.instanceMethod yJ0_length_8abf5 ∈ im_ws := im_twS (x := 875) (by decide +kernel)
theorem sw_length_sel : Cond.selects "java/lang/String" yJ0_length_8abf5 yJ0_length_8abf5 ∈ im_ws := im_twS (x := 876) (by decide +kernel)
theorem sw_charAt_code : Cond.code yJ0_charAt_5068e cJ0_charAt_5068e 2 (some .char) ∈ im_ws := im_twS (x := 887) (by decide +kernel)
theorem sw_charAt_inst : Cond.instanceMethod yJ0_charAt_5068e ∈ im_ws := im_twS (x := 885) (by decide +kernel)
theorem sw_charAt_sel : Cond.selects "java/lang/String" yJ0_charAt_5068e yJ0_charAt_5068e ∈ im_ws := im_twS (x := 886) (by decide +kernel)
theorem sw_chk_code : Cond.code yJ0_checkIndex_df160 cJ0_checkIndex_df160 2 none ∈ im_ws := im_twS (x := 897) (by decide +kernel)
theorem sw_chk_stat : Cond.static yJ0_checkIndex_df160 ∈ im_ws := im_twS (x := 896) (by decide +kernel)
theorem sw_lchar_code : Cond.code yJ1_charAt_3b067 cJ1_charAt_3b067 2 (some .char) ∈ im_ws := im_twS (x := 894) (by decide +kernel)
theorem sw_lchar_stat : Cond.static yJ1_charAt_3b067 ∈ im_ws := im_twS (x := 893) (by decide +kernel)
theorem sw_pre_code : Cond.code yJ3_checkIndex_8e157 cJ3_checkIndex_8e157 3 (some .int) ∈ im_ws := im_twS (x := 902) (by decide +kernel)
theorem sw_pre_stat : Cond.static yJ3_checkIndex_8e157 ∈ im_ws := im_twS (x := 901) (by decide +kernel)
theorem sw_iniS : Cond.initialized "java/lang/String" ∈ im_ws := im_twS (x := 271) (by decide +kernel)
theorem sw_iniL : Cond.initialized "java/lang/StringLatin1" ∈ im_ws := im_twS (x := 272) (by decide +kernel)
theorem sw_iniP : Cond.initialized "jdk/internal/util/Preconditions" ∈ im_ws := im_twS (x := 273) (by decide +kernel)
theorem sw_fCS : Cond.fieldLink "java/lang/String" 38 "java/lang/String" "COMPACT_STRINGS" "Z" ∈ im_ws := im_twS (x := 882) (by decide +kernel)
theorem sw_fco : Cond.fieldLink "java/lang/String" 15 "java/lang/String" "coder" "B" ∈ im_ws := im_twS (x := 1889) (by decide +kernel)
theorem sw_fva : Cond.fieldLink "java/lang/String" 9 "java/lang/String" "value" "[B" ∈ im_ws := im_twS (x := 1888) (by decide +kernel)
theorem sw_fSI : Cond.fieldLink "java/lang/String" 1053 "jdk/internal/util/Preconditions" "SIOOBE_FORMATTER" "Ljava/util/function/BiFunction;" ∈ im_ws := im_twS (x := 898) (by decide +kernel)
theorem sw_m335 : Cond.methodLink "java/lang/String" 335 yJ0_coder_7d493 ∈ im_ws := im_twS (x := 878) (by decide +kernel)
theorem sw_m492 : Cond.methodLink "java/lang/String" 492 yJ0_isLatin1_aae02 ∈ im_ws := im_twS (x := 888) (by decide +kernel)
theorem sw_m495 : Cond.methodLink "java/lang/String" 495 yJ1_charAt_3b067 ∈ im_ws := im_twS (x := 892) (by decide +kernel)
theorem sw_m9 : Cond.methodLink "java/lang/StringLatin1" 9 yJ0_checkIndex_df160 ∈ im_ws := im_twS (x := 895) (by decide +kernel)
theorem sw_m1059 : Cond.methodLink "java/lang/String" 1059 yJ3_checkIndex_8e157 ∈ im_ws := im_twS (x := 900) (by decide +kernel)
def im_rm (d mc ms : Nat) : Room := { frames := d + 8, cells := mc, slots := ms, locals := 64 * d + 400 }
def sr_rm (d : Nat) : Room := { frames := d, cells := 0, slots := 0, locals := 64 * d }
theorem im_good {x : Cond} (h : x ∈ im_ws) : GoodIn im_ws (x :: im_ws) := fun w hw => by
  have hm : w ∈ im_ws := (List.mem_cons.mp hw).elim (fun e => e ▸ h) id
  exact ⟨hm, good_of_word (List.mem_filter.mp hm).2⟩
def im_PS (D : va_G) (ca : Nat → ClassId) (ad : Nat → Nat) (base : Nat) (K : im_K) (as : List Value) : Array Value → State → Prop := va_Pc as (fun U => im_SF D ca ad base K U U.heap)
theorem im_PS_blind {D : va_G} {ca : Nat → ClassId} {ad : Nat → Nat} {base : Nat} {K : im_K} {as : List Value} : FrameBlind (im_PS D ca ad base K as) := by
  intro a U g mk q
  exact ⟨q.1, im_SF.warm (U := U.calling g mk a) (State.WarmedH.refl U) (fun _ _ _ => rfl) q.2⟩
theorem im_PS_at {D : va_G} {ca : Nat → ClassId} {ad : Nat → Nat} {base : Nat} {K : im_K} {as : List Value} {s U : State} {H : Heap} {locs : List Loc} (hU : U.heap = H) (hW : s.WarmedH U.vm) (hS : va_S (im_up base) s.heap H locs) (hSF : im_SF D ca ad base K s s.heap) : im_PS D ca ad base K as as.toArray U :=
  ⟨rfl, by show im_SF D ca ad base K U U.heap; rw [hU]; exact im_SF.warm hW hS.2.1 hSF⟩
def im_QN : Array Value → State → Outcome → State → Prop := fun _ st o t => o = .returned none ∧ t.heap = st.heap
theorem stx_len : ∀ k, k < 4 → Int32.ofNat ((im_txt.map List.length).getD k 0) >>> ((0 : Int32) &&& 31) = Int32.ofNat (im_txt.getD k []).length := by decide +kernel
theorem stx_len2 : ∀ k, k < 4 → (im_txt.map List.length).getD k 0 = (im_txt.getD k []).length := by decide +kernel
theorem stx_chr : ∀ k, k < 4 → ∀ j, j < 40 → (((im_txt.getD k []).getD j 0 &&& 255).toUInt32 % 65536).toInt32 = (im_txt.getD k []).getD j 0 := by decide +kernel
theorem stx_nar : ∀ k, k < 4 → ∀ j, j < 40 → narrow .char (.int ((im_txt.getD k []).getD j 0)) = .int ((im_txt.getD k []).getD j 0) := by decide +kernel
theorem stx_le : ∀ k, k < 4 → (im_txt.getD k []).length ≤ 40 := by decide +kernel
set_option maxRecDepth 20000 in
set_option maxHeartbeats 2000000 in
theorem c_coder (l : Launch) (D : va_G) (ca : Nat → ClassId) (ad : Nat → Nat) (base : Nat) (K : im_K) {k : Nat} (hk : k < 4) : Met l yJ0_coder_7d493 (Cond.code yJ0_coder_7d493 cJ0_coder_7d493 1 (some .byte) :: im_ws) (sr_rm 1) (im_PS D ca ad base K [.ref (ad (6 + k))]) (QcRead 0) 0 0 (fun _ => False) := by
  refine Met.ofW (cc := cJ0_coder_7d493) (maxL := 1) (ret := (some .byte)) (by decide) rfl ?_
  intro p e s m args below meth c s₁ B hml hv
  obtain ⟨rfl, hSF⟩ := hv
  have hx := B.exec
  have hb := B.bytes
  have hr := B.returns
  have hts0 := atoms_spec (ws := Cond.code yJ0_coder_7d493 cJ0_coder_7d493 1 (some .byte) :: im_ws) B.pre
  have hts : ∀ w ∈ im_ws, w.before ([.ref (ad (6 + k))] : List Value).toArray s = true := fun w h => hts0 w (List.mem_cons_of_mem _ h)
  have hown : s.vm.findClass "java/lang/String" = some m.cls := findClass_of_methodNamed B.named
  have hlocks := B.notSynchronized
  have hS : va_S (im_up base) s.heap s.heap [] := va_S.rf
  have hK4 := hSF.2.2.2.2.2.2.1
  have hl := lv_entry ([.ref (ad (6 + k))] : List Value) (n := 1) (Nat.le_of_ble_eq_true rfl)
  rw [lg_entry_eq]
  generalize (lg_sl ([.ref (ad (6 + k))] : List Value) ++ List.replicate (1 - (lg_sl ([.ref (ad (6 + k))] : List Value)).length) Slot.unset).toArray = ls at hl ⊢
  have hl : lv_has ls 1 [(0, .ref (ad (6 + k)))] := hl
  refine va_gets hx hb hSF.2.2.2.2.2.2.2.1 hS hown (hts _ sw_fCS) (fun _ h9 => h9) (show decode cJ0_coder_7d493 0 = .ok (.getstatic 38, 3) by decide +kernel) ?_
  refine lv_if_eq (tgt := 13) hx hb (show decode cJ0_coder_7d493 3 = .ok (.ifCond .eq 10, 3) by decide +kernel) (by decide) (fun h0 => absurd h0 (by decide)) (fun _ => ?_)
  refine lv_aload_n hx hb (show decode cJ0_coder_7d493 6 = .ok (.aload_n 0, 1) by decide +kernel) rfl (lv_at hl 0 rfl) ?_
  refine vk_getf hx hb (hK4.1 k hk).2.1 hS hown (hts _ sw_fco) (fun _ h9 => h9) (show decode cJ0_coder_7d493 7 = .ok (.getfield 15, 3) by decide +kernel) ?_
  refine lv_goto (tgt := 14) hx hb (show decode cJ0_coder_7d493 10 = .ok (.goto 4, 3) by decide +kernel) (by decide) ?_
  exact W.zret (ty := .byte) hx hb hr rfl (fun t ht hW => ⟨rfl, ht⟩) t_nil (show decode cJ0_coder_7d493 14 = .ok (.ireturn, 1) by decide +kernel)
set_option maxRecDepth 20000 in
set_option maxHeartbeats 2000000 in
theorem c_isLatin1 (l : Launch) (D : va_G) (ca : Nat → ClassId) (ad : Nat → Nat) (base : Nat) (K : im_K) {k : Nat} (hk : k < 4) : Met l yJ0_isLatin1_aae02 (Cond.code yJ0_isLatin1_aae02 cJ0_isLatin1_aae02 1 (some .boolean) :: im_ws) (sr_rm 1) (im_PS D ca ad base K [.ref (ad (6 + k))]) (QcRead 1) 0 0 (fun _ => False) := by
  refine Met.ofW (cc := cJ0_isLatin1_aae02) (maxL := 1) (ret := (some .boolean)) (by decide) rfl ?_
  intro p e s m args below meth c s₁ B hml hv
  obtain ⟨rfl, hSF⟩ := hv
  have hx := B.exec
  have hb := B.bytes
  have hr := B.returns
  have hts0 := atoms_spec (ws := Cond.code yJ0_isLatin1_aae02 cJ0_isLatin1_aae02 1 (some .boolean) :: im_ws) B.pre
  have hts : ∀ w ∈ im_ws, w.before ([.ref (ad (6 + k))] : List Value).toArray s = true := fun w h => hts0 w (List.mem_cons_of_mem _ h)
  have hown : s.vm.findClass "java/lang/String" = some m.cls := findClass_of_methodNamed B.named
  have hlocks := B.notSynchronized
  have hS : va_S (im_up base) s.heap s.heap [] := va_S.rf
  have hK4 := hSF.2.2.2.2.2.2.1
  have hl := lv_entry ([.ref (ad (6 + k))] : List Value) (n := 1) (Nat.le_of_ble_eq_true rfl)
  rw [lg_entry_eq]
  generalize (lg_sl ([.ref (ad (6 + k))] : List Value) ++ List.replicate (1 - (lg_sl ([.ref (ad (6 + k))] : List Value)).length) Slot.unset).toArray = ls at hl ⊢
  have hl : lv_has ls 1 [(0, .ref (ad (6 + k)))] := hl
  refine va_gets hx hb hSF.2.2.2.2.2.2.2.1 hS hown (hts _ sw_fCS) (fun _ h9 => h9) (show decode cJ0_isLatin1_aae02 0 = .ok (.getstatic 38, 3) by decide +kernel) ?_
  refine lv_if_eq (tgt := 17) hx hb (show decode cJ0_isLatin1_aae02 3 = .ok (.ifCond .eq 14, 3) by decide +kernel) (by decide) (fun h0 => absurd h0 (by decide)) (fun _ => ?_)
  refine lv_aload_n hx hb (show decode cJ0_isLatin1_aae02 6 = .ok (.aload_n 0, 1) by decide +kernel) rfl (lv_at hl 0 rfl) ?_
  refine vk_getf hx hb (hK4.1 k hk).2.1 hS hown (hts _ sw_fco) (fun _ h9 => h9) (show decode cJ0_isLatin1_aae02 7 = .ok (.getfield 15, 3) by decide +kernel) ?_
  refine lv_if_ne (tgt := 17) hx hb (show decode cJ0_isLatin1_aae02 10 = .ok (.ifCond .ne 7, 3) by decide +kernel) (by decide) (fun h0 => absurd rfl h0) (fun _ => ?_)
  refine lv_iconst (v := 1) hx hb (show decode cJ0_isLatin1_aae02 13 = .ok (.iconst 1, 1) by decide +kernel) (by decide) ?_
  refine lv_goto (tgt := 18) hx hb (show decode cJ0_isLatin1_aae02 14 = .ok (.goto 4, 3) by decide +kernel) (by decide) ?_
  exact W.zret (ty := .boolean) hx hb hr rfl (fun t ht hW => ⟨rfl, ht⟩) t_nil (show decode cJ0_isLatin1_aae02 18 = .ok (.ireturn, 1) by decide +kernel)
set_option maxRecDepth 20000 in
set_option maxHeartbeats 2000000 in
theorem c_length (l : Launch) (D : va_G) (ca : Nat → ClassId) (ad : Nat → Nat) (base : Nat) (K : im_K) {k : Nat} (hk : k < 4) : Met l yJ0_length_8abf5 (Cond.code yJ0_length_8abf5 cJ0_length_8abf5 1 (some .int) :: im_ws) (sr_rm 2) (im_PS D ca ad base K [.ref (ad (6 + k))]) (QcRead (Int32.ofNat (im_txt.getD k []).length)) 0 0 (fun _ => False) := by
  refine Met.ofW (cc := cJ0_length_8abf5) (maxL := 1) (ret := (some .int)) (by decide) rfl ?_
  intro p e s m args below meth c s₁ B hml hv
  obtain ⟨rfl, hSF⟩ := hv
  have hx := B.exec
  have hb := B.bytes
  have hr := B.returns
  have hts0 := atoms_spec (ws := Cond.code yJ0_length_8abf5 cJ0_length_8abf5 1 (some .int) :: im_ws) B.pre
  have hts : ∀ w ∈ im_ws, w.before ([.ref (ad (6 + k))] : List Value).toArray s = true := fun w h => hts0 w (List.mem_cons_of_mem _ h)
  have hown : s.vm.findClass "java/lang/String" = some m.cls := findClass_of_methodNamed B.named
  have hlocks := B.notSynchronized
  have hS : va_S (im_up base) s.heap s.heap [] := va_S.rf
  have hK4 := hSF.2.2.2.2.2.2.1
  have hl := lv_entry ([.ref (ad (6 + k))] : List Value) (n := 1) (Nat.le_of_ble_eq_true rfl)
  rw [lg_entry_eq]
  generalize (lg_sl ([.ref (ad (6 + k))] : List Value) ++ List.replicate (1 - (lg_sl ([.ref (ad (6 + k))] : List Value)).length) Slot.unset).toArray = ls at hl ⊢
  have hl : lv_has ls 1 [(0, .ref (ad (6 + k)))] := hl
  refine lv_aload_n hx hb (show decode cJ0_length_8abf5 0 = .ok (.aload_n 0, 1) by decide +kernel) rfl (lv_at hl 0 rfl) ?_
  refine vk_getf hx hb (hK4.1 k hk).2.2.1 hS hown (hts _ sw_fva) (fun _ h9 => h9) (show decode cJ0_length_8abf5 1 = .ok (.getfield 9, 3) by decide +kernel) ?_
  refine va_tlen hx hb (hK4.1 k hk).2.2.2 hS rfl (show decode cJ0_length_8abf5 4 = .ok (.arraylength, 1) by decide +kernel) ?_
  refine lv_aload_n hx hb (show decode cJ0_length_8abf5 5 = .ok (.aload_n 0, 1) by decide +kernel) rfl (lv_at hl 0 rfl) ?_
  refine W.callR (W.runV (As := []) (rest := [.int (Int32.ofNat ((im_txt.map List.length).getD k 0))]) ⟨hx, hb, hml, hown, hts⟩ (c_coder l D ca ad base K hk) (C := "java/lang/String") ⟨callB_of 0 hts (im_good sw_coder_code) rfl rfl rfl (hts _ sw_iniS) (hts _ sw_m335) (by decide +kernel) ⟨Nat.le_of_ble_eq_true rfl, Nat.le_of_ble_eq_true rfl⟩, hts _ sw_coder_inst, hts _ sw_coder_sel⟩ ⟨im_PS_blind, vk_recv hK4 hk hS, fun U hU hW => im_PS_at (as := [.ref (ad (6 + k))]) hU hW hS hSF⟩ rfl rfl hl.1 rfl (lv_room (Nat.le_of_ble_eq_true rfl)) (show decode cJ0_length_8abf5 6 = .ok (.invokevirtual 335, 3) by decide +kernel) ⟨Nat.le_of_ble_eq_true rfl, Nat.le_of_ble_eq_true rfl⟩) ?_
  refine lv_ishr hx hb (show decode cJ0_length_8abf5 9 = .ok (.ishr, 1) by decide +kernel) ?_
  rw [stx_len k hk]
  exact W.iret hx hb hr (fun t ht hW => ⟨rfl, ht⟩) t_nil (show decode cJ0_length_8abf5 10 = .ok (.ireturn, 1) by decide +kernel)
set_option maxRecDepth 20000 in
set_option maxHeartbeats 2000000 in
theorem c_pre (l : Launch) (D : va_G) (ca : Nat → ClassId) (ad : Nat → Nat) (base : Nat) (K : im_K) {i n : Int32} {f : Value} (h0 : ¬ i < 0) (h1 : i < n) (hf : f.category = 1) : Met l yJ3_checkIndex_8e157 (Cond.code yJ3_checkIndex_8e157 cJ3_checkIndex_8e157 3 (some .int) :: im_ws) (sr_rm 1) (im_PS D ca ad base K [.int i, .int n, f]) (QcRead i) 0 0 (fun _ => False) := by
  refine Met.ofW (cc := cJ3_checkIndex_8e157) (maxL := 3) (ret := (some .int)) (by decide) rfl ?_
  intro p e s m args below meth c s₁ B hml hv
  obtain ⟨rfl, hSF⟩ := hv
  have hx := B.exec
  have hb := B.bytes
  have hr := B.returns
  have hts0 := atoms_spec (ws := Cond.code yJ3_checkIndex_8e157 cJ3_checkIndex_8e157 3 (some .int) :: im_ws) B.pre
  have hts : ∀ w ∈ im_ws, w.before ([.int i, .int n, f] : List Value).toArray s = true := fun w h => hts0 w (List.mem_cons_of_mem _ h)
  have hown : s.vm.findClass "jdk/internal/util/Preconditions" = some m.cls := findClass_of_methodNamed B.named
  have hlocks := B.notSynchronized
  have hS : va_S (im_up base) s.heap s.heap [] := va_S.rf
  have hK4 := hSF.2.2.2.2.2.2.1
  have hl := lv_entry ([.int i, .int n, f] : List Value) (n := 3) (by cases f <;> first | exact Nat.le_of_ble_eq_true rfl | cases hf)
  rw [lg_entry_eq]
  generalize (lg_sl ([.int i, .int n, f] : List Value) ++ List.replicate (3 - (lg_sl ([.int i, .int n, f] : List Value)).length) Slot.unset).toArray = ls at hl ⊢
  have hl : lv_has ls 3 [(0, .int i), (1, .int n)] := lv_sub hl [0, 1] rfl
  refine lv_iload_n hx hb (show decode cJ3_checkIndex_8e157 0 = .ok (.iload_n 0, 1) by decide +kernel) rfl (lv_at hl 0 rfl) ?_
  refine lv_if_lt (tgt := 9) hx hb (show decode cJ3_checkIndex_8e157 1 = .ok (.ifCond .lt 8, 3) by decide +kernel) (by decide) (fun z => absurd z h0) (fun _ => ?_)
  refine lv_iload_n hx hb (show decode cJ3_checkIndex_8e157 4 = .ok (.iload_n 0, 1) by decide +kernel) rfl (lv_at hl 0 rfl) ?_
  refine lv_iload_n hx hb (show decode cJ3_checkIndex_8e157 5 = .ok (.iload_n 1, 1) by decide +kernel) rfl (lv_at hl 1 rfl) ?_
  refine lv_icmp_lt (tgt := 16) hx hb (show decode cJ3_checkIndex_8e157 6 = .ok (.if_icmp .lt 10, 3) by decide +kernel) (by decide) (fun _ => ?_) (fun z => absurd h1 z)
  refine lv_iload_n hx hb (show decode cJ3_checkIndex_8e157 16 = .ok (.iload_n 0, 1) by decide +kernel) rfl (lv_at hl 0 rfl) ?_
  exact W.iret hx hb hr (fun t ht hW => ⟨rfl, ht⟩) t_nil (show decode cJ3_checkIndex_8e157 17 = .ok (.ireturn, 1) by decide +kernel)
set_option maxRecDepth 20000 in
set_option maxHeartbeats 2000000 in
theorem c_chk (l : Launch) (D : va_G) (ca : Nat → ClassId) (ad : Nat → Nat) (base : Nat) (K : im_K) {i n : Int32} (h0 : ¬ i < 0) (h1 : i < n) : Met l yJ0_checkIndex_df160 (Cond.code yJ0_checkIndex_df160 cJ0_checkIndex_df160 2 none :: im_ws) (sr_rm 2) (im_PS D ca ad base K [.int i, .int n]) (im_QN) 0 0 (fun _ => False) := by
  refine Met.ofW (cc := cJ0_checkIndex_df160) (maxL := 2) (ret := none) (by decide) rfl ?_
  intro p e s m args below meth c s₁ B hml hv
  obtain ⟨rfl, hSF⟩ := hv
  have hx := B.exec
  have hb := B.bytes
  have hr := B.returns
  have hts0 := atoms_spec (ws := Cond.code yJ0_checkIndex_df160 cJ0_checkIndex_df160 2 none :: im_ws) B.pre
  have hts : ∀ w ∈ im_ws, w.before ([.int i, .int n] : List Value).toArray s = true := fun w h => hts0 w (List.mem_cons_of_mem _ h)
  have hown : s.vm.findClass "java/lang/String" = some m.cls := findClass_of_methodNamed B.named
  have hlocks := B.notSynchronized
  have hS : va_S (im_up base) s.heap s.heap [] := va_S.rf
  have hK4 := hSF.2.2.2.2.2.2.1
  have hl := lv_entry ([.int i, .int n] : List Value) (n := 2) (Nat.le_of_ble_eq_true rfl)
  rw [lg_entry_eq]
  generalize (lg_sl ([.int i, .int n] : List Value) ++ List.replicate (2 - (lg_sl ([.int i, .int n] : List Value)).length) Slot.unset).toArray = ls at hl ⊢
  have hl : lv_has ls 2 [(0, .int i), (1, .int n)] := hl
  refine lv_iload_n hx hb (show decode cJ0_checkIndex_df160 0 = .ok (.iload_n 0, 1) by decide +kernel) rfl (lv_at hl 0 rfl) ?_
  refine lv_iload_n hx hb (show decode cJ0_checkIndex_df160 1 = .ok (.iload_n 1, 1) by decide +kernel) rfl (lv_at hl 1 rfl) ?_
  rcases hSF.2.2.2.2.2.2.2.2 with hZ | ⟨t9, hZ⟩
  · refine va_gets hx hb hZ hS hown (hts _ sw_fSI) (fun _ h9 => h9) (show decode cJ0_checkIndex_df160 2 = .ok (.getstatic 1053, 3) by decide +kernel) ?_
    refine W.callR (W.runS (As := [.int i, .int n, .null]) (rest := []) ⟨hx, hb, hml, hown, hts⟩ (c_pre l D ca ad base K (f := .null) h0 h1 rfl) ⟨callB_of 3 hts (im_good sw_pre_code) rfl rfl rfl (hts _ sw_iniP) (hts _ sw_m1059) (by decide +kernel) ⟨Nat.le_of_ble_eq_true rfl, Nat.le_of_ble_eq_true rfl⟩, hts _ sw_pre_stat⟩ ⟨im_PS_blind, fun U hU hW => im_PS_at (as := [.int i, .int n, .null]) hU hW hS hSF⟩ rfl rfl hl.1 rfl (lv_room (Nat.le_of_ble_eq_true rfl)) (show decode cJ0_checkIndex_df160 5 = .ok (.invokestatic 1059, 3) by decide +kernel) ⟨Nat.le_of_ble_eq_true rfl, Nat.le_of_ble_eq_true rfl⟩) ?_
    refine lv_pop hx hb (show decode cJ0_checkIndex_df160 8 = .ok (.pop, 1) by decide +kernel) rfl ?_
    exact W.vret hx hb hr (fun t ht hW => ⟨rfl, ht⟩) t_nil (show decode cJ0_checkIndex_df160 9 = .ok (.return_, 1) by decide +kernel)
  · refine va_gets hx hb hZ hS hown (hts _ sw_fSI) (fun _ h9 => h9) (show decode cJ0_checkIndex_df160 2 = .ok (.getstatic 1053, 3) by decide +kernel) ?_
    refine W.callR (W.runS (As := [.int i, .int n, .ref t9]) (rest := []) ⟨hx, hb, hml, hown, hts⟩ (c_pre l D ca ad base K (f := .ref t9) h0 h1 rfl) ⟨callB_of 3 hts (im_good sw_pre_code) rfl rfl rfl (hts _ sw_iniP) (hts _ sw_m1059) (by decide +kernel) ⟨Nat.le_of_ble_eq_true rfl, Nat.le_of_ble_eq_true rfl⟩, hts _ sw_pre_stat⟩ ⟨im_PS_blind, fun U hU hW => im_PS_at (as := [.int i, .int n, .ref t9]) hU hW hS hSF⟩ rfl rfl hl.1 rfl (lv_room (Nat.le_of_ble_eq_true rfl)) (show decode cJ0_checkIndex_df160 5 = .ok (.invokestatic 1059, 3) by decide +kernel) ⟨Nat.le_of_ble_eq_true rfl, Nat.le_of_ble_eq_true rfl⟩) ?_
    refine lv_pop hx hb (show decode cJ0_checkIndex_df160 8 = .ok (.pop, 1) by decide +kernel) rfl ?_
    exact W.vret hx hb hr (fun t ht hW => ⟨rfl, ht⟩) t_nil (show decode cJ0_checkIndex_df160 9 = .ok (.return_, 1) by decide +kernel)
set_option maxRecDepth 20000 in
set_option maxHeartbeats 2000000 in
theorem c_lchar (l : Launch) (D : va_G) (ca : Nat → ClassId) (ad : Nat → Nat) (base : Nat) (K : im_K) {k : Nat} (hk : k < 4) {i : Int32} (hi : vp_in i (im_txt.getD k []).length) : Met l yJ1_charAt_3b067 (Cond.code yJ1_charAt_3b067 cJ1_charAt_3b067 2 (some .char) :: im_ws) (sr_rm 3) (im_PS D ca ad base K [.ref (ad (10 + k)), .int i]) (QcRead ((im_txt.getD k []).getD i.toNatClampNeg 0)) 0 0 (fun _ => False) := by
  refine Met.ofW (cc := cJ1_charAt_3b067) (maxL := 2) (ret := (some .char)) (by decide) rfl ?_
  intro p e s m args below meth c s₁ B hml hv
  obtain ⟨rfl, hSF⟩ := hv
  have hx := B.exec
  have hb := B.bytes
  have hr := B.returns
  have hts0 := atoms_spec (ws := Cond.code yJ1_charAt_3b067 cJ1_charAt_3b067 2 (some .char) :: im_ws) B.pre
  have hts : ∀ w ∈ im_ws, w.before ([.ref (ad (10 + k)), .int i] : List Value).toArray s = true := fun w h => hts0 w (List.mem_cons_of_mem _ h)
  have hown : s.vm.findClass "java/lang/StringLatin1" = some m.cls := findClass_of_methodNamed B.named
  have hlocks := B.notSynchronized
  have hS : va_S (im_up base) s.heap s.heap [] := va_S.rf
  have hK4 := hSF.2.2.2.2.2.2.1
  have hl := lv_entry ([.ref (ad (10 + k)), .int i] : List Value) (n := 2) (Nat.le_of_ble_eq_true rfl)
  rw [lg_entry_eq]
  generalize (lg_sl ([.ref (ad (10 + k)), .int i] : List Value) ++ List.replicate (2 - (lg_sl ([.ref (ad (10 + k)), .int i] : List Value)).length) Slot.unset).toArray = ls at hl ⊢
  have hl : lv_has ls 2 [(0, .ref (ad (10 + k))), (1, .int i)] := hl
  have hT := (hK4.1 k hk).2.2.2
  rw [stx_len2 k hk] at hT
  obtain ⟨j, hj, rfl⟩ := vp_in_of hi (by have := stx_le k hk; omega)
  have hj40 : j < 40 := by have := stx_le k hk; omega
  have hcl : (nI j).toNatClampNeg = j := nI_clamp (by omega)
  refine lv_iload_n hx hb (show decode cJ1_charAt_3b067 0 = .ok (.iload_n 1, 1) by decide +kernel) rfl (lv_at hl 1 rfl) ?_
  refine lv_aload_n hx hb (show decode cJ1_charAt_3b067 1 = .ok (.aload_n 0, 1) by decide +kernel) rfl (lv_at hl 0 rfl) ?_
  refine va_tlen hx hb hT hS rfl (show decode cJ1_charAt_3b067 2 = .ok (.arraylength, 1) by decide +kernel) ?_
  refine t_callN (W.runS (As := [.int (nI j), .int (Int32.ofNat (im_txt.getD k []).length)]) (rest := []) ⟨hx, hb, hml, hown, hts⟩ (c_chk l D ca ad base K (nI_pos (by omega)) (nI_lt hj (by have := stx_le k hk; omega))) ⟨callB_of 2 hts (im_good sw_chk_code) rfl rfl rfl (hts _ sw_iniS) (hts _ sw_m9) (by decide +kernel) ⟨Nat.le_of_ble_eq_true rfl, Nat.le_of_ble_eq_true rfl⟩, hts _ sw_chk_stat⟩ ⟨im_PS_blind, fun U hU hW => im_PS_at (as := [.int (nI j), .int (Int32.ofNat (im_txt.getD k []).length)]) hU hW hS hSF⟩ rfl rfl hl.1 rfl (lv_room (Nat.le_of_ble_eq_true rfl)) (show decode cJ1_charAt_3b067 3 = .ok (.invokestatic 9, 3) by decide +kernel) ⟨Nat.le_of_ble_eq_true rfl, Nat.le_of_ble_eq_true rfl⟩) (fun st v t hq => Outcome.returned.inj hq.1) (fun st0 t L hL h0 hq => ?_)
  have hLe : L = [] := by
    cases L with
    | nil => rfl
    | cons a _ => exact (hL a List.mem_cons_self).elim
  subst hLe
  have hth : t.heap = s.heap := hq.2.trans h0
  rw [hth, List.append_nil]
  refine W.eq (g2 := F0 m 6 ls []) rfl ?_
  refine lv_aload_n hx hb (show decode cJ1_charAt_3b067 6 = .ok (.aload_n 0, 1) by decide +kernel) rfl (lv_at hl 0 rfl) ?_
  refine lv_iload_n hx hb (show decode cJ1_charAt_3b067 7 = .ok (.iload_n 1, 1) by decide +kernel) rfl (lv_at hl 1 rfl) ?_
  refine va_tb hx hb hT hS hi rfl (show decode cJ1_charAt_3b067 8 = .ok (.baload, 1) by decide +kernel) ?_
  refine lv_sipush (v := 255) hx hb (show decode cJ1_charAt_3b067 9 = .ok (.sipush 255, 3) by decide +kernel) (by decide +kernel) ?_
  refine lv_iand hx hb (show decode cJ1_charAt_3b067 12 = .ok (.iand, 1) by decide +kernel) ?_
  refine lv_i2c hx hb (show decode cJ1_charAt_3b067 13 = .ok (.i2c, 1) by decide +kernel) rfl ?_
  rw [hcl, stx_chr k hk j hj40]
  exact W.zret (ty := .char) hx hb hr (stx_nar k hk j hj40) (fun t ht hW => ⟨rfl, ht⟩) t_nil (show decode cJ1_charAt_3b067 14 = .ok (.ireturn, 1) by decide +kernel)
set_option maxRecDepth 20000 in
set_option maxHeartbeats 2000000 in
theorem c_charAt (l : Launch) (D : va_G) (ca : Nat → ClassId) (ad : Nat → Nat) (base : Nat) (K : im_K) {k : Nat} (hk : k < 4) {i : Int32} (hi : vp_in i (im_txt.getD k []).length) : Met l yJ0_charAt_5068e (Cond.code yJ0_charAt_5068e cJ0_charAt_5068e 2 (some .char) :: im_ws) (sr_rm 4) (im_PS D ca ad base K [.ref (ad (6 + k)), .int i]) (QcRead ((im_txt.getD k []).getD i.toNatClampNeg 0)) 0 0 (fun _ => False) := by
  refine Met.ofW (cc := cJ0_charAt_5068e) (maxL := 2) (ret := (some .char)) (by decide) rfl ?_
  intro p e s m args below meth c s₁ B hml hv
  obtain ⟨rfl, hSF⟩ := hv
  have hx := B.exec
  have hb := B.bytes
  have hr := B.returns
  have hts0 := atoms_spec (ws := Cond.code yJ0_charAt_5068e cJ0_charAt_5068e 2 (some .char) :: im_ws) B.pre
  have hts : ∀ w ∈ im_ws, w.before ([.ref (ad (6 + k)), .int i] : List Value).toArray s = true := fun w h => hts0 w (List.mem_cons_of_mem _ h)
  have hown : s.vm.findClass "java/lang/String" = some m.cls := findClass_of_methodNamed B.named
  have hlocks := B.notSynchronized
  have hS : va_S (im_up base) s.heap s.heap [] := va_S.rf
  have hK4 := hSF.2.2.2.2.2.2.1
  have hl := lv_entry ([.ref (ad (6 + k)), .int i] : List Value) (n := 2) (Nat.le_of_ble_eq_true rfl)
  rw [lg_entry_eq]
  generalize (lg_sl ([.ref (ad (6 + k)), .int i] : List Value) ++ List.replicate (2 - (lg_sl ([.ref (ad (6 + k)), .int i] : List Value)).length) Slot.unset).toArray = ls at hl ⊢
  have hl : lv_has ls 2 [(0, .ref (ad (6 + k))), (1, .int i)] := hl
  refine lv_aload_n hx hb (show decode cJ0_charAt_5068e 0 = .ok (.aload_n 0, 1) by decide +kernel) rfl (lv_at hl 0 rfl) ?_
  refine W.callR (W.runV (As := []) (rest := []) ⟨hx, hb, hml, hown, hts⟩ (c_isLatin1 l D ca ad base K hk) (C := "java/lang/String") ⟨callB_of 0 hts (im_good sw_isLatin1_code) rfl rfl rfl (hts _ sw_iniS) (hts _ sw_m492) (by decide +kernel) ⟨Nat.le_of_ble_eq_true rfl, Nat.le_of_ble_eq_true rfl⟩, hts _ sw_isLatin1_inst, hts _ sw_isLatin1_sel⟩ ⟨im_PS_blind, vk_recv hK4 hk hS, fun U hU hW => im_PS_at (as := [.ref (ad (6 + k))]) hU hW hS hSF⟩ rfl rfl hl.1 rfl (lv_room (Nat.le_of_ble_eq_true rfl)) (show decode cJ0_charAt_5068e 1 = .ok (.invokevirtual 492, 3) by decide +kernel) ⟨Nat.le_of_ble_eq_true rfl, Nat.le_of_ble_eq_true rfl⟩) ?_
  refine W.eq (g2 := F0 m 4 ls [.int 1]) rfl ?_
  refine lv_if_eq (tgt := 16) hx hb (show decode cJ0_charAt_5068e 4 = .ok (.ifCond .eq 12, 3) by decide +kernel) (by decide) (fun h0 => absurd h0 (by decide)) (fun _ => ?_)
  refine lv_aload_n hx hb (show decode cJ0_charAt_5068e 7 = .ok (.aload_n 0, 1) by decide +kernel) rfl (lv_at hl 0 rfl) ?_
  refine vk_getf hx hb (hK4.1 k hk).2.2.1 hS hown (hts _ sw_fva) (fun _ h9 => h9) (show decode cJ0_charAt_5068e 8 = .ok (.getfield 9, 3) by decide +kernel) ?_
  refine lv_iload_n hx hb (show decode cJ0_charAt_5068e 11 = .ok (.iload_n 1, 1) by decide +kernel) rfl (lv_at hl 1 rfl) ?_
  refine W.callR (W.runS (As := [.ref (ad (10 + k)), .int i]) (rest := []) ⟨hx, hb, hml, hown, hts⟩ (c_lchar l D ca ad base K hk hi) ⟨callB_of 2 hts (im_good sw_lchar_code) rfl rfl rfl (hts _ sw_iniL) (hts _ sw_m495) (by decide +kernel) ⟨Nat.le_of_ble_eq_true rfl, Nat.le_of_ble_eq_true rfl⟩, hts _ sw_lchar_stat⟩ ⟨im_PS_blind, fun U hU hW => im_PS_at (as := [.ref (ad (10 + k)), .int i]) hU hW hS hSF⟩ rfl rfl hl.1 rfl (lv_room (Nat.le_of_ble_eq_true rfl)) (show decode cJ0_charAt_5068e 12 = .ok (.invokestatic 495, 3) by decide +kernel) ⟨Nat.le_of_ble_eq_true rfl, Nat.le_of_ble_eq_true rfl⟩) ?_
  refine W.eq (g2 := F0 m 15 ls [.int ((im_txt.getD k []).getD i.toNatClampNeg 0)]) rfl ?_
  obtain ⟨j, hj, rfl⟩ := vp_in_of hi (by have := stx_le k hk; omega)
  have hj40 : j < 40 := by have := stx_le k hk; omega
  have hcl : (nI j).toNatClampNeg = j := nI_clamp (by omega)
  exact W.zret (ty := .char) hx hb hr (by rw [hcl]; exact stx_nar k hk j hj40) (fun t ht hW => ⟨rfl, ht⟩) t_nil (show decode cJ0_charAt_5068e 15 = .ok (.ireturn, 1) by decide +kernel)
end
section
/-! CALLS -/
abbrev im_wsM (M : im_M) : List Cond := Cond.code M.1 M.2.1 M.2.2.1 M.2.2.2.1 :: im_ws
theorem im_okM_spec {M : im_M} (h : im_okM M = true) : plainName M.1.cls = true ∧ (M.1.cls ≠ "java/lang/invoke/MethodHandle" ∧ M.1.cls ≠ "java/lang/invoke/VarHandle" ∧ (parseMethodDescriptor M.1.desc).map (fun d => d.parameters.length) = some M.2.2.2.2.2.1) ∧ M.2.2.1 ≤ 30 ∧ Cond.code M.1 M.2.1 M.2.2.1 M.2.2.2.1 ∈ im_ws ∧ Cond.initialized M.1.cls ∈ im_ws ∧ (M.2.2.2.2.2.2.1 = true → Cond.static M.1 ∈ im_ws) ∧ (M.2.2.2.2.2.2.1 = false → Cond.instanceMethod M.1 ∈ im_ws ∧ (¬ M.1.name = "<init>" → Cond.selects M.1.cls M.1 M.1 ∈ im_ws ∧ ∃ r, vwCl[M.2.2.2.2.1]? = some r ∧ r.1 = M.1.cls)) := by
  simp only [im_okM, Bool.and_eq_true, decide_eq_true_eq] at h
  obtain ⟨⟨⟨⟨⟨⟨⟨a1, a2⟩, a3⟩, a4⟩, a5⟩, a6⟩, a7⟩, a8⟩ := h
  refine ⟨a1, ⟨a2, a3, a4⟩, a5, im_twS a6, im_twS a7, fun hs => ?_, fun hs => ?_⟩
  · rw [hs] at a8
    exact im_twS a8
  · rw [hs] at a8
    simp only [Bool.false_eq_true, if_false, Bool.and_eq_true, Bool.or_eq_true, decide_eq_true_eq] at a8
    refine ⟨im_twS a8.1, fun hn => ?_⟩
    rcases a8.2 with e | e
    · exact absurd e hn
    · refine ⟨im_twS e.1, ?_⟩
      have e2 := e.2
      split at e2
      · rename_i r hr
        exact ⟨r, hr, of_decide_eq_true e2⟩
      · cases e2
theorem im_room1 {d mc ns : Nat} {R : Room} (h : d + 9 ≤ R.frames) : (im_rm d mc ns).frames + 1 ≤ R.frames := by
  simp only [im_rm]; omega
set_option maxRecDepth 20000 in
theorem im_room2 {d mc ns k : Nat} {R : Room} (hk : k ≤ 30) (h : 64 * (d + 1) + 400 ≤ R.locals) : 8 + (k + 11) + (im_rm d mc ns).locals ≤ R.locals := by
  simp only [im_rm]; omega
theorem sm_max_s : Cond.static Lib.Math.max.name ∈ im_ws := im_twS (x := 927) (by decide +kernel)
theorem sm_max_c : Cond.code Lib.Math.max.name Lib.Math.max.code 2 (some .int) ∈ im_ws := im_twS (x := 928) (by decide +kernel)
theorem sm_min_s : Cond.static Lib.Math.min.name ∈ im_ws := im_twS (x := 987) (by decide +kernel)
theorem sm_min_c : Cond.code Lib.Math.min.name Lib.Math.min.code 2 (some .int) ∈ im_ws := im_twS (x := 988) (by decide +kernel)
theorem sm_ini : Cond.initialized "java/lang/Math" ∈ im_ws := im_twS (x := 275) (by decide +kernel)
section IMC
variable {p : Program} {l : Launch} {e : Env} {R : Room} {s : State} {m : MethodId} {args : Array Value} {below : List Frame} {meth : Method} {c : Code} {Q : State → Prop} {D : va_G} {ca : Nat → ClassId} {ad : Nat → Nat} {base nL : Nat} {K : im_K} {M : im_M} {pc : Nat} {lv : im_L} {st : List Value} {h : im_H} {c2 : im_C} {ms : List im_M}

/-- behind a call -/
theorem im_called {H : Heap} {locs : List Loc} {cells slots mc ns : Nat} {ls : Array Slot} {st0 rest : List Value} {a : Array Value} {v : Option Value} {h2 : im_H} (hr : va_Run p l e R s m args below meth c H locs cells slots mc ns (F0 m pc ls st0) rest (im_Q D ca ad base v h2 a) (im_up base)) (hS : va_S (im_up base) s.heap H locs)
    (kk : ∀ (H1 : Heap) (locs1 : List Loc), va_P D vwCl (im_w ca ad h2) H1 → va_S (im_up base) s.heap H1 locs1 → W p l e R s m args below meth c H1 locs1 (cells + mc) (slots + ns) Q (F0 m (pc + 3) ls ((v.map (im_v ad)).toList ++ rest))) : W p l e R s m args below meth c H locs cells slots Q (F0 m pc ls st0) := by
  intro T hT X
  obtain ⟨w, st₀, t, T', L, h0, X', hL, e1, e2, ⟨⟨hv, hP⟩, hz, hk⟩, st⟩ := hr T hT X
  cases hv
  rw [h0] at hz hk
  obtain ⟨t2, a1, b1⟩ := kk T'.heap (locs ++ L) (by rw [e1]; exact hP) ⟨Nat.le_trans hS.1 (by rw [e1]; exact hz), fun q h1 h2 => by rw [e1, hk q (Nat.lt_of_lt_of_le h1 hS.1) h2]; exact hS.2.1 q h1 h2, fun q hq => by
      rcases List.mem_append.mp hq with h | h
      · exact hS.2.2 q h
      · exact hL q h⟩ T' rfl X'
  exact ⟨t2, st t2 a1, b1⟩
theorem im_take_eq {n : Nat} {st : List Value} {q : List Value × List Value} (hq : im_take n st = some q) : st = q.1.reverse ++ q.2 ∧ q.1.length = n := by
  obtain ⟨h1, h2⟩ := im_ite _ hq
  cases h2
  refine ⟨?_, ?_⟩
  · show st = ((st.take n).reverse).reverse ++ st.drop n
    rw [List.reverse_reverse, List.take_append_drop]
  · show ((st.take n).reverse).length = n
    rw [List.length_reverse, List.length_take]; omega
/-- what a callee's contract says -/
def im_Met (D : va_G) (ca : Nat → ClassId) (ad : Nat → Nat) (base : Nat) (K : im_K) (l : Launch) (d : Nat) (N : im_M) (as : List Value) (h : im_H) (v : Option Value) (h2 : im_H) : Prop :=
  Met l N.1 (im_wsM N) (im_rm d (h2.length - h.length) (im_sl h2 - im_sl h)) (im_P D ca ad base K as h) (im_Q D ca ad base v h2) (h2.length - h.length) (im_sl h2 - im_sl h) (im_up base)
/-- a step that is a call is a call of the machine -/
def im_GoC (D : va_G) (ca : Nat → ClassId) (ad : Nat → Nat) (base nL : Nat) (p : Program) (l : Launch) (e : Env) (R : Room) (s : State) (m : MethodId) (args : Array Value) (below : List Frame) (meth : Method) (c : Code) (Q : State → Prop) (pc : Nat) (lv : im_L) (st : List Value) (h : im_H) (rest : List Value) (v : Option Value) (h2 : im_H) : Prop :=
  ∀ (n0 s0 : Nat) (ls : Array Slot) (H : Heap) (locs : List Loc) (cells slots : Nat), h2.length ≤ n0 + R.cells → im_sl h2 ≤ s0 + R.slots → im_St D ca ad base nL n0 s0 s lv h ls H locs cells slots →
    (∀ (ls2 : Array Slot) (H2 : Heap) (locs2 : List Loc) (cells2 slots2 : Nat), im_St D ca ad base nL n0 s0 s lv h2 ls2 H2 locs2 cells2 slots2 → W p l e R s m args below meth c H2 locs2 cells2 slots2 Q (F0 m (pc + 3) ls2 ((v.toList ++ rest).map (im_v ad)))) →
    W p l e R s m args below meth c H locs cells slots Q (F0 m pc ls (st.map (im_v ad)))
theorem im_goC {h2 : im_H} {rest : List Value} {v : Option Value} (had : ∀ i, ad (16 + i) = base + i) (hm1 : h.length ≤ h2.length) (hm2 : im_sl h ≤ im_sl h2) (run : ∀ (ls : Array Slot) (H : Heap) (locs : List Loc) (cells slots : Nat), lv_has ls nL (im_ml ad lv) → H.size = base + h.length → va_P D vwCl (im_w ca ad h) H → va_S (im_up base) s.heap H locs → cells + (h2.length - h.length) ≤ R.cells ∧ slots + (im_sl h2 - im_sl h) ≤ R.slots → ∃ a, va_Run p l e R s m args below meth c H locs cells slots (h2.length - h.length) (im_sl h2 - im_sl h) (F0 m pc ls (st.map (im_v ad))) (rest.map (im_v ad)) (im_Q D ca ad base v h2 a) (im_up base)) : im_GoC D ca ad base nL p l e R s m args below meth c Q pc lv st h rest v h2 := by
  intro n0 s0 ls H locs cells slots hc1 hs1 hI kk T hT X
  obtain ⟨hl, hP, hz, hS, hc, hq⟩ := hI
  subst hT
  have hsz := im_size had X hP hS hz hc
  obtain ⟨a, hr⟩ := run ls T.heap locs cells slots hl hsz hP hS ⟨by omega, by omega⟩
  refine im_called hr hS (fun H1 locs1 hP1 hS1 => ?_) T rfl X
  have := kk ls H1 locs1 (cells + (h2.length - h.length)) (slots + (im_sl h2 - im_sl h)) ⟨hl, hP1, hz, hS1, by omega, by omega⟩
  rw [List.map_append] at this
  rw [show (v.map (im_v ad)).toList = v.toList.map (im_v ad) by cases v <;> rfl]
  exact this
theorem is_callS (C : im_Cx D ca ad base K M p R s m args meth c) {d : Nat} (hRf : d + 9 ≤ R.frames) (hRl : 64 * (d + 1) + 400 ≤ R.locals) (hn : nL = M.2.2.1) {idx a w z x : Nat} (hdg : decode M.2.1 pc = .ok (.invokestatic idx, 3)) (hok : im_ok2 ms M (.invokestatic idx) a 0 w z x pc = true) {q : Nat × List Value × List Value} (hs : im_ins K M (.invokestatic idx) a 0 w z pc lv st h = some (.inr (.inl q))) {K2 : im_K} (hSF2 : im_SF D ca ad base K2 s s.heap) {N : im_M} (hN : ms[q.1]? = some N) (hNok : im_okM N = true) {v : Option Value} {h2 : im_H} (hm1 : h.length ≤ h2.length) (hm2 : im_sl h ≤ im_sl h2) (hM : im_Met D ca ad base K2 l d N q.2.1 h v h2) : im_GoC D ca ad base nL p l e R s m args below meth c Q pc lv st h q.2.2 v h2 := by
  obtain ⟨hx, hb, hml, hown, hts, hSF, hin, hR1, hR2, had, hfty, hlc, htx⟩ := C
  obtain ⟨u, h1, hs1⟩ := im_bd hs
  obtain ⟨hcat, hs2⟩ := im_ite _ hs1
  cases hs2
  obtain ⟨hst, hlen⟩ := im_take_eq h1
  have hok : (match ms[a]? with
      | some N => N.2.2.2.2.2.2.1 && decide (N.2.2.2.2.2.1 = w) && (im_tw x (.methodLink M.1.cls idx N.1) || decide (Cond.methodLinkNest M.1.cls idx N.1 "RubbleCity" ∈ im_nw))
      | none => false) = true := hok
  have hN : ms[a]? = some N := hN
  rw [hN] at hok
  simp only [Bool.and_eq_true, decide_eq_true_eq, Bool.or_eq_true] at hok
  obtain ⟨⟨hstat, hw⟩, hlk⟩ := hok
  obtain ⟨-, ⟨d1, d2, d3⟩, hml2, hcode, hini, hst2, -⟩ := im_okM_spec hNok
  refine im_goC had hm1 hm2 fun ls H locs cells slots hl hsz hP hS hf => ⟨(u.1.map (im_v ad)).toArray, ?_⟩
  have hp : PreS s H (im_P D ca ad base K2 u.1 h) (u.1.map (im_v ad)) := ⟨im_P_blind, fun U hU hW => im_P_at hU hW hsz hP hS hSF2⟩
  have hstk : st.map (im_v ad) = (u.1.map (im_v ad)).reverse ++ u.2.map (im_v ad) := by rw [hst, List.map_append, List.map_reverse]
  have hnn : (u.1.map (im_v ad)).length = N.2.2.2.2.2.1 := by rw [List.length_map, hlen, hw]
  rcases hlk with hlk | hlk
  · exact va_runS ⟨hx, hb, hml, hown, hts⟩ hM ⟨callB_of _ hts (im_good hcode) rfl rfl rfl (hts _ hini) (hts _ (im_twS hlk)) ⟨d1, d2, d3⟩ ⟨im_room1 hRf, im_room2 hml2 hRl⟩, hts _ (hst2 hstat)⟩ hp rfl hnn (by rw [← hn]; exact hl.1) hstk (lv_room (im_cat_le hcat)) hdg hf
  · exact va_runSN ⟨hx, hb, hml, hown, hts⟩ hM ⟨va_cnB _ hts (im_good hcode) rfl rfl rfl (hSF.2.1 _ hlk) (hts _ hini) ⟨d1, d2, d3⟩ ⟨im_room1 hRf, im_room2 hml2 hRl⟩, hts _ (hst2 hstat), trivial⟩ hp rfl hnn (by rw [← hn]; exact hl.1) hstk (lv_room (im_cat_le hcat)) hdg hf
theorem is_callI (C : im_Cx D ca ad base K M p R s m args meth c) {d : Nat} (hRf : d + 9 ≤ R.frames) (hRl : 64 * (d + 1) + 400 ≤ R.locals) (hn : nL = M.2.2.1) {idx a w z x : Nat} (hdg : decode M.2.1 pc = .ok (.invokespecial idx, 3)) (hok : im_ok2 ms M (.invokespecial idx) a 0 w z x pc = true) {q : Nat × List Value × List Value} (hs : im_ins K M (.invokespecial idx) a 0 w z pc lv st h = some (.inr (.inl q))) {K2 : im_K} (hSF2 : im_SF D ca ad base K2 s s.heap) {N : im_M} (hN : ms[q.1]? = some N) (hNok : im_okM N = true) (hret : N.2.2.2.1 = none) {v : Option Value} {h2 : im_H} (hm1 : h.length ≤ h2.length) (hm2 : im_sl h ≤ im_sl h2) (hM : im_Met D ca ad base K2 l d N q.2.1 h v h2) : im_GoC D ca ad base nL p l e R s m args below meth c Q pc lv st h q.2.2 v h2 := by
  obtain ⟨hx, hb, hml, hown, hts, hSF, hin, hR1, hR2, had, hfty, hlc, htx⟩ := C
  obtain ⟨u, h1, hs1⟩ := im_bd hs
  obtain ⟨r, h3, hs2⟩ := im_bd hs1
  obtain ⟨hcat, hs3⟩ := im_ite _ hs2
  cases hs3
  obtain ⟨hst, hlen⟩ := im_take_eq h1
  rw [im_1r_eq h3] at hst
  have hok : (match ms[a]? with
      | some N => !N.2.2.2.2.2.2.1 && decide (N.2.2.2.2.2.1 = w) && decide (N.1.name = "<init>") && (im_tw x (.methodLink M.1.cls idx N.1) || decide (Cond.methodLinkNest M.1.cls idx N.1 "RubbleCity" ∈ im_nw))
      | none => false) = true := hok
  have hN : ms[a]? = some N := hN
  rw [hN] at hok
  simp only [Bool.and_eq_true, decide_eq_true_eq, Bool.or_eq_true, Bool.not_eq_true'] at hok
  obtain ⟨⟨⟨hstat, hw⟩, hnm⟩, hlk⟩ := hok
  obtain ⟨-, ⟨d1, d2, d3⟩, hml2, hcode, hini, -, hst2⟩ := im_okM_spec hNok
  obtain ⟨hinst, -⟩ := hst2 hstat
  refine im_goC had hm1 hm2 fun ls H locs cells slots hl hsz hP hS hf => ⟨(Value.ref (ad r.1) :: u.1.map (im_v ad)).toArray, ?_⟩
  have hp : PreS s H (im_P D ca ad base K2 (.ref r.1 :: u.1) h) (.ref (ad r.1) :: u.1.map (im_v ad)) := ⟨im_P_blind, fun U hU hW => im_P_at (as := .ref r.1 :: u.1) hU hW hsz hP hS hSF2⟩
  have hstk : st.map (im_v ad) = (u.1.map (im_v ad)).reverse ++ .ref (ad r.1) :: r.2.map (im_v ad) := by rw [hst, List.map_append, List.map_reverse]; rfl
  have hnn : (u.1.map (im_v ad)).length = N.2.2.2.2.2.1 := by rw [List.length_map, hlen, hw]
  unfold im_Met at hM
  have hwsM : im_wsM N = Cond.code N.1 N.2.1 N.2.2.1 none :: im_ws := by rw [← hret]
  rcases hlk with hlk | hlk
  · exact va_runI ⟨hx, hb, hml, hown, hts⟩ hM ⟨callB_of _ hts (im_good hcode) hwsM rfl rfl (hts _ hini) (hts _ (im_twS hlk)) ⟨d1, d2, d3⟩ ⟨im_room1 hRf, im_room2 hml2 hRl⟩, hnm, hts _ hinst⟩ hp rfl hnn (by rw [← hn]; exact hl.1) hstk (lv_room (im_cat_le hcat)) hdg hf
  · exact va_runIN ⟨hx, hb, hml, hown, hts⟩ hM ⟨va_cnB _ hts (im_good hcode) hwsM rfl rfl (hSF.2.1 _ hlk) (hts _ hini) ⟨d1, d2, d3⟩ ⟨im_room1 hRf, im_room2 hml2 hRl⟩, hnm, hts _ hinst⟩ hp rfl hnn (by rw [← hn]; exact hl.1) hstk (lv_room (im_cat_le hcat)) hdg hf
theorem is_callV (C : im_Cx D ca ad base K M p R s m args meth c) {d : Nat} (hRf : d + 9 ≤ R.frames) (hRl : 64 * (d + 1) + 400 ≤ R.locals) (hn : nL = M.2.2.1) {idx a w z x : Nat} (hdg : decode M.2.1 pc = .ok (.invokevirtual idx, 3)) (hok : im_ok2 ms M (.invokevirtual idx) a 0 w z x pc = true) {q : Nat × List Value × List Value} (hs : im_ins K M (.invokevirtual idx) a 0 w z pc lv st h = some (.inr (.inl q))) {K2 : im_K} (hSF2 : im_SF D ca ad base K2 s s.heap) {N : im_M} (hN : ms[q.1]? = some N) (hNok : im_okM N = true) {v : Option Value} {h2 : im_H} (hm1 : h.length ≤ h2.length) (hm2 : im_sl h ≤ im_sl h2) (hM : im_Met D ca ad base K2 l d N q.2.1 h v h2) : im_GoC D ca ad base nL p l e R s m args below meth c Q pc lv st h q.2.2 v h2 := by
  obtain ⟨hx, hb, hml, hown, hts, hSF, hin, hR1, hR2, had, hfty, hlc, htx⟩ := C
  obtain ⟨u, h1, hs1⟩ := im_bd hs
  obtain ⟨r, h3, hs2⟩ := im_bd hs1
  obtain ⟨fs, h4, hs3⟩ := im_bd hs2
  obtain ⟨hcat, hs4⟩ := im_ite _ hs3
  cases hs4
  obtain ⟨hst, hlen⟩ := im_take_eq h1
  rw [im_1r_eq h3] at hst
  have hok : (match ms[a]? with
      | some N => !N.2.2.2.2.2.2.1 && decide (N.2.2.2.2.1 = z) && decide (N.2.2.2.2.2.1 = w) && !decide (N.1.name = "<init>") && im_tw x (.methodLink M.1.cls idx N.1)
      | none => false) = true := hok
  have hN : ms[a]? = some N := hN
  rw [hN] at hok
  simp only [Bool.and_eq_true, decide_eq_true_eq, Bool.not_eq_true', decide_eq_false_iff_not] at hok
  obtain ⟨⟨⟨⟨hstat, hz⟩, hw⟩, hnm⟩, hlk⟩ := hok
  obtain ⟨-, ⟨d1, d2, d3⟩, hml2, hcode, hini, -, hst2⟩ := im_okM_spec hNok
  obtain ⟨hinst, hsel⟩ := hst2 hstat
  obtain ⟨hsel, r9, hr9, hr8⟩ := hsel hnm
  obtain ⟨i, hi, hc⟩ := im_obj_eq h4
  refine im_goC had hm1 hm2 fun ls H locs cells slots hl hsz hP hS hf => ⟨(Value.ref (ad r.1) :: u.1.map (im_v ad)).toArray, ?_⟩
  have hrecv := va_recv hSF.1 hP (ci := z) (q0 := i) (q := r9) (by rw [← hz]; exact hr9) (im_w_at (ca := ca) (ad := ad) hc)
  rw [hr8] at hrecv
  have hp : PreV s H N.1.cls (ad r.1) (im_P D ca ad base K2 (.ref r.1 :: u.1) h) (u.1.map (im_v ad)) := ⟨im_P_blind, by rw [hi]; exact hrecv, fun U hU hW => im_P_at (as := .ref r.1 :: u.1) hU hW hsz hP hS hSF2⟩
  have hstk : st.map (im_v ad) = (u.1.map (im_v ad)).reverse ++ .ref (ad r.1) :: r.2.map (im_v ad) := by rw [hst, List.map_append, List.map_reverse]; rfl
  have hnn : (u.1.map (im_v ad)).length = N.2.2.2.2.2.1 := by rw [List.length_map, hlen, hw]
  exact va_runV ⟨hx, hb, hml, hown, hts⟩ hM ⟨callB_of _ hts (im_good hcode) rfl rfl rfl (hts _ hini) (hts _ (im_twS hlk)) ⟨d1, d2, d3⟩ ⟨im_room1 hRf, im_room2 hml2 hRl⟩, hts _ hinst, hts _ hsel⟩ hp rfl hnn (by rw [← hn]; exact hl.1) hstk (lv_room (im_cat_le hcat)) hdg hf
theorem is_strlen (C : im_Cx D ca ad base K M p R s m args meth c) (hRf : 9 ≤ R.frames) (hRl : 400 ≤ R.locals) (hn : nL = M.2.2.1) {idx a w z x : Nat} (hdg : decode M.2.1 pc = .ok (.invokevirtual idx, 3)) (hok : im_ok2 ms M (.invokevirtual idx) a 1 w z x pc = true) (hs : im_ins K M (.invokevirtual idx) a 1 w z pc lv st h = some (.inl c2)) : im_Go D ca ad base nL p l e R s m args below meth c Q pc lv st h c2 := by
  obtain ⟨hx, hb, hml, hown, hts, hSF, hin, hR1, hR2, had, hfty, hlc, htx⟩ := C
  have hok : im_tw x (.methodLink M.1.cls idx yJ0_length_8abf5) = true := hok
  obtain ⟨r, h1, hs1⟩ := im_bd hs
  obtain ⟨⟨h6, hcat⟩, hs2⟩ := im_ite _ hs1
  obtain ⟨l0, h2, hs3⟩ := im_bd hs2
  cases im_1r_eq h1
  cases im_nx_eq hs3
  rw [htx] at h2
  obtain ⟨k, hk⟩ : ∃ k, r.1 = 6 + k := ⟨r.1 - 6, by omega⟩
  rw [show r.1 - 6 = k by omega] at h2
  have hk4 : k < 4 := (List.getElem?_eq_some_iff.mp h2).1
  have hl0 : im_txt.getD k [] = l0 := by rw [List.getD_eq_getElem?_getD, h2]; rfl
  refine ⟨⟨Nat.le_refl _, Nat.le_refl _⟩, fun n0 s0 ls H locs cells slots q1 q2 hI kk => ?_⟩
  have kk := kk ls H locs cells slots hI
  obtain ⟨hl, hP, hz, hS, hc, hq⟩ := hI
  have q1 : h.length ≤ n0 + R.cells := q1
  have q2 : im_sl h ≤ s0 + R.slots := q2
  rw [List.map_cons, show im_v ad (.ref r.1) = .ref (ad (6 + k)) by rw [← hk]; rfl]
  refine W.callR (W.runV (As := []) (rest := r.2.map (im_v ad)) ⟨hx, hb, hml, hown, hts⟩ (c_length l D ca ad base K hk4) (C := "java/lang/String") ⟨callB_of 0 hts (im_good sw_length_code) rfl rfl rfl (hts _ sw_iniS) (hts _ (im_twS hok)) (by decide +kernel) ⟨by show 2 + 1 ≤ _; omega, by show 8 + (1 + 11) + 128 ≤ _; omega⟩, hts _ sw_length_inst, hts _ sw_length_sel⟩ ⟨im_PS_blind, vk_recv hSF.2.2.2.2.2.2.1 hk4 hS, fun U hU hW => im_PS_at (as := [.ref (ad (6 + k))]) hU hW hS hSF⟩ rfl rfl (by rw [← hn]; exact hl.1) rfl (lv_room (im_cat_le hcat)) hdg ⟨by omega, by omega⟩) ?_
  rw [hl0]
  exact kk
theorem is_charAt (C : im_Cx D ca ad base K M p R s m args meth c) (hRf : 9 ≤ R.frames) (hRl : 400 ≤ R.locals) (hn : nL = M.2.2.1) {idx a w z x : Nat} (hdg : decode M.2.1 pc = .ok (.invokevirtual idx, 3)) (hok : im_ok2 ms M (.invokevirtual idx) a 2 w z x pc = true) (hs : im_ins K M (.invokevirtual idx) a 2 w z pc lv st h = some (.inl c2)) : im_Go D ca ad base nL p l e R s m args below meth c Q pc lv st h c2 := by
  obtain ⟨hx, hb, hml, hown, hts, hSF, hin, hR1, hR2, had, hfty, hlc, htx⟩ := C
  have hok : im_tw x (.methodLink M.1.cls idx yJ0_charAt_5068e) = true := hok
  obtain ⟨i, h0, hs0⟩ := im_bd hs
  obtain ⟨r, h1, hs1⟩ := im_bd hs0
  obtain ⟨⟨h6, hcat⟩, hs2⟩ := im_ite _ hs1
  obtain ⟨l0, h2, hs3⟩ := im_bd hs2
  obtain ⟨h7, hs4⟩ := im_ite _ hs3
  have e1 := im_1i_eq h0
  rw [im_1r_eq h1] at e1
  cases im_nx_eq hs4
  subst e1
  rw [htx] at h2
  obtain ⟨k, hk⟩ : ∃ k, r.1 = 6 + k := ⟨r.1 - 6, by omega⟩
  rw [show r.1 - 6 = k by omega] at h2
  have hk4 : k < 4 := (List.getElem?_eq_some_iff.mp h2).1
  have hl0 : im_txt.getD k [] = l0 := by rw [List.getD_eq_getElem?_getD, h2]; rfl
  refine ⟨⟨Nat.le_refl _, Nat.le_refl _⟩, fun n0 s0 ls H locs cells slots q1 q2 hI kk => ?_⟩
  have kk := kk ls H locs cells slots hI
  obtain ⟨hl, hP, hz, hS, hc, hq⟩ := hI
  have q1 : h.length ≤ n0 + R.cells := q1
  have q2 : im_sl h ≤ s0 + R.slots := q2
  rw [List.map_cons, List.map_cons, show im_v ad (.ref r.1) = .ref (ad (6 + k)) by rw [← hk]; rfl]
  refine W.callR (W.runV (As := [.int i.1]) (rest := r.2.map (im_v ad)) ⟨hx, hb, hml, hown, hts⟩ (c_charAt l D ca ad base K hk4 (i := i.1) (by rw [hl0]; exact im_in_vp h7)) (C := "java/lang/String") ⟨callB_of 1 hts (im_good sw_charAt_code) rfl rfl rfl (hts _ sw_iniS) (hts _ (im_twS hok)) (by decide +kernel) ⟨by show 4 + 1 ≤ _; omega, by show 8 + (2 + 11) + 256 ≤ _; omega⟩, hts _ sw_charAt_inst, hts _ sw_charAt_sel⟩ ⟨im_PS_blind, vk_recv hSF.2.2.2.2.2.2.1 hk4 hS, fun U hU hW => im_PS_at (as := [.ref (ad (6 + k)), .int i.1]) hU hW hS hSF⟩ rfl rfl (by rw [← hn]; exact hl.1) rfl (lv_room (im_cat_le hcat)) hdg ⟨by omega, by omega⟩) ?_
  rw [hl0]
  exact kk
theorem is_max (C : im_Cx D ca ad base K M p R s m args meth c) (hn : nL = M.2.2.1) {idx a w z x : Nat} (hdg : decode M.2.1 pc = .ok (.invokestatic idx, 3)) (hok : im_ok2 ms M (.invokestatic idx) a 5 w z x pc = true) (hs : im_ins K M (.invokestatic idx) a 5 w z pc lv st h = some (.inl c2)) : im_Go D ca ad base nL p l e R s m args below meth c Q pc lv st h c2 := by
  obtain ⟨hx, hb, hml, hown, hts, hSF, hin, hR1, hR2, had, hfty, hlc, htx⟩ := C
  have hok : im_tw x (.methodLink M.1.cls idx Lib.Math.max.name) = true := hok
  obtain ⟨q, h1, hs1⟩ := im_bd hs
  obtain ⟨u, h2, hs2⟩ := im_bd hs1
  obtain ⟨hcat, hs3⟩ := im_ite _ hs2
  have e1 := im_1i_eq h1
  rw [im_1i_eq h2] at e1
  cases im_nx_eq hs3
  subst e1
  refine ⟨⟨Nat.le_refl _, Nat.le_refl _⟩, fun n0 s0 ls H locs cells slots q1 q2 hI kk => ?_⟩
  have kk := kk ls H locs cells slots hI
  obtain ⟨hl, hP, hz, hS, hc, hq⟩ := hI
  have q1 : h.length ≤ n0 + R.cells := q1
  have q2 : im_sl h ≤ s0 + R.slots := q2
  have hc9 := im_cat_le (ad := ad) hcat
  exact va_mmax hx hb (by rw [hml, ← hn, hl.1]) hown (hts _ (im_twS hok)) (hts _ sm_max_s) (hts _ sm_ini) (hts _ sm_max_c) hR1 (by omega) (by omega) (by omega) hdg kk
theorem is_min (C : im_Cx D ca ad base K M p R s m args meth c) (hn : nL = M.2.2.1) {idx a w z x : Nat} (hdg : decode M.2.1 pc = .ok (.invokestatic idx, 3)) (hok : im_ok2 ms M (.invokestatic idx) a 6 w z x pc = true) (hs : im_ins K M (.invokestatic idx) a 6 w z pc lv st h = some (.inl c2)) : im_Go D ca ad base nL p l e R s m args below meth c Q pc lv st h c2 := by
  obtain ⟨hx, hb, hml, hown, hts, hSF, hin, hR1, hR2, had, hfty, hlc, htx⟩ := C
  have hok : im_tw x (.methodLink M.1.cls idx Lib.Math.min.name) = true := hok
  obtain ⟨q, h1, hs1⟩ := im_bd hs
  obtain ⟨u, h2, hs2⟩ := im_bd hs1
  obtain ⟨hcat, hs3⟩ := im_ite _ hs2
  have e1 := im_1i_eq h1
  rw [im_1i_eq h2] at e1
  cases im_nx_eq hs3
  subst e1
  refine ⟨⟨Nat.le_refl _, Nat.le_refl _⟩, fun n0 s0 ls H locs cells slots q1 q2 hI kk => ?_⟩
  have kk := kk ls H locs cells slots hI
  obtain ⟨hl, hP, hz, hS, hc, hq⟩ := hI
  have q1 : h.length ≤ n0 + R.cells := q1
  have q2 : im_sl h ≤ s0 + R.slots := q2
  have hc9 := im_cat_le (ad := ad) hcat
  exact va_mmin hx hb (by rw [hml, ← hn, hl.1]) hown (hts _ (im_twS hok)) (hts _ sm_min_s) (hts _ sm_ini) (hts _ sm_min_c) hR1 (by omega) (by omega) (by omega) hdg kk
end IMC
end
section
/-! A STEP, A BODY, A METHOD -/
def im_MX (h : im_H) (o : Option im_O) : Prop := ∀ c2, o = some (.inl c2) → h.length ≤ c2.2.2.2.length ∧ im_sl h ≤ im_sl c2.2.2.2
theorem mx_none {h : im_H} : im_MX h none := fun _ q => by cases q
theorem mx_inr {h : im_H} {y : (Nat × List Value × List Value) ⊕ Option Value} : im_MX h (some (.inr y)) := fun _ q => by cases q
theorem mx_nx {h : im_H} {pc : Nat} {lv : im_L} {st : List Value} : im_MX h (im_nx pc lv st h) := fun c2 q => by cases im_nx_eq q; exact ⟨Nat.le_refl _, Nat.le_refl _⟩
theorem mx_bind {α : Type} {h : im_H} {o : Option α} {f : α → Option im_O} (k : ∀ a, o = some a → im_MX h (f a)) : im_MX h (o.bind f) := fun c2 q => by
  obtain ⟨a, h1, h2⟩ := im_bd q
  exact k a h1 c2 h2
theorem mx_ite {h : im_H} {c : Prop} {d : Decidable c} {x y : Option im_O} (k1 : c → im_MX h x) (k2 : ¬ c → im_MX h y) : im_MX h (@ite _ c d x y) := by
  by_cases hc : c
  · rw [if_pos hc]; exact k1 hc
  · rw [if_neg hc]; exact k2 hc
theorem mx_set {h : im_H} {pc : Nat} {lv : im_L} {st : List Value} {i : Nat} {x y : im_E} (hx : h[i]? = some x) (e : im_sl1 y = im_sl1 x) : im_MX h (im_nx pc lv st (h.set i y)) := fun c2 q => by
  cases im_nx_eq q
  exact ⟨by show h.length ≤ (h.set i y).length; rw [List.length_set]; exact Nat.le_refl _, by show im_sl h ≤ im_sl (h.set i y); rw [im_sl_set hx e]; exact Nat.le_refl _⟩
theorem mx_app {h k : im_H} {pc : Nat} {lv : im_L} {st : List Value} : im_MX h (im_nx pc lv st (h ++ k)) := fun c2 q => by
  cases im_nx_eq q
  exact ⟨by show h.length ≤ (h ++ k).length; rw [List.length_append]; omega, by show im_sl h ≤ im_sl (h ++ k); rw [im_sl_app]; omega⟩
theorem mx_app2 {h k k2 : im_H} {pc : Nat} {lv : im_L} {st : List Value} : im_MX h (im_nx pc lv st ((h ++ k) ++ k2)) := by
  rw [List.append_assoc]; exact mx_app
theorem im_mono {K : im_K} {M : im_M} {i : Instr} {a b w z pc : Nat} {lv : im_L} {st : List Value} {h : im_H} : im_MX h (im_ins K M i a b w z pc lv st h) := by
  cases i
  case putfield idx =>
    refine mx_bind fun v _ => mx_bind fun q _ => mx_bind fun fs h3 => mx_bind fun tys _ => mx_bind fun ty _ => mx_ite (fun _ => ?_) (fun _ => mx_none)
    obtain ⟨i, hi, hc⟩ := im_obj_eq h3
    rw [show q.1 - 16 = i by omega]
    exact mx_set hc (by simp [im_sl1])
  case iastore =>
    refine mx_bind fun v _ => mx_bind fun q _ => mx_bind fun r _ => mx_bind fun l0 h3 => mx_ite (fun _ => ?_) (fun _ => mx_none)
    obtain ⟨i, hi, hc⟩ := im_ia_eq h3
    rw [show r.1 - 16 = i by omega]
    exact mx_set hc (by simp [im_sl1])
  case bastore =>
    refine mx_bind fun v _ => mx_bind fun q _ => mx_bind fun r _ => mx_bind fun l0 h3 => mx_ite (fun _ => ?_) (fun _ => mx_none)
    obtain ⟨i, hi, hc⟩ := im_ia_eq h3
    rw [show r.1 - 16 = i by omega]
    exact mx_set hc (by simp [im_sl1])
  case lastore =>
    refine mx_bind fun v _ => mx_bind fun q _ => mx_bind fun r _ => mx_bind fun l0 h3 => mx_ite (fun _ => ?_) (fun _ => mx_none)
    obtain ⟨i, hi, hc⟩ := im_la_eq h3
    rw [show r.1 - 16 = i by omega]
    exact mx_set hc (by simp [im_sl1])
  case aastore =>
    refine mx_bind fun v _ => mx_bind fun q _ => mx_bind fun r _ => mx_bind fun l0 h3 => mx_bind fun _ _ => mx_ite (fun _ => ?_) (fun _ => mx_none)
    obtain ⟨i, hi, hc⟩ := im_qa_eq h3
    rw [show r.1 - 16 = i by omega]
    exact mx_set hc (by simp [im_sl1])
  case new idx => exact mx_bind fun _ _ => mx_app
  case newarray t =>
    refine mx_bind fun q _ => mx_ite (fun _ => mx_none) (fun _ => ?_)
    split
    · exact mx_app
    · exact mx_app
    · exact mx_app
    · exact mx_none
  case anewarray idx => exact mx_bind fun _ _ => mx_ite (fun _ => mx_none) (fun _ => mx_app)
  case multianewarray idx n => exact mx_bind fun _ _ => mx_bind fun _ _ => mx_ite (fun _ => mx_none) (fun _ => mx_app2)
  case invokestatic idx =>
    show im_MX h (match b with
      | 0 => (im_take w st).bind fun q => if im_cat q.2 then some (.inr (.inl (a, q.1, q.2))) else none
      | 3 => im_copy pc lv st h z
      | 5 => (im_1i st).bind fun q => (im_1i q.2).bind fun u => if im_cat u.2 then im_nx (pc + 3) lv (.int (if u.1 < q.1 then q.1 else u.1) :: u.2) h else none
      | 6 => (im_1i st).bind fun q => (im_1i q.2).bind fun u => if im_cat u.2 then im_nx (pc + 3) lv (.int (if q.1 < u.1 then q.1 else u.1) :: u.2) h else none
      | _ => none)
    split
    · exact mx_bind fun _ _ => mx_ite (fun _ => mx_inr) (fun _ => mx_none)
    · refine mx_bind fun n _ => mx_bind fun dp _ => mx_bind fun d _ => mx_bind fun sp _ => mx_bind fun s0 _ => mx_bind fun l0 h6 => mx_bind fun l1 h7 => mx_ite (fun h8 => ?_) (fun _ => mx_none)
      simp only [Bool.and_eq_true, Bool.not_eq_true', decide_eq_false_iff_not, decide_eq_true_eq, Bool.or_eq_true, beq_iff_eq] at h8
      obtain ⟨⟨⟨⟨⟨⟨g1, g2⟩, g3⟩, g4⟩, g5⟩, g6⟩, g7⟩ := h8
      obtain ⟨j, hj, hd⟩ := im_ia_eq h7
      rw [show d.1 - 16 = j by omega]
      exact mx_set hd (by simp [im_sl1, im_cpy_len l0 l1 _ _ _ g4 g5])
    · exact mx_bind fun _ _ => mx_bind fun _ _ => mx_ite (fun _ => mx_nx) (fun _ => mx_none)
    · exact mx_bind fun _ _ => mx_bind fun _ _ => mx_ite (fun _ => mx_nx) (fun _ => mx_none)
    · exact mx_none
  case invokespecial idx =>
    show im_MX h (match b with
      | 0 => (im_take w st).bind fun q => (im_1r q.2).bind fun r => if im_cat r.2 then some (.inr (.inl (a, .ref r.1 :: q.1, r.2))) else none
      | 4 => (im_1r st).bind fun r => if im_cat r.2 then im_nx (pc + 3) lv r.2 h else none
      | _ => none)
    split
    · exact mx_bind fun _ _ => mx_bind fun _ _ => mx_ite (fun _ => mx_inr) (fun _ => mx_none)
    · exact mx_bind fun _ _ => mx_ite (fun _ => mx_nx) (fun _ => mx_none)
    · exact mx_none
  case invokevirtual idx =>
    show im_MX h (match b with
      | 0 => (im_take w st).bind fun q => (im_1r q.2).bind fun r => (im_obj h r.1 z).bind fun _ => if im_cat r.2 then some (.inr (.inl (a, .ref r.1 :: q.1, r.2))) else none
      | 1 => (im_1r st).bind fun r => if 6 ≤ r.1 ∧ im_cat r.2 then (K.2.2.2[r.1 - 6]?).bind fun l => im_nx (pc + 3) lv (.int (Int32.ofNat l.length) :: r.2) h else none
      | 2 => (im_1i st).bind fun q => (im_1r q.2).bind fun r => if 6 ≤ r.1 ∧ im_cat r.2 then (K.2.2.2[r.1 - 6]?).bind fun l => if im_in q.1 l.length then im_nx (pc + 3) lv (.int (l.getD q.1.toNatClampNeg 0) :: r.2) h else none else none
      | _ => none)
    split
    · exact mx_bind fun _ _ => mx_bind fun _ _ => mx_bind fun _ _ => mx_ite (fun _ => mx_inr) (fun _ => mx_none)
    · exact mx_bind fun _ _ => mx_ite (fun _ => mx_bind fun _ _ => mx_nx) (fun _ => mx_none)
    · exact mx_bind fun _ _ => mx_bind fun _ _ => mx_ite (fun _ => mx_bind fun _ _ => mx_ite (fun _ => mx_nx) (fun _ => mx_none)) (fun _ => mx_none)
    · exact mx_none
  case ireturn =>
    refine mx_bind fun q _ => ?_
    split
    · exact mx_inr
    · exact mx_ite (fun _ => mx_inr) (fun _ => mx_none)
    · exact mx_none
  case lreturn =>
    refine mx_bind fun q _ => ?_
    split
    · exact mx_inr
    · exact mx_none
  case return_ =>
    show im_MX h (match M.2.2.2.1, st with
      | none, [] => some (.inr (.inr none))
      | _, _ => none)
    split
    · exact mx_inr
    · exact mx_none
  case ifnonnull off =>
    show im_MX h (match st with
      | .ref _ :: r => im_nx a lv r h
      | .null :: r => im_nx (pc + 3) lv r h
      | _ => none)
    split
    · exact mx_nx
    · exact mx_nx
    · exact mx_none
  all_goals first
    | exact mx_none
    | exact mx_nx
    | exact mx_bind fun _ _ => mx_nx
    | exact mx_ite (fun _ => mx_nx) (fun _ => mx_none)
    | exact mx_bind fun _ _ => mx_ite (fun _ => mx_nx) (fun _ => mx_none)
    | exact mx_bind fun _ _ => mx_bind fun _ _ => mx_nx
    | exact mx_bind fun _ _ => mx_bind fun _ _ => mx_bind fun _ _ => mx_nx
    | exact mx_bind fun _ _ => mx_bind fun _ _ => mx_ite (fun _ => mx_nx) (fun _ => mx_none)
    | exact mx_bind fun _ _ => mx_bind fun _ _ => mx_bind fun _ _ => mx_ite (fun _ => mx_nx) (fun _ => mx_none)
    | exact mx_bind fun _ _ => mx_ite (fun _ => mx_ite (fun _ => mx_nx) (fun _ => mx_none)) (fun _ => mx_bind fun _ _ => mx_ite (fun _ => mx_nx) (fun _ => mx_none))
end
section
/-! A STEP, A BODY, A METHOD: the interpreter is sound -/
/-- no call, no end -/
def im_NX (o : Option im_O) : Prop := ∀ y, ¬ o = some (.inr y)
theorem nx_none : im_NX none := fun _ q => by cases q
theorem nx_nx {h : im_H} {pc : Nat} {lv : im_L} {st : List Value} : im_NX (im_nx pc lv st h) := fun _ q => by unfold im_nx at q; cases q
theorem nx_bind {α : Type} {o : Option α} {f : α → Option im_O} (k : ∀ a, im_NX (f a)) : im_NX (o.bind f) := fun y q => by
  obtain ⟨a, h1, h2⟩ := im_bd q
  exact k a y h2
theorem nx_ite {c : Prop} {d : Decidable c} {x y : Option im_O} (k1 : im_NX x) (k2 : im_NX y) : im_NX (@ite _ c d x y) := by
  by_cases hc : c
  · rw [if_pos hc]; exact k1
  · rw [if_neg hc]; exact k2
/-- what a call or an end can be -/
def im_isC (i : Instr) : Bool := match i with
  | .invokestatic _ | .invokespecial _ | .invokevirtual _ | .ireturn | .lreturn | .return_ => true
  | _ => false
theorem im_nxs {K : im_K} {M : im_M} {i : Instr} {a b w z pc : Nat} {lv : im_L} {st : List Value} {h : im_H} (hi : im_isC i = false) : im_NX (im_ins K M i a b w z pc lv st h) := by
  cases i
  case newarray t =>
    refine nx_bind fun q => nx_ite nx_none ?_
    split
    · exact nx_nx
    · exact nx_nx
    · exact nx_nx
    · exact nx_none
  case ifnonnull off =>
    show im_NX (match st with
      | .ref _ :: r => im_nx a lv r h
      | .null :: r => im_nx (pc + 3) lv r h
      | _ => none)
    split
    · exact nx_nx
    · exact nx_nx
    · exact nx_none
  all_goals first
    | (cases hi; done)
    | exact nx_none
    | exact nx_nx
    | exact nx_bind fun _ => nx_nx
    | exact nx_ite nx_nx nx_none
    | exact nx_bind fun _ => nx_ite nx_nx nx_none
    | exact nx_bind fun _ => nx_ite nx_none nx_nx
    | exact nx_bind fun _ => nx_bind fun _ => nx_nx
    | exact nx_bind fun _ => nx_bind fun _ => nx_bind fun _ => nx_nx
    | exact nx_bind fun _ => nx_bind fun _ => nx_ite nx_nx nx_none
    | exact nx_bind fun _ => nx_bind fun _ => nx_ite nx_none nx_nx
    | exact nx_bind fun _ => nx_bind fun _ => nx_bind fun _ => nx_ite nx_nx nx_none
    | exact nx_bind fun _ => nx_bind fun _ => nx_bind fun _ => nx_bind fun _ => nx_ite nx_nx nx_none
    | exact nx_bind fun _ => nx_bind fun _ => nx_bind fun _ => nx_bind fun _ => nx_bind fun _ => nx_ite nx_nx nx_none
    | exact nx_bind fun _ => nx_ite (nx_ite nx_nx nx_none) (nx_bind fun _ => nx_ite nx_nx nx_none)
section IMR
variable {p : Program} {l : Launch} {e : Env} {R : Room} {s : State} {m : MethodId} {args : Array Value} {below : List Frame} {meth : Method} {c : Code} {Q : State → Prop} {D : va_G} {ca : Nat → ClassId} {ad : Nat → Nat} {base nL : Nat} {K : im_K} {M : im_M} {pc : Nat} {lv : im_L} {st : List Value} {h : im_H} {c2 : im_C} {ms : List im_M}
theorem im_ins_go (C : im_Cx D ca ad base K M p R s m args meth c) (hRf : 9 ≤ R.frames) (hRl : 400 ≤ R.locals) (hn : nL = M.2.2.1) {i : Instr} {a b w z x : Nat} (hdg : decode M.2.1 pc = .ok (i, im_ln i w)) (hok : im_ok2 ms M i a b w z x pc = true) (hs : im_ins K M i a b w z pc lv st h = some (.inl c2)) : im_Go D ca ad base nL p l e R s m args below meth c Q pc lv st h c2 := by
  have hx := C.1
  have hb := C.2.1
  cases i
  case aload_n k => exact is_aload_n hx hb hdg hs
  case aload k => exact is_aload hx hb hdg hs
  case iload_n k => exact is_iload_n hx hb hdg hs
  case iload k => exact is_iload hx hb hdg hs
  case lload_n k => exact is_lload_n hx hb hdg hs
  case iconst n => exact is_iconst hx hb hdg hs
  case bipush n => exact is_bipush hx hb hdg hs
  case sipush n => exact is_sipush hx hb hdg hs
  case istore_n k => exact is_istore_n hx hb hdg hn hs
  case istore k => exact is_istore hx hb hdg hn hs
  case astore_n k => exact is_astore_n hx hb hdg hn hs
  case astore k => exact is_astore hx hb hdg hn hs
  case iinc k n => exact is_iinc hx hb hdg hn hs
  case pop => exact is_pop hx hb hdg hs
  case pop2 => exact is_pop2 hx hb hdg hs
  case dup => exact is_dup hx hb hdg hs
  case dup2 => exact is_dup2 hx hb hdg hs
  case aconst_null => exact is_aconst_null hx hb hdg hs
  case iadd => exact is_iadd hx hb hdg hs
  case isub => exact is_isub hx hb hdg hs
  case imul => exact is_imul hx hb hdg hs
  case iand => exact is_iand hx hb hdg hs
  case ior => exact is_ior hx hb hdg hs
  case ishl => exact is_ishl hx hb hdg hs
  case ishr => exact is_ishr hx hb hdg hs
  case idiv => exact is_idiv hx hb hdg hs
  case irem => exact is_irem hx hb hdg hs
  case land => exact is_land hx hb hdg hs
  case lor => exact is_lor hx hb hdg hs
  case lcmp => exact is_lcmp hx hb hdg hs
  case lshl => exact is_lshl hx hb hdg hs
  case lshr => exact is_lshr hx hb hdg hs
  case i2l => exact is_i2l hx hb hdg hs
  case i2b => exact is_i2b hx hb hdg hs
  case i2s => exact is_i2s hx hb hdg hs
  case l2i => exact is_l2i hx hb hdg hs
  case goto off => exact is_goto hx hb hdg (of_decide_eq_true hok) hs
  case ifnonnull off => exact is_ifnonnull hx hb hdg (of_decide_eq_true hok) hs
  case tableswitch d lo hi offs => exact is_tableswitch hx hb hdg hs
  case lookupswitch d ps => exact is_lookupswitch hx hb hdg hs
  case getfield idx => exact is_getfield C hdg hok hs
  case putfield idx => exact is_putfield C hdg hok hs
  case getstatic idx => exact is_getstatic C hdg hok hs
  case ldc idx => exact is_ldc C hdg hok hs
  case ldc2_w idx => exact is_ldc2_w C hdg hok hs
  case new idx => exact is_new C hdg hok hs
  case anewarray idx => exact is_anewarray C hdg hok hs
  case newarray t => exact is_newarray C hdg hok hs
  case multianewarray idx n2 => exact is_multianewarray C hdg hok hs
  case arraylength => exact is_arraylength C (x := x) hdg hs
  case iaload => exact is_iaload C (x := x) hdg hs
  case baload => exact is_baload C (x := x) hdg hs
  case laload => exact is_laload C (x := x) hdg hs
  case aaload => exact is_aaload C (x := x) hdg hs
  case iastore => exact is_iastore C (x := x) hdg hs
  case bastore => exact is_bastore C (x := x) hdg hs
  case lastore => exact is_lastore C (x := x) hdg hs
  case aastore => exact is_aastore C (x := x) hdg hs
  case ifCond cnd off =>
    cases cnd
    · exact is_if_eq hx hb hdg (of_decide_eq_true hok) hs
    · exact is_if_ne hx hb hdg (of_decide_eq_true hok) hs
    · exact is_if_lt hx hb hdg (of_decide_eq_true hok) hs
    · exact is_if_ge hx hb hdg (of_decide_eq_true hok) hs
    · exact is_if_gt hx hb hdg (of_decide_eq_true hok) hs
    · exact is_if_le hx hb hdg (of_decide_eq_true hok) hs
  case if_icmp cnd off =>
    cases cnd
    · exact is_icmp_eq hx hb hdg (of_decide_eq_true hok) hs
    · exact is_icmp_ne hx hb hdg (of_decide_eq_true hok) hs
    · exact is_icmp_lt hx hb hdg (of_decide_eq_true hok) hs
    · exact is_icmp_ge hx hb hdg (of_decide_eq_true hok) hs
    · exact is_icmp_gt hx hb hdg (of_decide_eq_true hok) hs
    · exact is_icmp_le hx hb hdg (of_decide_eq_true hok) hs
  case invokestatic idx =>
    rcases b with _ | _ | _ | _ | _ | _ | _ | b
    · obtain ⟨q, h1, hs1⟩ := im_bd hs
      obtain ⟨h2, hs2⟩ := im_ite _ hs1
      cases hs2
    · cases hs
    · cases hs
    · exact is_copy C hdg hn hok hs
    · cases hs
    · exact is_max C hn hdg hok hs
    · exact is_min C hn hdg hok hs
    · cases hs
  case invokespecial idx =>
    rcases b with _ | _ | _ | _ | _ | b
    · obtain ⟨q, h1, hs1⟩ := im_bd hs
      obtain ⟨r, h3, hs2⟩ := im_bd hs1
      obtain ⟨h2, hs3⟩ := im_ite _ hs2
      cases hs3
    · cases hs
    · cases hs
    · cases hs
    · exact is_objInit C hdg hn hok hs
    · cases hs
  case invokevirtual idx =>
    rcases b with _ | _ | _ | b
    · obtain ⟨q, h1, hs1⟩ := im_bd hs
      obtain ⟨r, h3, hs2⟩ := im_bd hs1
      obtain ⟨r2, h4, hs3⟩ := im_bd hs2
      obtain ⟨h2, hs4⟩ := im_ite _ hs3
      cases hs4
    · exact is_strlen C hRf hRl hn hdg hok hs
    · exact is_charAt C hRf hRl hn hdg hok hs
    · cases hs
  case ireturn =>
    obtain ⟨q, h1, hs1⟩ := im_bd hs
    split at hs1
    · cases hs1
    · obtain ⟨-, hs2⟩ := im_ite _ hs1
      cases hs2
    · cases hs1
  case lreturn =>
    obtain ⟨q, h1, hs1⟩ := im_bd hs
    split at hs1
    · cases hs1
    · cases hs1
  case return_ =>
    have hs : (match M.2.2.2.1, st with
      | none, [] => (some (.inr (.inr none)) : Option im_O)
      | _, _ => none) = some (Sum.inl c2) := hs
    split at hs
    · cases hs
    · cases hs
  all_goals cases hs
theorem im_ins_call (C : im_Cx D ca ad base K M p R s m args meth c) {d : Nat} (hRf : d + 9 ≤ R.frames) (hRl : 64 * (d + 1) + 400 ≤ R.locals) (hn : nL = M.2.2.1) {i : Instr} {a b w z x : Nat} (hdg : decode M.2.1 pc = .ok (i, im_ln i w)) (hok : im_ok2 ms M i a b w z x pc = true) {q : Nat × List Value × List Value} (hs : im_ins K M i a b w z pc lv st h = some (.inr (.inl q))) {K2 : im_K} (hSF2 : im_SF D ca ad base K2 s s.heap) {N : im_M} (hN : ms[q.1]? = some N) (hNok : im_okM N = true) (hret : N.1.name = "<init>" → N.2.2.2.1 = none) {v : Option Value} {h2 : im_H} (hm1 : h.length ≤ h2.length) (hm2 : im_sl h ≤ im_sl h2) (hM : im_Met D ca ad base K2 l d N q.2.1 h v h2) : im_GoC D ca ad base nL p l e R s m args below meth c Q pc lv st h q.2.2 v h2 := by
  by_cases hi : im_isC i = false
  · exact absurd hs (im_nxs hi _)
  cases i
  case invokestatic idx =>
    rcases b with _ | _ | _ | _ | _ | _ | _ | b
    · exact is_callS C hRf hRl hn hdg hok hs hSF2 hN hNok hm1 hm2 hM
    · cases hs
    · cases hs
    · have hs : im_copy pc lv st h z = some (.inr (.inl q)) := hs
      obtain ⟨_, _, hs⟩ := im_bd hs
      obtain ⟨_, _, hs⟩ := im_bd hs
      obtain ⟨_, _, hs⟩ := im_bd hs
      obtain ⟨_, _, hs⟩ := im_bd hs
      obtain ⟨_, _, hs⟩ := im_bd hs
      obtain ⟨_, _, hs⟩ := im_bd hs
      obtain ⟨_, _, hs⟩ := im_bd hs
      obtain ⟨_, hs⟩ := im_ite _ hs
      exact absurd hs (nx_nx _)
    · cases hs
    · obtain ⟨_, _, hs⟩ := im_bd hs
      obtain ⟨_, _, hs⟩ := im_bd hs
      obtain ⟨_, hs⟩ := im_ite _ hs
      exact absurd hs (nx_nx _)
    · obtain ⟨_, _, hs⟩ := im_bd hs
      obtain ⟨_, _, hs⟩ := im_bd hs
      obtain ⟨_, hs⟩ := im_ite _ hs
      exact absurd hs (nx_nx _)
    · cases hs
  case invokespecial idx =>
    rcases b with _ | _ | _ | _ | _ | b
    · refine is_callI C hRf hRl hn hdg hok hs hSF2 hN hNok (hret ?_) hm1 hm2 hM
      obtain ⟨u, h1, hs1⟩ := im_bd hs
      obtain ⟨r, h3, hs2⟩ := im_bd hs1
      obtain ⟨hcat, hs3⟩ := im_ite _ hs2
      cases hs3
      have hok : (match ms[a]? with
        | some N => !N.2.2.2.2.2.2.1 && decide (N.2.2.2.2.2.1 = w) && decide (N.1.name = "<init>") && (im_tw x (.methodLink M.1.cls idx N.1) || decide (Cond.methodLinkNest M.1.cls idx N.1 "RubbleCity" ∈ im_nw))
        | none => false) = true := hok
      have hN : ms[a]? = some N := hN
      rw [hN] at hok
      simp only [Bool.and_eq_true, decide_eq_true_eq] at hok
      exact hok.1.2
    · cases hs
    · cases hs
    · cases hs
    · obtain ⟨r, h3, hs1⟩ := im_bd hs
      obtain ⟨_, hs2⟩ := im_ite _ hs1
      exact absurd hs2 (nx_nx _)
    · cases hs
  case invokevirtual idx =>
    rcases b with _ | _ | _ | b
    · exact is_callV C hRf hRl hn hdg hok hs hSF2 hN hNok hm1 hm2 hM
    · obtain ⟨r, h3, hs1⟩ := im_bd hs
      obtain ⟨_, hs2⟩ := im_ite _ hs1
      obtain ⟨_, _, hs3⟩ := im_bd hs2
      exact absurd hs3 (nx_nx _)
    · obtain ⟨r, h3, hs1⟩ := im_bd hs
      obtain ⟨_, _, hs2⟩ := im_bd hs1
      obtain ⟨_, hs3⟩ := im_ite _ hs2
      obtain ⟨_, _, hs4⟩ := im_bd hs3
      obtain ⟨_, hs5⟩ := im_ite _ hs4
      exact absurd hs5 (nx_nx _)
    · cases hs
  case ireturn =>
    obtain ⟨u, h1, hs1⟩ := im_bd hs
    split at hs1
    · cases hs1
    · obtain ⟨-, hs2⟩ := im_ite _ hs1
      cases hs2
    · cases hs1
  case lreturn =>
    obtain ⟨u, h1, hs1⟩ := im_bd hs
    split at hs1
    · cases hs1
    · cases hs1
  case return_ =>
    have hs : (match M.2.2.2.1, st with
      | none, [] => (some (.inr (.inr none)) : Option im_O)
      | _, _ => none) = some (Sum.inr (Sum.inl q)) := hs
    split at hs
    · cases hs
    · cases hs
  all_goals exact absurd rfl hi
theorem im_at_ok {q : im_I} (hC : im_okC ms M = true) (hq : im_at M pc = some q) : im_okI ms M pc q = true := by
  unfold im_at at hq
  split at hq
  · cases hq
  · rename_i l0 hl0
    obtain ⟨u, hu, rfl⟩ := Option.map_eq_some_iff.mp hq
    have h1 := List.mem_of_find?_eq_some hu
    have h2 : (u.1 == pc) = true := List.find?_some (p := fun q : Nat × im_I => q.1 == pc) hu
    have h3 : u.1 = pc := by simpa using h2
    have h4 := List.all_eq_true.mp (List.all_eq_true.mp hC l0 (List.mem_of_getElem? hl0)) u h1
    rw [h3] at h4
    exact h4
/-- A BODY -/
theorem im_run_sound (C : im_Cx D ca ad base K M p R s m args meth c) {d : Nat} (hRf : d + 9 ≤ R.frames) (hRl : 64 * (d + 1) + 400 ≤ R.locals) (hC : im_okC ms M = true) {K2 : im_K} (hSF2 : im_SF D ca ad base K2 s s.heap) {call : Nat → List Value → im_H → Option (Option Value × im_H)} (hcall : ∀ j as h v h2, call j as h = some (v, h2) → ∃ N, ms[j]? = some N ∧ im_okM N = true ∧ (N.1.name = "<init>" → N.2.2.2.1 = none) ∧ h.length ≤ h2.length ∧ im_sl h ≤ im_sl h2 ∧ im_Met D ca ad base K2 l d N as h v h2) :
    ∀ (n : Nat) (cf : im_C) (v : Option Value) (h2 : im_H), im_run K M call n cf = some (v, h2) → (cf.2.2.2.length ≤ h2.length ∧ im_sl cf.2.2.2 ≤ im_sl h2) ∧ ∀ (n0 s0 : Nat) (ls : Array Slot) (H : Heap) (locs : List Loc) (cells slots : Nat), h2.length ≤ n0 + R.cells → im_sl h2 ≤ s0 + R.slots → im_St D ca ad base M.2.2.1 n0 s0 s cf.2.1 cf.2.2.2 ls H locs cells slots →
      (∀ (q : im_I) (pc2 : Nat) (lv2 : im_L) (st2 : List Value) (ls2 : Array Slot) (H2 : Heap) (locs2 : List Loc) (cells2 slots2 : Nat), im_okI ms M pc2 q = true → im_ins K M q.1 (q.2.getD 0 0) (q.2.getD 1 0) (q.2.getD 2 0) (q.2.getD 3 0) pc2 lv2 st2 h2 = some (.inr (.inr v)) → im_St D ca ad base M.2.2.1 n0 s0 s lv2 h2 ls2 H2 locs2 cells2 slots2 → W p l e R s m args below meth c H2 locs2 cells2 slots2 Q (F0 m pc2 ls2 (st2.map (im_v ad)))) →
      W p l e R s m args below meth c H locs cells slots Q (F0 m cf.1 ls (cf.2.2.1.map (im_v ad))) := by
  intro n
  induction n with
  | zero => intro cf v h2 hr; cases hr
  | succ n ih =>
    intro cf v h2 hr
    obtain ⟨pc, lv, st, h⟩ := cf
    have hr : (match im_step K M (pc, lv, st, h) with
      | none => none
      | some (.inl c2) => im_run K M call n c2
      | some (.inr (.inl q)) => match call q.1 q.2.1 h with
        | none => none
        | some r => im_run K M call n (pc + 3, lv, r.1.toList ++ q.2.2, r.2)
      | some (.inr (.inr v)) => some (v, h)) = some (v, h2) := hr
    cases hstep : im_step K M (pc, lv, st, h) with
    | none => rw [hstep] at hr; cases hr
    | some o =>
      rw [hstep] at hr
      have hstep2 := hstep
      unfold im_step at hstep2
      cases hat : im_at M pc with
      | none => simp only [hat] at hstep2; cases hstep2
      | some q =>
        simp only [hat] at hstep2
        have hokI := im_at_ok hC hat
        have hokI2 := hokI
        simp only [im_okI, Bool.and_eq_true, decide_eq_true_eq] at hokI2
        obtain ⟨hdg, hok⟩ := hokI2
        cases o with
        | inl c2 =>
          have hr : im_run K M call n c2 = some (v, h2) := hr
          obtain ⟨⟨i1, i2⟩, ih2⟩ := ih c2 v h2 hr
          obtain ⟨g1, g2⟩ := im_mono c2 hstep2
          have hgo := im_ins_go (l := l) (e := e) (below := below) (Q := Q) C (by omega) (by omega) rfl hdg hok hstep2
          refine ⟨⟨Nat.le_trans g1 i1, Nat.le_trans g2 i2⟩, fun n0 s0 ls H locs cells slots hc1 hs1 hI hE => ?_⟩
          exact hgo.2 n0 s0 ls H locs cells slots (Nat.le_trans i1 hc1) (Nat.le_trans i2 hs1) hI fun ls2 H2 locs2 cells2 slots2 hI2 => ih2 n0 s0 ls2 H2 locs2 cells2 slots2 hc1 hs1 hI2 hE
        | inr y =>
          cases y with
          | inl u =>
            have hr : (match call u.1 u.2.1 h with
              | none => none
              | some r => im_run K M call n (pc + 3, lv, r.1.toList ++ u.2.2, r.2)) = some (v, h2) := hr
            cases hcl : call u.1 u.2.1 h with
            | none => rw [hcl] at hr; cases hr
            | some r =>
              rw [hcl] at hr
              have hr : im_run K M call n (pc + 3, lv, r.1.toList ++ u.2.2, r.2) = some (v, h2) := hr
              obtain ⟨⟨i1, i2⟩, ih2⟩ := ih _ v h2 hr
              obtain ⟨N, hN, hNok, hret, g1, g2, hM⟩ := hcall u.1 u.2.1 h r.1 r.2 hcl
              have i1 : r.2.length ≤ h2.length := i1
              have i2 : im_sl r.2 ≤ im_sl h2 := i2
              have hgo := im_ins_call (e := e) (below := below) (Q := Q) C hRf hRl rfl hdg hok hstep2 hSF2 hN hNok hret g1 g2 hM
              refine ⟨⟨Nat.le_trans g1 i1, Nat.le_trans g2 i2⟩, fun n0 s0 ls H locs cells slots hc1 hs1 hI hE => ?_⟩
              exact hgo n0 s0 ls H locs cells slots (Nat.le_trans i1 hc1) (Nat.le_trans i2 hs1) hI fun ls2 H2 locs2 cells2 slots2 hI2 => ih2 n0 s0 ls2 H2 locs2 cells2 slots2 hc1 hs1 hI2 hE
          | inr w =>
            have hr : some (w, h) = some (v, h2) := hr
            cases hr
            exact ⟨⟨Nat.le_refl _, Nat.le_refl _⟩, fun n0 s0 ls H locs cells slots hc1 hs1 hI hE => hE q pc lv st ls H locs cells slots hokI hstep2 hI⟩
end IMR
end
section
/-! A METHOD -/
theorem im_end {p : Program} {l : Launch} {e : Env} {R : Room} {s : State} {m : MethodId} {args : Array Value} {below : List Frame} {meth : Method} {c : Code} {D : va_G} {ca : Nat → ClassId} {ad : Nat → Nat} {base : Nat} {K : im_K} {M : im_M} {ms : List im_M} {h2 : im_H} {v : Option Value} {n0 s0 : Nat} (hx : p.tables.exec = Jvm.exec) (hb : c.code = M.2.1) (hr : meth.sig.returnType = M.2.2.2.1) (hlocks : meth.locks = false) {q : im_I} {pc : Nat} {lv : im_L} {st : List Value} {ls : Array Slot} {H : Heap} {locs : List Loc} {cells slots : Nat} (hokI : im_okI ms M pc q = true) (hs : im_ins K M q.1 (q.2.getD 0 0) (q.2.getD 1 0) (q.2.getD 2 0) (q.2.getD 3 0) pc lv st h2 = some (.inr (.inr v))) (hI : im_St D ca ad base M.2.2.1 n0 s0 s lv h2 ls H locs cells slots) :
    W p l e R s m args below meth c H locs cells slots (MQ below (im_Q D ca ad base v h2) args s (h2.length - n0) (im_sl h2 - s0) (im_up base)) (F0 m pc ls (st.map (im_v ad))) := by
  simp only [im_okI, Bool.and_eq_true, decide_eq_true_eq] at hokI
  obtain ⟨hdg, -⟩ := hokI
  obtain ⟨i, nums⟩ := q
  obtain ⟨hl, hP, hz, hS, hc, hq⟩ := hI
  have e1 : h2.length - n0 = cells := by omega
  have e2 : im_sl h2 - s0 = slots := by omega
  rw [e1, e2]
  have hs : im_ins K M i (nums.getD 0 0) (nums.getD 1 0) (nums.getD 2 0) (nums.getD 3 0) pc lv st h2 = some (.inr (.inr v)) := hs
  have hdg : decode M.2.1 pc = .ok (i, im_ln i (nums.getD 2 0)) := hdg
  by_cases hi : im_isC i = false
  · exact absurd hs (im_nxs hi _)
  cases i
  case ireturn =>
    obtain ⟨u, h1, hs1⟩ := im_bd hs
    have e3 := im_1i_eq h1
    split at hs1
    · rename_i hr1 hr2
      cases hs1
      rw [hr2] at e3
      subst e3
      exact W.iret hx hb (by rw [hr, hr1]) (fun t ht hW => ⟨⟨rfl, by rw [ht]; exact hP⟩, hS.F ht⟩) hS.2.2 hdg hlocks
    · rename_i hr1 hr2
      obtain ⟨h01, hs2⟩ := im_ite _ hs1
      cases hs2
      rw [hr2] at e3
      subst e3
      refine W.zret (ty := .boolean) hx hb (by rw [hr, hr1]) ?_ (fun t ht hW => ⟨⟨rfl, by rw [ht]; exact hP⟩, hS.F ht⟩) hS.2.2 hdg hlocks
      rcases h01 with e9 | e9 <;> (rw [e9]; rfl)
    · cases hs1
  case lreturn =>
    obtain ⟨u, h1, hs1⟩ := im_bd hs
    have e3 := im_1l_eq h1
    split at hs1
    · rename_i hr1 hr2
      cases hs1
      rw [hr2] at e3
      subst e3
      exact W.lret hx hb (by rw [hr, hr1]) (fun t ht hW => ⟨⟨rfl, by rw [ht]; exact hP⟩, hS.F ht⟩) hS.2.2 hdg hlocks
    · cases hs1
  case return_ =>
    have hs : (match M.2.2.2.1, st with
      | none, [] => (some (.inr (.inr none)) : Option im_O)
      | _, _ => none) = some (Sum.inr (Sum.inr v)) := hs
    split at hs
    · cases hs
      exact W.vret hx hb (by rw [hr]; assumption) (fun t ht hW => ⟨⟨rfl, by rw [ht]; exact hP⟩, hS.F ht⟩) hS.2.2 hdg hlocks
    · cases hs
  case invokestatic idx =>
    exfalso
    generalize nums.getD 1 0 = b at hs
    rcases b with _ | _ | _ | _ | _ | _ | _ | b
    · obtain ⟨_, _, hs⟩ := im_bd hs
      obtain ⟨_, hs⟩ := im_ite _ hs
      cases hs
    · cases hs
    · cases hs
    · have hs : im_copy pc lv st h2 (nums.getD 3 0) = some (.inr (.inr v)) := hs
      obtain ⟨_, _, hs⟩ := im_bd hs
      obtain ⟨_, _, hs⟩ := im_bd hs
      obtain ⟨_, _, hs⟩ := im_bd hs
      obtain ⟨_, _, hs⟩ := im_bd hs
      obtain ⟨_, _, hs⟩ := im_bd hs
      obtain ⟨_, _, hs⟩ := im_bd hs
      obtain ⟨_, _, hs⟩ := im_bd hs
      obtain ⟨_, hs⟩ := im_ite _ hs
      exact absurd hs (nx_nx _)
    · cases hs
    · obtain ⟨_, _, hs⟩ := im_bd hs
      obtain ⟨_, _, hs⟩ := im_bd hs
      obtain ⟨_, hs⟩ := im_ite _ hs
      exact absurd hs (nx_nx _)
    · obtain ⟨_, _, hs⟩ := im_bd hs
      obtain ⟨_, _, hs⟩ := im_bd hs
      obtain ⟨_, hs⟩ := im_ite _ hs
      exact absurd hs (nx_nx _)
    · cases hs
  case invokespecial idx =>
    exfalso
    generalize nums.getD 1 0 = b at hs
    rcases b with _ | _ | _ | _ | _ | b
    · obtain ⟨_, _, hs⟩ := im_bd hs
      obtain ⟨_, _, hs⟩ := im_bd hs
      obtain ⟨_, hs⟩ := im_ite _ hs
      cases hs
    · cases hs
    · cases hs
    · cases hs
    · obtain ⟨r, h3, hs⟩ := im_bd hs
      obtain ⟨_, hs⟩ := im_ite _ hs
      exact absurd hs (nx_nx _)
    · cases hs
  case invokevirtual idx =>
    exfalso
    generalize nums.getD 1 0 = b at hs
    rcases b with _ | _ | _ | b
    · obtain ⟨_, _, hs⟩ := im_bd hs
      obtain ⟨_, _, hs⟩ := im_bd hs
      obtain ⟨_, _, hs⟩ := im_bd hs
      obtain ⟨_, hs⟩ := im_ite _ hs
      cases hs
    · obtain ⟨r, h3, hs⟩ := im_bd hs
      obtain ⟨_, hs⟩ := im_ite _ hs
      obtain ⟨_, _, hs⟩ := im_bd hs
      exact absurd hs (nx_nx _)
    · obtain ⟨r, h3, hs⟩ := im_bd hs
      obtain ⟨_, _, hs⟩ := im_bd hs
      obtain ⟨_, hs⟩ := im_ite _ hs
      obtain ⟨_, _, hs⟩ := im_bd hs
      obtain ⟨_, hs⟩ := im_ite _ hs
      exact absurd hs (nx_nx _)
    · cases hs
  all_goals exact absurd rfl hi
/-- what the table of methods must be -/
def im_good_ms (ms : List im_M) : Prop := ∀ (j : Nat) (M : im_M), ms[j]? = some M → im_okC ms M = true ∧ im_okM M = true ∧ (M.1.name = "<init>" → M.2.2.2.1 = none)
/-- values that a method may take: none wider than its locals -/
theorem im_sl_entry {ad : Nat → Nat} (as : List Value) : (lg_sl (as.map (im_v ad))).length = (lg_sl as).length := by
  induction as with
  | nil => rfl
  | cons v t ih =>
    simp only [lg_sl, List.map_cons, List.flatMap_cons, List.length_append] at ih ⊢
    rw [ih, im_cat_v]
    by_cases h : v.category = 2 <;> simp [h]
theorem im_args {ad : Nat → Nat} : ∀ (as : List Value) (k : Nat), lv_args k (as.map (im_v ad)) = im_ml ad (lv_args k as) := by
  intro as
  induction as with
  | nil => intro k; rfl
  | cons v t ih =>
    intro k
    simp only [List.map_cons, lv_args, im_ml]
    rw [im_cat_v, ih]
theorem im_run_mono {K : im_K} {M : im_M} {call : Nat → List Value → im_H → Option (Option Value × im_H)} (hcall : ∀ j as h v h2, call j as h = some (v, h2) → h.length ≤ h2.length ∧ im_sl h ≤ im_sl h2) : ∀ (n : Nat) (cf : im_C) (v : Option Value) (h2 : im_H), im_run K M call n cf = some (v, h2) → cf.2.2.2.length ≤ h2.length ∧ im_sl cf.2.2.2 ≤ im_sl h2 := by
  intro n
  induction n with
  | zero => intro cf v h2 hr; cases hr
  | succ n ih =>
    intro cf v h2 hr
    obtain ⟨pc, lv, st, h⟩ := cf
    have hr : (match im_step K M (pc, lv, st, h) with
      | none => none
      | some (.inl c2) => im_run K M call n c2
      | some (.inr (.inl q)) => match call q.1 q.2.1 h with
        | none => none
        | some r => im_run K M call n (pc + 3, lv, r.1.toList ++ q.2.2, r.2)
      | some (.inr (.inr v)) => some (v, h)) = some (v, h2) := hr
    cases hstep : im_step K M (pc, lv, st, h) with
    | none => rw [hstep] at hr; cases hr
    | some o =>
      rw [hstep] at hr
      cases o with
      | inl c2 =>
        have hr : im_run K M call n c2 = some (v, h2) := hr
        obtain ⟨i1, i2⟩ := ih c2 v h2 hr
        unfold im_step at hstep
        cases hat : im_at M pc with
        | none => simp only [hat] at hstep; cases hstep
        | some q =>
          simp only [hat] at hstep
          obtain ⟨g1, g2⟩ := im_mono c2 hstep
          exact ⟨Nat.le_trans g1 i1, Nat.le_trans g2 i2⟩
      | inr y =>
        cases y with
        | inl u =>
          have hr : (match call u.1 u.2.1 h with
            | none => none
            | some r => im_run K M call n (pc + 3, lv, r.1.toList ++ u.2.2, r.2)) = some (v, h2) := hr
          cases hcl : call u.1 u.2.1 h with
          | none => rw [hcl] at hr; cases hr
          | some r =>
            rw [hcl] at hr
            have hr : im_run K M call n (pc + 3, lv, r.1.toList ++ u.2.2, r.2) = some (v, h2) := hr
            obtain ⟨i1, i2⟩ := ih _ v h2 hr
            obtain ⟨g1, g2⟩ := hcall u.1 u.2.1 h r.1 r.2 hcl
            exact ⟨Nat.le_trans g1 i1, Nat.le_trans g2 i2⟩
        | inr w =>
          have hr : some (w, h) = some (v, h2) := hr
          cases hr
          exact ⟨Nat.le_refl _, Nat.le_refl _⟩
set_option maxRecDepth 20000 in
theorem im_sound {D : va_G} {ca : Nat → ClassId} {ad : Nat → Nat} {base : Nat} {K : im_K} {l : Launch} {ms : List im_M} (had : ∀ i, ad (16 + i) = base + i) (hfty : K.2.1 = im_fty) (hlc : K.2.2.1 = im_lc) (htx : K.2.2.2 = im_txt) (hms : im_good_ms ms) :
    ∀ (d f j : Nat) (as : List Value) (h : im_H) (v : Option Value) (h2 : im_H), im_call K ms d f j as h = some (v, h2) → ∃ N, ms[j]? = some N ∧ im_okM N = true ∧ (N.1.name = "<init>" → N.2.2.2.1 = none) ∧ h.length ≤ h2.length ∧ im_sl h ≤ im_sl h2 ∧ im_Met D ca ad base K l d N as h v h2 := by
  intro d
  induction d with
  | zero => intro f j as h v h2 hr; cases hr
  | succ d ih =>
    intro f j as h v h2 hr
    have hr : (match ms[j]? with
      | none => none
      | some M => if (lg_sl as).length ≤ M.2.2.1 then im_run K M (im_call K ms d f) f (0, lv_args 0 as, [], h) else none) = some (v, h2) := hr
    cases hj : ms[j]? with
    | none => rw [hj] at hr; cases hr
    | some M =>
      rw [hj] at hr
      obtain ⟨hlen, hr⟩ := im_ite _ hr
      obtain ⟨hC, hM, hret⟩ := hms j M hj
      have ihf := ih f
      obtain ⟨g1, g2⟩ := im_run_mono (fun j as h v h2 hc => by obtain ⟨N, -, -, -, g1, g2, -⟩ := ihf j as h v h2 hc; exact ⟨g1, g2⟩) f _ v h2 hr
      refine ⟨M, rfl, hM, hret, g1, g2, ?_⟩
      obtain ⟨hpl, -, hml30, -⟩ := im_okM_spec hM
      refine Met.ofW (cc := M.2.1) (maxL := M.2.2.1) (ret := M.2.2.2.1) hpl rfl ?_
      intro p e s m args below meth c s₁ B hml hv
      obtain ⟨rfl, hsz, hP, hSF⟩ := hv
      have hts0 := atoms_spec (ws := im_wsM M) B.pre
      have hts : ∀ w ∈ im_ws, w.before (as.map (im_v ad)).toArray s = true := fun w h => hts0 w (List.mem_cons_of_mem _ h)
      have hown : s.vm.findClass M.1.cls = some m.cls := findClass_of_methodNamed B.named
      have hlocks := B.notSynchronized
      have C : im_Cx D ca ad base K M p (im_rm (d + 1) (h2.length - h.length) (im_sl h2 - im_sl h)) s m (as.map (im_v ad)).toArray meth c := ⟨B.exec, B.bytes, hml, hown, hts, hSF, fun hn => by rw [(name_of_methodNamed B.named B.method).1]; exact hn, by show 1 ≤ d + 1 + 8; omega, by show 64 ≤ 64 * (d + 1) + 400; omega, had, hfty, hlc, htx⟩
      have hl := lv_entry (as.map (im_v ad)) (n := M.2.2.1) (by rw [im_sl_entry]; exact hlen)
      rw [lg_entry_eq]
      generalize (lg_sl (as.map (im_v ad)) ++ List.replicate (M.2.2.1 - (lg_sl (as.map (im_v ad))).length) Slot.unset).toArray = ls at hl ⊢
      rw [im_args] at hl
      have hrun := im_run_sound (l := l) (e := e) (below := below) (Q := MQ below (im_Q D ca ad base v h2) (as.map (im_v ad)).toArray s (h2.length - h.length) (im_sl h2 - im_sl h) (im_up base)) C (d := d) (by show d + 9 ≤ d + 1 + 8; omega) (Nat.le_refl _) hC hSF ihf f _ v h2 hr
      exact hrun.2 h.length (im_sl h) ls s.heap [] 0 0 (by show h2.length ≤ h.length + (h2.length - h.length); omega) (by show im_sl h2 ≤ im_sl h + (im_sl h2 - im_sl h); omega) ⟨hl, hP, hsz, va_S.rf, Nat.zero_add _, Nat.zero_add _⟩ (fun q pc2 lv2 st2 ls2 H2 locs2 cells2 slots2 h1 h3 h4 => im_end B.exec B.bytes B.returns hlocks h1 h3 h4)
end
section
-- ===== end of PART A; then your names; then what follows =====
/-! THE CLAIM OUT OF ONE WALK OF THE LAW'S BODY. Your part is whole_start (and what it stands on); all else here is the same for every law, but numbers. -/
def R_law : String := "RubbleCityLaw"
def lw_P (b : Addr) (xs : List Int32) (args : Array Value) (s : State) : Prop := args = #[.ref b] ∧ s.IntsAt b xs ∧ xs.length ≤ 3072 ∧ (Jvm.Cond.and given_1 narrow_1).before args s = true
def lw_Q (_ : Array Value) (s : State) (o : Outcome) (t : State) : Prop := o = .returned (some (.int 1)) ∧ Framed s o t [] 600000 7302250
def lw_Z (below : List Frame) (a : Array Value) (s : State) : State → Prop := fun t => ∃ o, t.status = .running ∧ Ended t below o ∧ lw_Q a s o t
/-- the law's own end, with 1 on the stack, nothing written that was there before, its room as the claim has it -/
theorem lw_ret {p : Program} {l : Launch} {e : Env} {s : State} {m : MethodId} {below : List Frame} {meth : Method} {c : Code} {b : Nat} (hx : p.tables.exec = Jvm.exec) (hb : c.code = code) (hr : meth.sig.returnType = ret) (hlocks : meth.locks = false) {pc : Nat} {H : Heap} {ls : Array Slot} (hdg : decode code pc = .ok (.ireturn, 1)) : W p l e room_1 s m #[Value.ref b] below meth c H [] 600000 7302250 (lw_Z below #[Value.ref b] s) (F0 m pc ls [.int 1]) := by
  intro T hT X
  obtain ⟨fs, hret, hrun, hended, hW, hframe⟩ := X.leave (v := some (.int 1)) (hlocks := hlocks) (fun h => by rw [hr] at h; cases h)
  have hmeth' : T.vm.method? m = some meth := X.method'
  refine ⟨T.setFrames fs, ?_, .returned (some (.int 1)), hrun, hended, rfl, ⟨_, rfl⟩, hW, hframe⟩
  jvm_step X.here [X.here.top, hx, hb, hdg, hmeth', hr, ret, narrow_b1]
  (try refine ⟨rfl, ?_⟩); (try refine ⟨rfl, ?_⟩)
  first | (intro acts; rw [hret _ acts rfl rfl rfl]) | rw [hret _ _ rfl rfl rfl]
  exact Steps.refl _
/-- what holds at the law's entry: the machine, the code, the tables' words (any of lw_tbl by 'hts w (by decide +kernel)'), the script of L ints xs at the cell b, what the Statement gives of the start (any of its parts by flat_of_before) -/
def lw_At (p : Program) (s : State) (m : MethodId) (meth : Method) (c : Code) (b L : Nat) (xs : Nat → Int32) : Prop :=
  p.tables.exec = Jvm.exec ∧ c.code = code ∧ meth.sig.returnType = ret ∧ c.maxLocals = 4 ∧ s.vm.findClass R_law = some m.cls ∧ (∀ w ∈ lw_tbl, w.before #[Value.ref b] s = true) ∧ va_X b L xs s s.heap ∧ b < s.heap.size ∧ meth.locks = false ∧ (Jvm.Cond.and given_1 narrow_1).before #[Value.ref b] s = true
end
section
/-! THE START: what stands at the law's entry -/
def im_tb : List (List Int32) := [[20, 35, 20, 70, 10, 5], [1, 4, 1, 4, 7, 4], [0, 0, 5, 0, 5, 0], [3, 3, 2, 7, 2, 6], [-1, 0, 0, 1, 2, 1]]
def im_K0 : im_K := (im_tb, im_fty, im_lc, im_txt)
def im_K1 (xs : List Int32) : im_K := (im_tb ++ [xs], im_fty, im_lc, im_txt)
def im_fl : List Cond := flatC (Jvm.Cond.and given_1 narrow_1)
theorem se_arr : ∀ k, k < 5 → Cond.arrayOf (.static "RubbleCity" (im_sn.getD k "") "[I") .int ∈ im_fl := by decide +kernel
theorem se_len : ∀ k, k < 5 → Cond.eq (.length (.static "RubbleCity" (im_sn.getD k "") "[I")) (.int 6) ∈ im_fl := by decide +kernel
theorem se_el : ∀ k, k < 5 → ∀ j, j < 6 → Cond.eq (.elem (.static "RubbleCity" (im_sn.getD k "") "[I") (.int (Int32.ofNat j))) (.int ((im_tb.getD k []).getD j 0)) ∈ im_fl := by decide +kernel
def im_sr (i : Nat) : Term := .string "RubbleCity$Tape" ([32, 59, 76, 81].getD i 0)
theorem se_ex : ∀ i, i < 4 → Cond.exactly (im_sr i) "java/lang/String" ∈ im_fl := by decide +kernel
theorem se_co : ∀ i, i < 4 → Cond.eq (.field (im_sr i) "java/lang/String" "coder" "B") (.int 0) ∈ im_fl := by decide +kernel
theorem se_va : ∀ i, i < 4 → Cond.arrayOf (.field (im_sr i) "java/lang/String" "value" "[B") .byte ∈ im_fl := by decide +kernel
theorem se_vl : ∀ i, i < 4 → Cond.eq (.length (.field (im_sr i) "java/lang/String" "value" "[B")) (.int (Int32.ofNat ((im_txt.map List.length).getD i 0))) ∈ im_fl := by decide +kernel
theorem se_ve : ∀ i, i < 4 → ∀ j, j < (im_txt.map List.length).getD i 0 → Cond.eq (.elem (.field (im_sr i) "java/lang/String" "value" "[B") (.int (Int32.ofNat j))) (.int ((im_txt.getD i []).getD j 0)) ∈ im_fl := by decide +kernel
theorem se_ne : ∀ i, i < 4 → ∀ j, j < 4 → i ≠ j → (Cond.not (Cond.eq (im_sr i) (im_sr j)) ∈ im_fl ∨ Cond.not (Cond.eq (im_sr j) (im_sr i)) ∈ im_fl) := by decide +kernel
theorem se_cs : Cond.eq (.static "java/lang/String" "COMPACT_STRINGS" "Z") (.int 1) ∈ im_fl := by decide +kernel
theorem se_si : Cond.isRef (.static "jdk/internal/util/Preconditions" "SIOOBE_FORMATTER" "Ljava/util/function/BiFunction;") ∈ im_fl := by decide +kernel
theorem se_ls : ∀ k, k < 5 → lw_tbl[[741, 743, 745, 767, 1031].getD k 0]? = some (Cond.laysStatic "RubbleCity" (im_sn.getD k "") "[I") := by decide +kernel
theorem se_lcs : lw_tbl[629]? = some (Cond.laysStatic "java/lang/String" "COMPACT_STRINGS" "Z") := by decide +kernel
theorem se_lsi : lw_tbl[645]? = some (Cond.laysStatic "jdk/internal/util/Preconditions" "SIOOBE_FORMATTER" "Ljava/util/function/BiFunction;") := by decide +kernel
theorem se_sr : ∀ k, k < 4 → ∀ x, im_str[k]? = some x → lw_tbl[[615, 687, 696, 697].getD k 0]? = some (Cond.stringRef x.1 x.2.1 x.2.2) ∧ im_sr k = .string x.1 x.2.1 := by
  intro k hk x hx
  rcases (show k = 0 ∨ k = 1 ∨ k = 2 ∨ k = 3 by omega) with rfl | rfl | rfl | rfl <;> (cases hx; exact ⟨by decide +kernel, rfl⟩)
theorem se_ini : lw_tbl[35]? = some (Cond.initialized "RubbleCity") := by decide +kernel
theorem se_ov0 : lw_tbl[70]? = some (Cond.arrayOver (.object RX7)) := by decide +kernel
theorem se_ov1 : lw_tbl[72]? = some (Cond.arrayOver (.object RX5)) := by decide +kernel
theorem se_ov2 : lw_tbl[304]? = some (Cond.arrayOver (.object RX1)) := by decide +kernel
theorem se_ov3 : lw_tbl[429]? = some (Cond.arrayOver (.object RX8)) := by decide +kernel
theorem se_ova : lw_tbl[374]? = some (Cond.arrayOver (.array .int)) := by decide +kernel
theorem se_nw : im_nw.map some = [77, 103, 286, 307, 329, 369, 431, 468, 740, 742, 744, 766, 896].map (fun i => lw_tbl[i]?) := by decide +kernel
theorem im_prim {args : Array Value} {s : State} {ty : FieldType} (h : (Cond.arrayClass ty).before args s = true) : ∃ cA, ArrOfT s cA ty ∧ s.vm.findClass ("[" ++ ty.toString) = some cA := by
  obtain ⟨c, k, comp, h1, h2, h3⟩ := Cond.arrayClass_spec h
  exact ⟨c, fun n z => ⟨fun k h => (by cases h), k, h2, comp, h3⟩, h1⟩
theorem im_objA {s : State} {C : String} (h : va_AO C s) : ∃ cA, ArrOfT s cA (.object C) ∧ va_RA s cA (.object C) := by
  obtain ⟨comp, c, k, h1, h2, h3, h4, h5⟩ := Cond.arrayOver_spec h
  exact ⟨c, fun n z => ⟨fun k h => (by cases h), k, h3, comp, h4⟩, k, comp, h3, h4, h1, h5⟩
theorem im_arrA {s : State} (h : im_AOA s) : ∃ cA, ArrOfT s cA (.array .int) ∧ va_RA s cA (.array .int) := by
  unfold im_AOA Cond.before Cond.holds at h
  simp only [Cond.value, beq_iff_eq] at h
  obtain ⟨comp, h1, h2⟩ := Option.bind_eq_some_iff.mp h
  obtain ⟨c, h3, h4⟩ := Option.bind_eq_some_iff.mp h2
  obtain ⟨k, h5, h6⟩ := Option.map_eq_some_iff.mp h4
  split at h6
  · rename_i co ty hk
    simp only [Bool.and_eq_true, decide_eq_true_eq] at h6
    obtain ⟨h7, h8⟩ := h6
    subst h7
    exact ⟨c, fun n z => ⟨fun k h => (by cases h), k, h5, co, hk⟩, h8⟩
  · cases h6
theorem im_ws_tbl {w : Cond} (h : w ∈ im_ws) : w ∈ lw_tbl := (List.mem_filter.mp h).1
set_option maxHeartbeats 2000000 in
theorem im_start {p : Program} {s : State} {m : MethodId} {meth : Method} {c : Code} {b L : Nat} {xs : Nat → Int32} (hL : L < 2 ^ 31) (C0 : lw_At p s m meth c b L xs) : ∃ (D : va_G) (ca : Nat → ClassId) (ad : Nat → Nat), (∀ i, ad (16 + i) = s.heap.size + i) ∧ ad 5 = b ∧ im_SF D ca ad s.heap.size (im_K1 ((List.range L).map xs)) s s.heap := by
  obtain ⟨hx, hb, hr, hml, hown, hts, hX, hbl, hlocks, hgv⟩ := C0
  have hs : ∀ c ∈ im_fl, c.before #[Value.ref b] s = true := flat_of_before _ hgv
  have hm : ∀ {i : Nat} {w : Cond}, lw_tbl[i]? = some w → w.before #[Value.ref b] s = true := fun h => hts _ (List.mem_of_getElem? h)
  have hA : ∀ a : Nat, a < s.heap.size → ¬ im_up s.heap.size a := fun a h q => absurd (show s.heap.size ≤ a from q) (by omega)
  -- the classes
  have hcl : ∀ ci : Nat, ∃ q : ClassId × (Nat → Nat), ∀ r, vwCl[ci]? = some r → u_Kn s r.1 r.2.1 r.2.2 q.1 q.2 := by
    intro ci
    cases hr9 : vwCl[ci]? with
    | none => exact ⟨(0, fun _ => 0), fun r h => by cases h⟩
    | some r =>
      obtain ⟨cC, iS, h9⟩ := u_known (C := r.1) (T := r.2.1) (N := r.2.2) (n := r.2.2) hts (fun w h => im_ws_tbl ((im_cls_all hr9).2.2.1 w h)) (hts _ (im_ws_tbl (im_inst hr9).1))
      exact ⟨(cC, iS), fun r2 h => by cases h; exact h9⟩
  obtain ⟨fc, hfc⟩ := Classical.axiomOfChoice hcl
  -- the arrays' classes
  obtain ⟨c0, p0, q0⟩ := im_prim (hts _ (im_ws_tbl im_w_int))
  obtain ⟨c1, p1, q1⟩ := im_prim (hts _ (im_ws_tbl im_w_bool))
  obtain ⟨c2, p2, q2⟩ := im_prim (hts _ (im_ws_tbl im_w_long))
  have a3 : va_AO RX7 s := va_AO.of (hm se_ov0)
  have a4 : va_AO RX5 s := va_AO.of (hm se_ov1)
  have a5 : va_AO RX1 s := va_AO.of (hm se_ov2)
  have a6 : va_AO RX8 s := va_AO.of (hm se_ov3)
  have a7 : im_AOA s := hm se_ova
  obtain ⟨c3, p3⟩ := im_objA a3
  obtain ⟨c4, p4⟩ := im_objA a4
  obtain ⟨c5, p5⟩ := im_objA a5
  obtain ⟨c6, p6⟩ := im_objA a6
  obtain ⟨c7, p7⟩ := im_arrA a7
  -- the statics
  have hst : ∀ k : Nat, ∃ t : Nat, k < 5 → (Term.static "RubbleCity" (im_sn.getD k "") "[I").eval #[Value.ref b] s none [] s = some (.ref t) ∧ va_T .int t 6 (fun j => .int ((im_tb.getD k []).getD j 0)) (im_up s.heap.size) s s.heap := by
    intro k
    by_cases hk : k < 5
    · obtain ⟨t, h1, h2⟩ := va_Tof (N := 6) (f := fun j => .int ((im_tb.getD k []).getD j 0)) (A := im_up s.heap.size) (by decide) (hs _ (se_arr k hk)) (va_eqt (hs _ (se_len k hk))) (fun j hj => va_eqt (hs _ (se_el k hk j hj))) hA
      exact ⟨t, fun _ => ⟨h1, h2⟩⟩
    · exact ⟨0, fun h => absurd h hk⟩
  obtain ⟨st, hst⟩ := Classical.axiomOfChoice hst
  -- the texts
  obtain ⟨adK, adV, hvS, hvE⟩ := vk_Sof (args := #[Value.ref b]) (s := s) (N := 4) (tm := im_sr) (len := im_txt.map List.length) (byt := im_txt) (A := im_up s.heap.size) (by decide +kernel) (fun i hi => hs _ (se_ex i hi)) (fun i hi => hs _ (se_co i hi)) (fun i hi => hs _ (se_va i hi)) (fun i hi => hs _ (se_vl i hi)) (fun i hi j hj => hs _ (se_ve i hi j hj)) (fun i j hi hj hne => (se_ne i hi j hj hne).imp (fun h => hs _ h) (fun h => hs _ h)) hA
  let ad : Nat → Nat := fun r => if r < 5 then st r else if r = 5 then b else if r < 10 then adK (r - 6) else if r < 14 then adV (r - 10) else s.heap.size + (r - 16)
  have ad0 : ∀ k, k < 5 → ad k = st k := fun k hk => by simp only [ad, if_pos hk]
  have ad5 : ad 5 = b := rfl
  have ad6 : ∀ k, k < 4 → ad (6 + k) = adK k := fun k hk => by
    simp only [ad]
    rw [if_neg (by omega), if_neg (by omega), if_pos (by omega)]
    congr 1; omega
  have ad10 : ∀ k, k < 4 → ad (10 + k) = adV k := fun k hk => by
    simp only [ad]
    rw [if_neg (by omega), if_neg (by omega), if_neg (by omega), if_pos (by omega)]
    congr 1; omega
  have ad16 : ∀ i, ad (16 + i) = s.heap.size + i := fun i => by
    simp only [ad]
    rw [if_neg (by omega), if_neg (by omega), if_neg (by omega), if_neg (by omega)]
    congr 1; omega
  refine ⟨(fun ci => (fc ci).1, fun ci => (fc ci).2), fun t => [c0, c1, c2, c3, c4, c5, c6, c7].getD t 0, ad, ad16, ad5, ⟨fun ci r hr => hfc ci r hr, fun k q hq => ?_⟩, fun w hw => ?_, ⟨a3, a4, a5, a6, a7⟩, fun k n hn => ?_, fun k l hl => ?_, fun k x hx => ?_, ⟨fun i hi => ?_, fun i j hi hj h => ?_⟩, va_Zof (hm se_lcs) (hts _ (im_ws_tbl sw_iniS)) (va_eqi (hs _ se_cs)) hA, va_Zqof (hm se_lsi) (hts _ (im_ws_tbl sw_iniP)) (hs _ se_si) hA⟩
  · have hk : k < 8 := (List.getElem?_eq_some_iff.mp hq).1
    rcases (show k = 0 ∨ k = 1 ∨ k = 2 ∨ k = 3 ∨ k = 4 ∨ k = 5 ∨ k = 6 ∨ k = 7 by omega) with rfl | rfl | rfl | rfl | rfl | rfl | rfl | rfl
    · cases hq; exact ⟨p0, q0⟩
    · cases hq; exact ⟨p1, q1⟩
    · cases hq; exact ⟨p2, q2⟩
    · cases hq; exact p3
    · cases hq; exact p4
    · cases hq; exact p5
    · cases hq; exact p6
    · cases hq; exact p7
  · have h1 : some w ∈ im_nw.map some := List.mem_map.mpr ⟨w, hw, rfl⟩
    rw [se_nw] at h1
    obtain ⟨i, -, hi⟩ := List.mem_map.mp h1
    have h2 := hm hi
    rcases im_nw_form w hw with ⟨a, i, x, hh, rfl⟩ | ⟨a, i, b, n, d, hh, rfl⟩
    · exact va_Nw.of rfl h2
    · exact va_Nw.of rfl h2
  · have hk : k < 5 := (List.getElem?_eq_some_iff.mp hn).1
    have hn2 : im_sn.getD k "" = n := by rw [List.getD_eq_getElem?_getD, hn]; rfl
    have h1 := (hst k hk).1
    have h2 := se_ls k hk
    rw [hn2] at h1 h2
    rw [ad0 k hk]
    exact va_Zref (hm h2) (hm se_ini) h1 hA
  · by_cases hk : k < 5
    · have hl2 : im_tb[k]? = some l := by
        have : (im_tb ++ [(List.range L).map xs])[k]? = some l := hl
        rwa [List.getElem?_append_left (by exact hk)] at this
      have hl3 : im_tb.getD k [] = l := by rw [List.getD_eq_getElem?_getD, hl2]; rfl
      have h1 := (hst k hk).2
      rw [hl3] at h1
      have hlen : l.length = 6 := by
        rw [← hl3]
        exact (show ∀ k, k < 5 → (im_tb.getD k []).length = 6 by decide) k hk
      rw [ad0 k hk, hlen]
      exact h1
    · have hk5 : k = 5 := by
        have : k < (im_tb ++ [(List.range L).map xs]).length := (List.getElem?_eq_some_iff.mp hl).1
        have h6 : (im_tb ++ [(List.range L).map xs]).length = 6 := rfl
        omega
      subst hk5
      have hl2 : (List.range L).map xs = l := Option.some.inj hl
      obtain ⟨scr, h1, h2, h3, h4, h5⟩ := hX
      rw [ad5, ← hl2, List.length_map, List.length_range]
      refine ⟨scr, h1, h2, h3, Nat.le_of_eq h4.symm, by rw [h4], fun j hj => ?_, hA b hbl⟩
      rw [h5 j hj]
      show some (Value.int (xs j)) = some (Value.int (((List.range L).map xs).getD j 0))
      rw [List.getD_eq_getElem?_getD, List.getElem?_map, List.getElem?_range hj]
      rfl
  · have hk : k < 4 := (List.getElem?_eq_some_iff.mp hx).1
    obtain ⟨h1, h2⟩ := se_sr k hk x hx
    have h3 := hvE k hk
    rw [h2] at h3
    rw [ad6 k hk]
    exact vk_R.of (hm h1) h3
  · dsimp only
    rw [ad6 i hi, ad10 i hi]
    exact hvS.1 i hi
  · dsimp only at h
    rw [ad6 i hi, ad6 j hj] at h
    exact hvS.2 i j hi hj h
end
section
/-! RUNS OF THE INTERPRETER, without fuel -/
def Ev (K : im_K) (d : Nat) (M : im_M) (c : im_C) (r : Option Value × im_H) : Prop := ∃ f0, ∀ f n, f0 ≤ f → f0 ≤ n → im_run K M (im_call im_K0 im_ms d f) n c = some r
def Ca (d j : Nat) (as : List Value) (h : im_H) (r : Option Value × im_H) : Prop := ∃ f0, ∀ f, f0 ≤ f → im_call im_K0 im_ms d f j as h = some r
theorem ev_step {K : im_K} {d : Nat} {M : im_M} {c c2 : im_C} {r : Option Value × im_H} (h : im_step K M c = some (.inl c2)) (k : Ev K d M c2 r) : Ev K d M c r := by
  obtain ⟨f0, h0⟩ := k
  refine ⟨f0 + 1, fun f n hf hn => ?_⟩
  obtain ⟨n, rfl⟩ : ∃ m, n = m + 1 := ⟨n - 1, by omega⟩
  simp only [im_run, h]
  exact h0 f n (by omega) (by omega)
theorem ev_ret {K : im_K} {d : Nat} {M : im_M} {c : im_C} {v : Option Value} (h : im_step K M c = some (.inr (.inr v))) : Ev K d M c (v, c.2.2.2) := by
  refine ⟨1, fun f n hf hn => ?_⟩
  obtain ⟨n, rfl⟩ : ∃ m, n = m + 1 := ⟨n - 1, by omega⟩
  simp only [im_run, h]
theorem ev_call {K : im_K} {d : Nat} {M : im_M} {c : im_C} {q : Nat × List Value × List Value} {v : Option Value} {h2 : im_H} {r : Option Value × im_H} (h : im_step K M c = some (.inr (.inl q))) (hc : Ca d q.1 q.2.1 c.2.2.2 (v, h2)) (k : Ev K d M (c.1 + 3, c.2.1, v.toList ++ q.2.2, h2) r) : Ev K d M c r := by
  obtain ⟨f0, h0⟩ := k
  obtain ⟨f1, h1⟩ := hc
  refine ⟨f0 + f1 + 1, fun f n hf hn => ?_⟩
  obtain ⟨n, rfl⟩ : ∃ m, n = m + 1 := ⟨n - 1, by omega⟩
  simp only [im_run, h, h1 f (by omega)]
  exact h0 f n (by omega) (by omega)
theorem ca_of {d j : Nat} {M : im_M} {as : List Value} {h : im_H} {r : Option Value × im_H} (hj : im_ms[j]? = some M) (hl : (lg_sl as).length ≤ M.2.2.1) (k : Ev im_K0 d M (0, lv_args 0 as, [], h) r) : Ca (d + 1) j as h r := by
  obtain ⟨f0, h0⟩ := k
  refine ⟨f0, fun f hf => ?_⟩
  simp only [im_call, hj, if_pos hl]
  exact h0 f f hf hf
theorem im_run_more {K : im_K} {M : im_M} {call call2 : Nat → List Value → im_H → Option (Option Value × im_H)} (hc : ∀ j as h r, call j as h = some r → call2 j as h = some r) : ∀ (n : Nat) (c : im_C) (r : Option Value × im_H), im_run K M call n c = some r → ∀ n2, n ≤ n2 → im_run K M call2 n2 c = some r := by
  intro n
  induction n with
  | zero => intro c r h; cases h
  | succ n ih =>
    intro c r h n2 hn
    obtain ⟨n2, rfl⟩ : ∃ m, n2 = m + 1 := ⟨n2 - 1, by omega⟩
    simp only [im_run] at h ⊢
    cases hs : im_step K M c with
    | none => rw [hs] at h; cases h
    | some o =>
      rw [hs] at h
      cases o with
      | inl c2 => exact ih c2 r h n2 (by omega)
      | inr y =>
        cases y with
        | inl q =>
          simp only at h ⊢
          cases hq : call q.1 q.2.1 c.2.2.2 with
          | none => rw [hq] at h; cases h
          | some v =>
            rw [hq] at h
            rw [hc _ _ _ _ hq]
            exact ih _ r h n2 (by omega)
        | inr v => exact h
theorem im_call_more : ∀ (d d2 f f2 : Nat), d ≤ d2 → f ≤ f2 → ∀ (j : Nat) (as : List Value) (h : im_H) (r : Option Value × im_H), im_call im_K0 im_ms d f j as h = some r → im_call im_K0 im_ms d2 f2 j as h = some r := by
  intro d
  induction d with
  | zero => intro d2 f f2 _ _ j as h r hr; cases hr
  | succ d ih =>
    intro d2 f f2 hd hf j as h r hr
    obtain ⟨d2, rfl⟩ : ∃ m, d2 = m + 1 := ⟨d2 - 1, by omega⟩
    simp only [im_call] at hr ⊢
    cases hj : im_ms[j]? with
    | none => rw [hj] at hr; cases hr
    | some M =>
      rw [hj] at hr
      obtain ⟨hl, hr⟩ := im_ite _ hr
      simp only [if_pos hl]
      exact im_run_more (fun j as h r hc => ih d2 f f2 (by omega) hf j as h r hc) f _ r hr f2 hf
theorem ca_dec {d d2 f j : Nat} {as : List Value} {h : im_H} {r : Option Value × im_H} (hd : d ≤ d2) (hr : im_call im_K0 im_ms d f j as h = some r) : Ca d2 j as h r := ⟨f, fun f2 hf => im_call_more d d2 f f2 hd hf j as h r hr⟩
theorem ca_more {d d2 j : Nat} {as : List Value} {h : im_H} {r : Option Value × im_H} (hr : Ca d j as h r) (hd : d ≤ d2) : Ca d2 j as h r := by
  obtain ⟨f0, h0⟩ := hr
  exact ⟨f0, fun f hf => im_call_more d d2 f f hd (Nat.le_refl _) j as h r (h0 f hf)⟩
/-! what a cell is, over stores -/
theorem ob_ne {h : im_H} {i r c : Nat} {fs : List Value} {x : im_E} (hr : r ≠ 16 + i) (e : im_obj h r c = some fs) : im_obj (h.set i x) r c = some fs := by
  obtain ⟨k, rfl, hk⟩ := im_obj_eq e
  unfold im_obj
  rw [if_pos (by omega), show 16 + k - 16 = k by omega, List.getElem?_set_ne (by omega), hk]
  simp
theorem ob_eq {h : im_H} {i c : Nat} {fs : List Value} (hi : i < h.length) : im_obj (h.set i (.inr (c, fs))) (16 + i) c = some fs := by
  unfold im_obj
  rw [if_pos (by omega), show 16 + i - 16 = i by omega, List.getElem?_set_self hi]
  simp
theorem ia_ne {h : im_H} {i r t : Nat} {l : List Int32} {x : im_E} (hr : r ≠ 16 + i) (e : im_ia h r t = some l) : im_ia (h.set i x) r t = some l := by
  obtain ⟨k, rfl, hk⟩ := im_ia_eq e
  unfold im_ia
  rw [if_pos (by omega), show 16 + k - 16 = k by omega, List.getElem?_set_ne (by omega), hk]
  simp
theorem ia_eq {h : im_H} {i t : Nat} {l : List Int32} (hi : i < h.length) : im_ia (h.set i (.inl (t, .inl l))) (16 + i) t = some l := by
  unfold im_ia
  rw [if_pos (by omega), show 16 + i - 16 = i by omega, List.getElem?_set_self hi]
  simp
theorem qa_ne {h : im_H} {i r : Nat} {q : Nat × List (Option Nat)} {x : im_E} (hr : r ≠ 16 + i) (e : im_qa h r = some q) : im_qa (h.set i x) r = some q := by
  obtain ⟨k, rfl, hk⟩ := im_qa_eq e
  unfold im_qa
  rw [if_pos (by omega), show 16 + k - 16 = k by omega, List.getElem?_set_ne (by omega), hk]
theorem sl_len {h : im_H} {i n : Nat} {x : im_E} (e : h.length = n) : (h.set i x).length = n := by rw [List.length_set]; exact e
/-! single steps, with what they need told -/
section STP
variable {K : im_K} {d : Nat} {M : im_M} {pc : Nat} {lv : im_L} {st : List Value} {h : im_H} {r : Option Value × im_H}
theorem st_at {q : im_I} {o : im_O} (ha : im_at M pc = some q) (hi : im_ins K M q.1 (q.2.getD 0 0) (q.2.getD 1 0) (q.2.getD 2 0) (q.2.getD 3 0) pc lv st h = some o) : im_step K M (pc, lv, st, h) = some o := by
  unfold im_step
  simp only [ha]
  exact hi
theorem st_get {idx a b x : Nat} {R : Nat} {fs : List Value} {v : Value} (ha : im_at M pc = some (.getfield idx, [a, b, 0, 0, x])) (ho : im_obj h R a = some fs) (hv : fs[b]? = some v) (k : Ev K d M (pc + 3, lv, v :: st, h) r) : Ev K d M (pc, lv, .ref R :: st, h) r := by
  refine ev_step (st_at ha ?_) k
  show ((im_1r (.ref R :: st)).bind fun q => (im_obj h q.1 a).bind fun fs => (fs[b]?).bind fun v => im_nx (pc + 3) lv (v :: q.2) h) = _
  simp only [im_1r, Option.bind_some, ho, hv]
  rfl
theorem st_put {idx a b x : Nat} {R i : Nat} {fs : List Value} {ty : FieldType} {v : Value} (ha : im_at M pc = some (.putfield idx, [a, b, 0, 0, x])) (hR : R = 16 + i) (ho : im_obj h R a = some fs) (hK : ((K.2.1[a]?).bind fun t => t[b]?) = some ty) (hf : im_fit ty v = true) (hb : b < fs.length) (k : Ev K d M (pc + 3, lv, st, h.set i (.inr (a, fs.set b v))) r) : Ev K d M (pc, lv, v :: .ref R :: st, h) r := by
  subst hR
  refine ev_step (st_at ha ?_) k
  obtain ⟨t, ht, hty⟩ := im_bd hK
  show ((im_pop (v :: .ref (16 + i) :: st)).bind fun v => (im_1r v.2).bind fun q => (im_obj h q.1 a).bind fun fs => (K.2.1[a]?).bind fun tys => (tys[b]?).bind fun ty =>
      if im_fit ty v.1 = true ∧ b < fs.length then im_nx (pc + 3) lv q.2 (h.set (q.1 - 16) (.inr (a, fs.set b v.1))) else none) = _
  simp only [im_pop, im_1r, Option.bind_some, ho, ht, hty, hf, hb, and_self, if_true]
  rw [show 16 + i - 16 = i by omega]
  rfl
theorem st_iald {R : Nat} {l : List Int32} {j x : Int32} (ha : im_at M pc = some (.iaload, [])) (hR : 16 ≤ R) (hl : im_ia h R 0 = some l) (hj : im_in j l.length = true) (hx : l.getD j.toNatClampNeg 0 = x) (k : Ev K d M (pc + 1, lv, .int x :: st, h) r) : Ev K d M (pc, lv, .int j :: .ref R :: st, h) r := by
  refine ev_step (st_at ha ?_) k
  show ((im_1i (.int j :: .ref R :: st)).bind fun q => (im_1r q.2).bind fun r => (if 16 ≤ r.1 then im_ia h r.1 0 else K.1[r.1]?).bind fun l =>
      if im_in q.1 l.length then im_nx (pc + 1) lv (.int (l.getD q.1.toNatClampNeg 0) :: r.2) h else none) = _
  simp only [im_1i, im_1r, Option.bind_some, if_pos hR, hl, hj, if_true, hx]
  rfl
theorem st_isld {R : Nat} {l : List Int32} {j x : Int32} (ha : im_at M pc = some (.iaload, [])) (hR : ¬ 16 ≤ R) (hl : K.1[R]? = some l) (hj : im_in j l.length = true) (hx : l.getD j.toNatClampNeg 0 = x) (k : Ev K d M (pc + 1, lv, .int x :: st, h) r) : Ev K d M (pc, lv, .int j :: .ref R :: st, h) r := by
  refine ev_step (st_at ha ?_) k
  show ((im_1i (.int j :: .ref R :: st)).bind fun q => (im_1r q.2).bind fun r => (if 16 ≤ r.1 then im_ia h r.1 0 else K.1[r.1]?).bind fun l =>
      if im_in q.1 l.length then im_nx (pc + 1) lv (.int (l.getD q.1.toNatClampNeg 0) :: r.2) h else none) = _
  simp only [im_1i, im_1r, Option.bind_some, if_neg hR, hl, hj, if_true, hx]
  rfl
theorem st_bald {R : Nat} {l : List Int32} {j x : Int32} (ha : im_at M pc = some (.baload, [])) (hl : im_ia h R 1 = some l) (hj : im_in j l.length = true) (hx : l.getD j.toNatClampNeg 0 = x) (k : Ev K d M (pc + 1, lv, .int x :: st, h) r) : Ev K d M (pc, lv, .int j :: .ref R :: st, h) r := by
  refine ev_step (st_at ha ?_) k
  show ((im_1i (.int j :: .ref R :: st)).bind fun q => (im_1r q.2).bind fun r => (im_ia h r.1 1).bind fun l =>
      if im_in q.1 l.length then im_nx (pc + 1) lv (.int (l.getD q.1.toNatClampNeg 0) :: r.2) h else none) = _
  simp only [im_1i, im_1r, Option.bind_some, hl, hj, if_true, hx]
  rfl
theorem st_aald {R t : Nat} {l : List (Option Nat)} {j : Int32} {v : Value} (ha : im_at M pc = some (.aaload, [])) (hl : im_qa h R = some (t, l)) (hj : im_in j l.length = true ∧ 3 ≤ t ∧ t < 8) (hv : im_rf (l.getD j.toNatClampNeg none) = v) (k : Ev K d M (pc + 1, lv, v :: st, h) r) : Ev K d M (pc, lv, .int j :: .ref R :: st, h) r := by
  refine ev_step (st_at ha ?_) k
  show ((im_1i (.int j :: .ref R :: st)).bind fun q => (im_1r q.2).bind fun r => (im_qa h r.1).bind fun l =>
      if im_in q.1 l.2.length ∧ 3 ≤ l.1 ∧ l.1 < 8 then im_nx (pc + 1) lv (im_rf (l.2.getD q.1.toNatClampNeg none) :: r.2) h else none) = _
  simp only [im_1i, im_1r, Option.bind_some, hl, hj, and_self, if_true, hv]
  rfl
theorem st_iast {R i : Nat} {l : List Int32} {j x : Int32} (ha : im_at M pc = some (.iastore, [])) (hR : R = 16 + i) (hl : im_ia h R 0 = some l) (hj : im_in j l.length = true) (k : Ev K d M (pc + 1, lv, st, h.set i (.inl (0, .inl (l.set j.toNatClampNeg x)))) r) : Ev K d M (pc, lv, .int x :: .int j :: .ref R :: st, h) r := by
  subst hR
  refine ev_step (st_at ha ?_) k
  show ((im_1i (.int x :: .int j :: .ref (16 + i) :: st)).bind fun x => (im_1i x.2).bind fun q => (im_1r q.2).bind fun r => (im_ia h r.1 0).bind fun l =>
      if im_in q.1 l.length then im_nx (pc + 1) lv r.2 (h.set (r.1 - 16) (.inl (0, .inl (l.set q.1.toNatClampNeg x.1)))) else none) = _
  simp only [im_1i, im_1r, Option.bind_some, hl, hj, if_true]
  rw [show 16 + i - 16 = i by omega]
  rfl
theorem st_bast {R i : Nat} {l : List Int32} {j x : Int32} (ha : im_at M pc = some (.bastore, [])) (hR : R = 16 + i) (hl : im_ia h R 1 = some l) (hj : im_in j l.length = true) (hx : x = 0 ∨ x = 1) (k : Ev K d M (pc + 1, lv, st, h.set i (.inl (1, .inl (l.set j.toNatClampNeg x)))) r) : Ev K d M (pc, lv, .int x :: .int j :: .ref R :: st, h) r := by
  subst hR
  refine ev_step (st_at ha ?_) k
  show ((im_1i (.int x :: .int j :: .ref (16 + i) :: st)).bind fun x => (im_1i x.2).bind fun q => (im_1r q.2).bind fun r => (im_ia h r.1 1).bind fun l =>
      if im_in q.1 l.length ∧ (x.1 = 0 ∨ x.1 = 1) then im_nx (pc + 1) lv r.2 (h.set (r.1 - 16) (.inl (1, .inl (l.set q.1.toNatClampNeg x.1)))) else none) = _
  simp only [im_1i, im_1r, Option.bind_some, hl, hj, hx, and_self, if_true]
  rw [show 16 + i - 16 = i by omega]
  rfl
/-- a branch on two ints, decided -/
theorem st_icmp {cnd : ClassFile.Cond} {off : Int} {a : Nat} {x y : Int32} {b : Bool} (ha : im_at M pc = some (.if_icmp cnd off, [a])) (hb : im_cnd cnd x y = b) (k : Ev K d M (bif b then a else pc + 3, lv, st, h) r) : Ev K d M (pc, lv, .int y :: .int x :: st, h) r := by
  subst hb
  exact ev_step (st_at ha rfl) k
theorem st_ifc {cnd : ClassFile.Cond} {off : Int} {a : Nat} {x : Int32} {b : Bool} (ha : im_at M pc = some (.ifCond cnd off, [a])) (hb : im_cnd cnd x 0 = b) (k : Ev K d M (bif b then a else pc + 3, lv, st, h) r) : Ev K d M (pc, lv, .int x :: st, h) r := by
  subst hb
  exact ev_step (st_at ha rfl) k
theorem st_callS {idx j w z x : Nat} {q : List Value × List Value} {v : Option Value} {h2 : im_H} (ha : im_at M pc = some (.invokestatic idx, [j, 0, w, z, x])) (ht : im_take w st = some q) (hc : im_cat q.2 = true) (hC : Ca d j q.1 h (v, h2)) (k : Ev K d M (pc + 3, lv, v.toList ++ q.2, h2) r) : Ev K d M (pc, lv, st, h) r := by
  refine ev_call (q := (j, q.1, q.2)) (st_at ha ?_) hC k
  show ((im_take w st).bind fun q => if im_cat q.2 then (some (.inr (.inl (j, q.1, q.2))) : Option im_O) else none) = _
  simp only [ht, Option.bind_some, hc, if_true]
theorem st_callV {idx j w z x R : Nat} {q : List Value × List Value} {rest fs : List Value} {v : Option Value} {h2 : im_H} (ha : im_at M pc = some (.invokevirtual idx, [j, 0, w, z, x])) (ht : im_take w st = some q) (hq : q.2 = .ref R :: rest) (ho : im_obj h R z = some fs) (hc : im_cat rest = true) (hC : Ca d j (.ref R :: q.1) h (v, h2)) (k : Ev K d M (pc + 3, lv, v.toList ++ rest, h2) r) : Ev K d M (pc, lv, st, h) r := by
  refine ev_call (q := (j, .ref R :: q.1, rest)) (st_at ha ?_) hC k
  show ((im_take w st).bind fun q => (im_1r q.2).bind fun r => (im_obj h r.1 z).bind fun _ => if im_cat r.2 then (some (.inr (.inl (j, .ref r.1 :: q.1, r.2))) : Option im_O) else none) = _
  simp only [ht, Option.bind_some, hq, im_1r, ho, hc, if_true]
theorem st_callI {idx j w z x R : Nat} {q : List Value × List Value} {rest : List Value} {v : Option Value} {h2 : im_H} (ha : im_at M pc = some (.invokespecial idx, [j, 0, w, z, x])) (ht : im_take w st = some q) (hq : q.2 = .ref R :: rest) (hc : im_cat rest = true) (hC : Ca d j (.ref R :: q.1) h (v, h2)) (k : Ev K d M (pc + 3, lv, v.toList ++ rest, h2) r) : Ev K d M (pc, lv, st, h) r := by
  refine ev_call (q := (j, .ref R :: q.1, rest)) (st_at ha ?_) hC k
  show ((im_take w st).bind fun q => (im_1r q.2).bind fun r => if im_cat r.2 then (some (.inr (.inl (j, .ref r.1 :: q.1, r.2))) : Option im_O) else none) = _
  simp only [ht, Option.bind_some, hq, im_1r, hc, if_true]
end STP
/-! plain steps -/
section STQ
variable {K : im_K} {d : Nat} {M : im_M} {pc p2 : Nat} {lv lv2 : im_L} {st : List Value} {h : im_H} {r : Option Value × im_H}
theorem sp_aload_n {k0 : Fin 4} {x : Nat} (ha : im_at M pc = some (.aload_n k0, [])) (hp : pc + 1 = p2) (hl : im_lk lv k0 = some (.ref x)) (k : Ev K d M (p2, lv, .ref x :: st, h) r) : Ev K d M (pc, lv, st, h) r := by
  subst hp
  refine ev_step (st_at ha ?_) k
  show ((im_lk lv k0).bind fun v => if im_isR v then im_nx (pc + 1) lv (v :: st) h else none) = _
  rw [hl]
  rfl
theorem sp_aload {k0 : Nat} {x : Nat} (ha : im_at M pc = some (.aload k0, [])) (hp : pc + 2 = p2) (hl : im_lk lv k0 = some (.ref x)) (k : Ev K d M (p2, lv, .ref x :: st, h) r) : Ev K d M (pc, lv, st, h) r := by
  subst hp
  refine ev_step (st_at ha ?_) k
  show ((im_lk lv k0).bind fun v => if im_isR v then im_nx (pc + 2) lv (v :: st) h else none) = _
  rw [hl]
  rfl
theorem sp_iload_n {k0 : Fin 4} {x : Int32} (ha : im_at M pc = some (.iload_n k0, [])) (hp : pc + 1 = p2) (hl : im_lk lv k0 = some (.int x)) (k : Ev K d M (p2, lv, .int x :: st, h) r) : Ev K d M (pc, lv, st, h) r := by
  subst hp
  refine ev_step (st_at ha ?_) k
  show ((im_lk lv k0).bind fun v => if im_isI v then im_nx (pc + 1) lv (v :: st) h else none) = _
  rw [hl]
  rfl
theorem sp_iload {k0 : Nat} {x : Int32} (ha : im_at M pc = some (.iload k0, [])) (hp : pc + 2 = p2) (hl : im_lk lv k0 = some (.int x)) (k : Ev K d M (p2, lv, .int x :: st, h) r) : Ev K d M (pc, lv, st, h) r := by
  subst hp
  refine ev_step (st_at ha ?_) k
  show ((im_lk lv k0).bind fun v => if im_isI v then im_nx (pc + 2) lv (v :: st) h else none) = _
  rw [hl]
  rfl
theorem sp_lload_n {k0 : Fin 4} {x : Int64} (ha : im_at M pc = some (.lload_n k0, [])) (hp : pc + 1 = p2) (hl : im_lk lv k0 = some (.long x)) (k : Ev K d M (p2, lv, .long x :: st, h) r) : Ev K d M (pc, lv, st, h) r := by
  subst hp
  refine ev_step (st_at ha ?_) k
  show ((im_lk lv k0).bind fun v => if im_isL v then im_nx (pc + 1) lv (v :: st) h else none) = _
  rw [hl]
  rfl
theorem sp_iconst {n : Int} {x : Int32} (ha : im_at M pc = some (.iconst n, [])) (hp : pc + 1 = p2) (hv : Int32.ofInt n = x) (k : Ev K d M (p2, lv, .int x :: st, h) r) : Ev K d M (pc, lv, st, h) r := by
  subst hp; subst hv
  exact ev_step (st_at ha rfl) k
theorem sp_bipush {n : Int} {x : Int32} (ha : im_at M pc = some (.bipush n, [])) (hp : pc + 2 = p2) (hv : (Int8.ofInt n).toInt32 = x) (k : Ev K d M (p2, lv, .int x :: st, h) r) : Ev K d M (pc, lv, st, h) r := by
  subst hp; subst hv
  exact ev_step (st_at ha rfl) k
theorem sp_sipush {n : Int} {x : Int32} (ha : im_at M pc = some (.sipush n, [])) (hp : pc + 3 = p2) (hv : (Int16.ofInt n).toInt32 = x) (k : Ev K d M (p2, lv, .int x :: st, h) r) : Ev K d M (pc, lv, st, h) r := by
  subst hp; subst hv
  exact ev_step (st_at ha rfl) k
theorem sp_null  (ha : im_at M pc = some (.aconst_null, [])) (hp : pc + 1 = p2) (k : Ev K d M (p2, lv, .null :: st, h) r) : Ev K d M (pc, lv, st, h) r := by
  subst hp
  exact ev_step (st_at ha rfl) k
theorem sp_istore_n {k0 : Fin 4} {x : Int32} (ha : im_at M pc = some (.istore_n k0, [])) (hp : pc + 1 = p2) (hk : (k0 : Nat) < M.2.2.1) (hl : im_pt lv k0 (.int x) = lv2) (k : Ev K d M (p2, lv2, st, h) r) : Ev K d M (pc, lv, .int x :: st, h) r := by
  subst hp; subst hl
  refine ev_step (st_at ha ?_) k
  show ((im_1i (.int x :: st)).bind fun q => if k0 < M.2.2.1 then im_nx (pc + 1) (im_pt lv k0 (.int q.1)) q.2 h else none) = _
  simp only [im_1i, Option.bind_some, if_pos hk]
  rfl
theorem sp_istore {k0 : Nat} {x : Int32} (ha : im_at M pc = some (.istore k0, [])) (hp : pc + 2 = p2) (hk : (k0 : Nat) < M.2.2.1) (hl : im_pt lv k0 (.int x) = lv2) (k : Ev K d M (p2, lv2, st, h) r) : Ev K d M (pc, lv, .int x :: st, h) r := by
  subst hp; subst hl
  refine ev_step (st_at ha ?_) k
  show ((im_1i (.int x :: st)).bind fun q => if k0 < M.2.2.1 then im_nx (pc + 2) (im_pt lv k0 (.int q.1)) q.2 h else none) = _
  simp only [im_1i, Option.bind_some, if_pos hk]
  rfl
theorem sp_astore_n {k0 : Fin 4} {x : Nat} (ha : im_at M pc = some (.astore_n k0, [])) (hp : pc + 1 = p2) (hk : (k0 : Nat) < M.2.2.1) (hl : im_pt lv k0 (.ref x) = lv2) (k : Ev K d M (p2, lv2, st, h) r) : Ev K d M (pc, lv, .ref x :: st, h) r := by
  subst hp; subst hl
  refine ev_step (st_at ha ?_) k
  show ((im_1r (.ref x :: st)).bind fun q => if k0 < M.2.2.1 then im_nx (pc + 1) (im_pt lv k0 (.ref q.1)) q.2 h else none) = _
  simp only [im_1r, Option.bind_some, if_pos hk]
  rfl
theorem sp_astore {k0 : Nat} {x : Nat} (ha : im_at M pc = some (.astore k0, [])) (hp : pc + 2 = p2) (hk : (k0 : Nat) < M.2.2.1) (hl : im_pt lv k0 (.ref x) = lv2) (k : Ev K d M (p2, lv2, st, h) r) : Ev K d M (pc, lv, .ref x :: st, h) r := by
  subst hp; subst hl
  refine ev_step (st_at ha ?_) k
  show ((im_1r (.ref x :: st)).bind fun q => if k0 < M.2.2.1 then im_nx (pc + 2) (im_pt lv k0 (.ref q.1)) q.2 h else none) = _
  simp only [im_1r, Option.bind_some, if_pos hk]
  rfl
theorem sp_iinc {k0 : Nat} {n : Int} {x y : Int32} (ha : im_at M pc = some (.iinc k0 n, [])) (hp : pc + 3 = p2) (hk : k0 < M.2.2.1) (hx : im_lk lv k0 = some (.int x)) (hy : x + Int32.ofInt n = y) (hl : im_pt lv k0 (.int y) = lv2) (k : Ev K d M (p2, lv2, st, h) r) : Ev K d M (pc, lv, st, h) r := by
  subst hp; subst hy; subst hl
  refine ev_step (st_at ha ?_) k
  show ((im_lk lv k0).bind fun v => (im_1v v).bind fun x => if k0 < M.2.2.1 then im_nx (pc + 3) (im_pt lv k0 (.int (x + Int32.ofInt n))) st h else none) = _
  simp only [hx, im_1v, Option.bind_some, if_pos hk]
  rfl
theorem sp_dup {v : Value} (ha : im_at M pc = some (.dup, [])) (hp : pc + 1 = p2) (hv : v.category = 1) (k : Ev K d M (p2, lv, v :: v :: st, h) r) : Ev K d M (pc, lv, v :: st, h) r := by
  subst hp
  refine ev_step (st_at ha ?_) k
  show ((im_pop (v :: st)).bind fun q => if q.1.category = 1 then im_nx (pc + 1) lv (q.1 :: q.1 :: q.2) h else none) = _
  simp only [im_pop, Option.bind_some, if_pos hv]
  rfl
theorem sp_dup2 {v w : Value} (ha : im_at M pc = some (.dup2, [])) (hp : pc + 1 = p2) (hv : v.category = 1 ∧ w.category = 1) (k : Ev K d M (p2, lv, v :: w :: v :: w :: st, h) r) : Ev K d M (pc, lv, v :: w :: st, h) r := by
  subst hp
  refine ev_step (st_at ha ?_) k
  show ((im_pop (v :: w :: st)).bind fun q => (im_pop q.2).bind fun u => if q.1.category = 1 ∧ u.1.category = 1 then im_nx (pc + 1) lv (q.1 :: u.1 :: q.1 :: u.1 :: u.2) h else none) = _
  simp only [im_pop, Option.bind_some, if_pos hv]
  rfl
theorem sp_pop {v : Value} (ha : im_at M pc = some (.pop, [])) (hp : pc + 1 = p2) (hv : v.category = 1) (k : Ev K d M (p2, lv, st, h) r) : Ev K d M (pc, lv, v :: st, h) r := by
  subst hp
  refine ev_step (st_at ha ?_) k
  show ((im_pop (v :: st)).bind fun q => if q.1.category = 1 then im_nx (pc + 1) lv q.2 h else none) = _
  simp only [im_pop, Option.bind_some, if_pos hv]
  rfl
theorem sp_iadd {x y z : Int32} (ha : im_at M pc = some (.iadd, [])) (hp : pc + 1 = p2) (hz : x + y = z) (k : Ev K d M (p2, lv, .int z :: st, h) r) : Ev K d M (pc, lv, .int y :: .int x :: st, h) r := by
  subst hp; subst hz
  exact ev_step (st_at ha rfl) k
theorem sp_isub {x y z : Int32} (ha : im_at M pc = some (.isub, [])) (hp : pc + 1 = p2) (hz : x - y = z) (k : Ev K d M (p2, lv, .int z :: st, h) r) : Ev K d M (pc, lv, .int y :: .int x :: st, h) r := by
  subst hp; subst hz
  exact ev_step (st_at ha rfl) k
theorem sp_imul {x y z : Int32} (ha : im_at M pc = some (.imul, [])) (hp : pc + 1 = p2) (hz : x * y = z) (k : Ev K d M (p2, lv, .int z :: st, h) r) : Ev K d M (pc, lv, .int y :: .int x :: st, h) r := by
  subst hp; subst hz
  exact ev_step (st_at ha rfl) k
theorem sp_iand {x y z : Int32} (ha : im_at M pc = some (.iand, [])) (hp : pc + 1 = p2) (hz : x &&& y = z) (k : Ev K d M (p2, lv, .int z :: st, h) r) : Ev K d M (pc, lv, .int y :: .int x :: st, h) r := by
  subst hp; subst hz
  exact ev_step (st_at ha rfl) k
theorem sp_ior {x y z : Int32} (ha : im_at M pc = some (.ior, [])) (hp : pc + 1 = p2) (hz : x ||| y = z) (k : Ev K d M (p2, lv, .int z :: st, h) r) : Ev K d M (pc, lv, .int y :: .int x :: st, h) r := by
  subst hp; subst hz
  exact ev_step (st_at ha rfl) k
theorem sp_ishl {x y z : Int32} (ha : im_at M pc = some (.ishl, [])) (hp : pc + 1 = p2) (hz : x <<< (y &&& 31) = z) (k : Ev K d M (p2, lv, .int z :: st, h) r) : Ev K d M (pc, lv, .int y :: .int x :: st, h) r := by
  subst hp; subst hz
  exact ev_step (st_at ha rfl) k
theorem sp_ishr {x y z : Int32} (ha : im_at M pc = some (.ishr, [])) (hp : pc + 1 = p2) (hz : x >>> (y &&& 31) = z) (k : Ev K d M (p2, lv, .int z :: st, h) r) : Ev K d M (pc, lv, .int y :: .int x :: st, h) r := by
  subst hp; subst hz
  exact ev_step (st_at ha rfl) k
theorem sp_idiv {x y z : Int32} (ha : im_at M pc = some (.idiv, [])) (hp : pc + 1 = p2) (hy : ¬ y = 0) (hz : x / y = z) (k : Ev K d M (p2, lv, .int z :: st, h) r) : Ev K d M (pc, lv, .int y :: .int x :: st, h) r := by
  subst hp; subst hz
  refine ev_step (st_at ha ?_) k
  show ((im_1i (.int y :: .int x :: st)).bind fun q => (im_1i q.2).bind fun w => (if q.1 = 0 then none else some (w.1 / q.1)).bind fun z => im_nx (pc + 1) lv (.int z :: w.2) h) = _
  simp only [im_1i, Option.bind_some, if_neg hy]
  rfl
theorem sp_irem {x y z : Int32} (ha : im_at M pc = some (.irem, [])) (hp : pc + 1 = p2) (hy : ¬ y = 0) (hz : x - x / y * y = z) (k : Ev K d M (p2, lv, .int z :: st, h) r) : Ev K d M (pc, lv, .int y :: .int x :: st, h) r := by
  subst hp; subst hz
  refine ev_step (st_at ha ?_) k
  show ((im_1i (.int y :: .int x :: st)).bind fun q => (im_1i q.2).bind fun w => (if q.1 = 0 then none else some (w.1 - w.1 / q.1 * q.1)).bind fun z => im_nx (pc + 1) lv (.int z :: w.2) h) = _
  simp only [im_1i, Option.bind_some, if_neg hy]
  rfl
theorem sp_goto {off : Int} {a : Nat} (ha : im_at M pc = some (.goto off, [a]))  (k : Ev K d M (a, lv, st, h) r) : Ev K d M (pc, lv, st, h) r := by
  exact ev_step (st_at ha rfl) k
theorem sp_iret {x : Int32} (ha : im_at M pc = some (.ireturn, [])) (hr : M.2.2.2.1 = some .int) : Ev K d M (pc, lv, [.int x], h) (some (.int x), h) := by
  refine ev_ret (c := (pc, lv, [.int x], h)) (st_at ha ?_)
  show ((im_1i [.int x]).bind fun q => match M.2.2.2.1, q.2 with
    | some .int, [] => (some (.inr (.inr (some (.int q.1)))) : Option im_O)
    | some .boolean, [] => if q.1 = 0 ∨ q.1 = 1 then (some (.inr (.inr (some (.int q.1)))) : Option im_O) else none
    | _, _ => none) = _
  rw [hr]
  rfl
theorem sp_zret {x : Int32} (ha : im_at M pc = some (.ireturn, [])) (hr : M.2.2.2.1 = some .boolean) (hx : x = 0 ∨ x = 1) : Ev K d M (pc, lv, [.int x], h) (some (.int x), h) := by
  refine ev_ret (c := (pc, lv, [.int x], h)) (st_at ha ?_)
  show ((im_1i [.int x]).bind fun q => match M.2.2.2.1, q.2 with
    | some .int, [] => (some (.inr (.inr (some (.int q.1)))) : Option im_O)
    | some .boolean, [] => if q.1 = 0 ∨ q.1 = 1 then (some (.inr (.inr (some (.int q.1)))) : Option im_O) else none
    | _, _ => none) = _
  rw [hr]
  simp only [im_1i, Option.bind_some, if_pos hx]
theorem sp_vret (ha : im_at M pc = some (.return_, [])) (hr : M.2.2.2.1 = none) : Ev K d M (pc, lv, [], h) (none, h) := by
  refine ev_ret (c := (pc, lv, [], h)) (st_at ha ?_)
  show (match M.2.2.2.1, ([] : List Value) with
      | none, [] => (some (.inr (.inr none)) : Option im_O)
      | _, _ => none) = _
  rw [hr]
theorem sp_lret {x : Int64} (ha : im_at M pc = some (.lreturn, [])) (hr : M.2.2.2.1 = some .long) : Ev K d M (pc, lv, [.long x], h) (some (.long x), h) := by
  refine ev_ret (c := (pc, lv, [.long x], h)) (st_at ha ?_)
  show ((im_1l [.long x]).bind fun q => match M.2.2.2.1, q.2 with
      | some .long, [] => (some (.inr (.inr (some (.long q.1)))) : Option im_O)
      | _, _ => none) = _
  rw [hr]
  rfl
end STQ
end
section
/-! small facts for scripts: branches, places, the tests of bounds -/
theorem ob_eq2 {h : im_H} {i c n : Nat} {fs : List Value} (hn : h.length = n) (hi : i < n) : im_obj (h.set i (.inr (c, fs))) (16 + i) c = some fs := ob_eq (by omega)
theorem ia_eq2 {h : im_H} {i t n : Nat} {l : List Int32} (hn : h.length = n) (hi : i < n) : im_ia (h.set i (.inl (t, .inl l))) (16 + i) t = some l := ia_eq (by omega)
theorem i32_ext {x y : Int32} (h : x.toInt = y.toInt) : x = y := Int32.toInt_inj.mp h
theorem cn_eq_T {x y : Int32} {a b : Int} (hx : x.toInt = a) (hy : y.toInt = b) (h : a = b) : im_cnd .eq x y = true := decide_eq_true (i32_ext (by omega))
theorem cn_eq_F {x y : Int32} {a b : Int} (hx : x.toInt = a) (hy : y.toInt = b) (h : ¬ (a = b)) : im_cnd .eq x y = false := decide_eq_false (fun e => h (by rw [← hx, ← hy, e]))
theorem cn_ne_T {x y : Int32} {a b : Int} (hx : x.toInt = a) (hy : y.toInt = b) (h : ¬ a = b) : im_cnd .ne x y = true := decide_eq_true (fun e => h (by rw [← hx, ← hy, e]))
theorem cn_ne_F {x y : Int32} {a b : Int} (hx : x.toInt = a) (hy : y.toInt = b) (h : ¬ (¬ a = b)) : im_cnd .ne x y = false := decide_eq_false (fun e => h (fun e2 => e (i32_ext (by omega))))
theorem cn_lt_T {x y : Int32} {a b : Int} (hx : x.toInt = a) (hy : y.toInt = b) (h : a < b) : im_cnd .lt x y = true := decide_eq_true (Int32.lt_iff_toInt_lt.mpr (by omega))
theorem cn_lt_F {x y : Int32} {a b : Int} (hx : x.toInt = a) (hy : y.toInt = b) (h : ¬ (a < b)) : im_cnd .lt x y = false := decide_eq_false (fun e => h (by have := Int32.lt_iff_toInt_lt.mp e; omega))
theorem cn_ge_T {x y : Int32} {a b : Int} (hx : x.toInt = a) (hy : y.toInt = b) (h : b ≤ a) : im_cnd .ge x y = true := decide_eq_true (Int32.le_iff_toInt_le.mpr (by omega))
theorem cn_ge_F {x y : Int32} {a b : Int} (hx : x.toInt = a) (hy : y.toInt = b) (h : ¬ (b ≤ a)) : im_cnd .ge x y = false := decide_eq_false (fun e => h (by have := Int32.le_iff_toInt_le.mp e; omega))
theorem cn_gt_T {x y : Int32} {a b : Int} (hx : x.toInt = a) (hy : y.toInt = b) (h : b < a) : im_cnd .gt x y = true := decide_eq_true (Int32.lt_iff_toInt_lt.mpr (by omega))
theorem cn_gt_F {x y : Int32} {a b : Int} (hx : x.toInt = a) (hy : y.toInt = b) (h : ¬ (b < a)) : im_cnd .gt x y = false := decide_eq_false (fun e => h (by have := Int32.lt_iff_toInt_lt.mp e; omega))
theorem cn_le_T {x y : Int32} {a b : Int} (hx : x.toInt = a) (hy : y.toInt = b) (h : a ≤ b) : im_cnd .le x y = true := decide_eq_true (Int32.le_iff_toInt_le.mpr (by omega))
theorem cn_le_F {x y : Int32} {a b : Int} (hx : x.toInt = a) (hy : y.toInt = b) (h : ¬ (a ≤ b)) : im_cnd .le x y = false := decide_eq_false (fun e => h (by have := Int32.le_iff_toInt_le.mp e; omega))
theorem clamp_of_toInt {x : Int32} {k : Nat} (h : x.toInt = k) : x.toNatClampNeg = k := by
  show x.toInt.toNat = k
  omega
theorem in_at {α : Type} {l : List α} {n : Nat} {x : Int32} (hl : l.length = n) (h0 : 0 ≤ x.toInt) (h1 : x.toInt < n) : im_in x l.length = true := by
  rw [hl]
  have h2 : ¬ x < 0 := fun e => by have := Int32.lt_iff_toInt_lt.mp e; have e0 : (0 : Int32).toInt = 0 := rfl; omega
  have h3 : x.toNatClampNeg = x.toInt.toNat := rfl
  simp only [im_in, Bool.not_eq_true', Bool.or_eq_false_iff, decide_eq_false_iff_not]
  exact ⟨h2, by omega⟩
theorem rd_at {l : List Int32} {v x : Int32} (lo hi : Nat) (H : ∀ k, k < hi + 1 → lo ≤ k → l.getD k 0 = v) (h0 : (lo : Int) ≤ x.toInt) (h1 : x.toInt ≤ hi) : l.getD x.toNatClampNeg 0 = v := by
  have h3 : x.toNatClampNeg = x.toInt.toNat := rfl
  rw [h3]
  exact H _ (by omega) (by omega)
theorem qin_pt {l : List (Option Nat)} {t : Nat} {x : Int32} (k : Nat) (h : x.toInt = k) (hk : k < l.length) (ht : 3 ≤ t ∧ t < 8) : im_in x l.length = true ∧ 3 ≤ t ∧ t < 8 := ⟨in_at rfl (by omega) (by omega), ht⟩
theorem qrd_pt {l : List (Option Nat)} {v : Value} {x : Int32} (k : Nat) (h : x.toInt = k) (hv : im_rf (l.getD k none) = v) : im_rf (l.getD x.toNatClampNeg none) = v := by
  rw [clamp_of_toInt h]; exact hv
section PRM
variable {K : im_K} {d : Nat} {M : im_M} {pc p2 : Nat} {lv lv2 : im_L} {st : List Value} {h : im_H} {r : Option Value × im_H}
theorem sp_tsIn {dflt lo hi off : Int} {offs : Array Int} {a b w : Nat} {x : Int32} (k : Int) (ha : im_at M pc = some (.tableswitch dflt lo hi offs, [a, b, w])) (hx : x.toInt = k) (h1 : ¬ k < lo) (h2 : ¬ hi < k) (ho : offs[(k - lo).toNat]? = some off) (hp : (pc : Int) + off = (p2 : Int)) (kk : Ev K d M (p2, lv, st, h) r) : Ev K d M (pc, lv, .int x :: st, h) r := by
  refine ev_step (st_at ha ?_) kk
  show ((im_1i (.int x :: st)).bind fun q =>
      if q.1.toInt < lo ∨ hi < q.1.toInt then (if (pc : Int) + dflt = (a : Int) then im_nx a lv q.2 h else none)
      else (offs[(q.1.toInt - lo).toNat]?).bind fun off => if (pc : Int) + off = ((((pc : Int) + off).toNat : Nat) : Int) then im_nx ((pc : Int) + off).toNat lv q.2 h else none) = _
  simp only [im_1i, Option.bind_some, hx]
  rw [if_neg (by omega), ho]
  simp only [Option.bind_some, hp, Int.toNat_natCast, if_true]
  rfl
theorem sp_tsOut {dflt lo hi : Int} {offs : Array Int} {b w : Nat} {x : Int32} (ha : im_at M pc = some (.tableswitch dflt lo hi offs, [p2, b, w])) (hx : x.toInt < lo ∨ hi < x.toInt) (hp : (pc : Int) + dflt = (p2 : Int)) (kk : Ev K d M (p2, lv, st, h) r) : Ev K d M (pc, lv, .int x :: st, h) r := by
  refine ev_step (st_at ha ?_) kk
  show ((im_1i (.int x :: st)).bind fun q =>
      if q.1.toInt < lo ∨ hi < q.1.toInt then (if (pc : Int) + dflt = (p2 : Int) then im_nx p2 lv q.2 h else none)
      else (offs[(q.1.toInt - lo).toNat]?).bind fun off => if (pc : Int) + off = ((((pc : Int) + off).toNat : Nat) : Int) then im_nx ((pc : Int) + off).toNat lv q.2 h else none) = _
  simp only [im_1i, Option.bind_some, if_pos hx, if_pos hp]
  rfl
theorem sp_ls {dflt : Int} {ps : Array (Int × Int)} {w : Nat} {x : Int32} {off : Int} (ha : im_at M pc = some (.lookupswitch dflt ps, [0, 0, w])) (hs : (ps.toList.zip (ps.toList.drop 1)).all (fun (a, next) => a.1 < next.1) = true) (ho : Op.lookupswitch.offset ps.toList dflt x.toInt = off) (hp : (pc : Int) + off = (p2 : Int)) (kk : Ev K d M (p2, lv, st, h) r) : Ev K d M (pc, lv, .int x :: st, h) r := by
  refine ev_step (st_at ha ?_) kk
  show ((im_1i (.int x :: st)).bind fun q =>
      if (ps.toList.zip (ps.toList.drop 1)).all (fun (a, next) => a.1 < next.1) = true ∧ (pc : Int) + Op.lookupswitch.offset ps.toList dflt q.1.toInt = ((((pc : Int) + Op.lookupswitch.offset ps.toList dflt q.1.toInt).toNat : Nat) : Int) then im_nx ((pc : Int) + Op.lookupswitch.offset ps.toList dflt q.1.toInt).toNat lv q.2 h else none) = _
  simp only [im_1i, Option.bind_some, ho, hp, Int.toNat_natCast, hs, and_self, if_true]
  rfl
theorem cl_within_T {n bv : Int32} {b : Int} (hb : bv.toInt = b) (hn : 0 ≤ n.toInt ∧ n.toInt < b) : Ca (d + 1) 110 [.int n, .int bv] h (some (.int 1), h) := by
  refine ca_of (M := mX11_within) rfl (Nat.le_of_ble_eq_true rfl) ?_
  show Ev im_K0 d mX11_within (0, [(0, .int n), (1, .int bv)], [], h) _
  refine sp_iload_n (p2 := 1) rfl rfl rfl ?_
  refine st_ifc (b := false) rfl (cn_lt_F rfl (show Int32.toInt 0 = 0 from rfl) (by omega)) ?_
  show Ev _ _ _ (4, _, _, _) _
  refine sp_iload_n (p2 := 5) rfl rfl rfl ?_
  refine sp_iload_n (p2 := 6) rfl rfl rfl ?_
  refine st_icmp (b := false) rfl (cn_ge_F rfl hb (by omega)) ?_
  show Ev _ _ _ (9, _, _, _) _
  refine sp_iconst (p2 := 10) (x := 1) rfl rfl (by decide) ?_
  refine sp_goto rfl ?_
  exact sp_zret rfl rfl (by decide)
theorem cl_within_F {n bv : Int32} {b : Int} (hb : bv.toInt = b) (hn : n.toInt < 0 ∨ b ≤ n.toInt) : Ca (d + 1) 110 [.int n, .int bv] h (some (.int 0), h) := by
  refine ca_of (M := mX11_within) rfl (Nat.le_of_ble_eq_true rfl) ?_
  show Ev im_K0 d mX11_within (0, [(0, .int n), (1, .int bv)], [], h) _
  refine sp_iload_n (p2 := 1) rfl rfl rfl ?_
  by_cases h0 : n.toInt < 0
  · refine st_ifc (b := true) rfl (cn_lt_T rfl (show Int32.toInt 0 = 0 from rfl) h0) ?_
    show Ev _ _ _ (13, _, _, _) _
    refine sp_iconst (p2 := 14) (x := 0) rfl rfl (by decide) ?_
    exact sp_zret rfl rfl (by decide)
  · refine st_ifc (b := false) rfl (cn_lt_F rfl (show Int32.toInt 0 = 0 from rfl) h0) ?_
    show Ev _ _ _ (4, _, _, _) _
    refine sp_iload_n (p2 := 5) rfl rfl rfl ?_
    refine sp_iload_n (p2 := 6) rfl rfl rfl ?_
    refine st_icmp (b := true) rfl (cn_ge_T rfl hb (by omega)) ?_
    show Ev _ _ _ (13, _, _, _) _
    refine sp_iconst (p2 := 14) (x := 0) rfl rfl (by decide) ?_
    exact sp_zret rfl rfl (by decide)
theorem cl_between_T {n av bv : Int32} {a b : Int} (ha : av.toInt = a) (hb : bv.toInt = b) (hn : a ≤ n.toInt ∧ n.toInt ≤ b) : Ca (d + 1) 111 [.int n, .int av, .int bv] h (some (.int 1), h) := by
  refine ca_of (M := mX11_between) rfl (Nat.le_of_ble_eq_true rfl) ?_
  show Ev im_K0 d mX11_between (0, [(0, .int n), (1, .int av), (2, .int bv)], [], h) _
  refine sp_iload_n (p2 := 1) rfl rfl rfl ?_
  refine sp_iload_n (p2 := 2) rfl rfl rfl ?_
  refine st_icmp (b := false) rfl (cn_lt_F rfl ha (by omega)) ?_
  show Ev _ _ _ (5, _, _, _) _
  refine sp_iload_n (p2 := 6) rfl rfl rfl ?_
  refine sp_iload_n (p2 := 7) rfl rfl rfl ?_
  refine st_icmp (b := false) rfl (cn_gt_F rfl hb (by omega)) ?_
  show Ev _ _ _ (10, _, _, _) _
  refine sp_iconst (p2 := 11) (x := 1) rfl rfl (by decide) ?_
  refine sp_goto rfl ?_
  exact sp_zret rfl rfl (by decide)
theorem cl_between_F {n av bv : Int32} {a b : Int} (ha : av.toInt = a) (hb : bv.toInt = b) (hn : n.toInt < a ∨ b < n.toInt) : Ca (d + 1) 111 [.int n, .int av, .int bv] h (some (.int 0), h) := by
  refine ca_of (M := mX11_between) rfl (Nat.le_of_ble_eq_true rfl) ?_
  show Ev im_K0 d mX11_between (0, [(0, .int n), (1, .int av), (2, .int bv)], [], h) _
  refine sp_iload_n (p2 := 1) rfl rfl rfl ?_
  refine sp_iload_n (p2 := 2) rfl rfl rfl ?_
  by_cases h0 : n.toInt < a
  · refine st_icmp (b := true) rfl (cn_lt_T rfl ha h0) ?_
    show Ev _ _ _ (14, _, _, _) _
    refine sp_iconst (p2 := 15) (x := 0) rfl rfl (by decide) ?_
    exact sp_zret rfl rfl (by decide)
  · refine st_icmp (b := false) rfl (cn_lt_F rfl ha h0) ?_
    show Ev _ _ _ (5, _, _, _) _
    refine sp_iload_n (p2 := 6) rfl rfl rfl ?_
    refine sp_iload_n (p2 := 7) rfl rfl rfl ?_
    refine st_icmp (b := true) rfl (cn_gt_T rfl hb (by omega)) ?_
    show Ev _ _ _ (14, _, _, _) _
    refine sp_iconst (p2 := 15) (x := 0) rfl rfl (by decide) ?_
    exact sp_zret rfl rfl (by decide)
theorem cl_in_T {n av bv : Int32} {a b : Int} (ha : av.toInt = a) (hb : bv.toInt = b) (hn : a ≤ n.toInt ∧ n.toInt ≤ b) : Ca (d + 1) 117 [.int n, .int av, .int bv] h (some (.int 1), h) := by
  refine ca_of (M := mX12_in) rfl (Nat.le_of_ble_eq_true rfl) ?_
  show Ev im_K0 d mX12_in (0, [(0, .int n), (1, .int av), (2, .int bv)], [], h) _
  refine sp_iload_n (p2 := 1) rfl rfl rfl ?_
  refine sp_iload_n (p2 := 2) rfl rfl rfl ?_
  refine st_icmp (b := false) rfl (cn_lt_F rfl ha (by omega)) ?_
  show Ev _ _ _ (5, _, _, _) _
  refine sp_iload_n (p2 := 6) rfl rfl rfl ?_
  refine sp_iload_n (p2 := 7) rfl rfl rfl ?_
  refine st_icmp (b := false) rfl (cn_gt_F rfl hb (by omega)) ?_
  show Ev _ _ _ (10, _, _, _) _
  refine sp_iconst (p2 := 11) (x := 1) rfl rfl (by decide) ?_
  refine sp_goto rfl ?_
  exact sp_zret rfl rfl (by decide)
theorem cl_in_F {n av bv : Int32} {a b : Int} (ha : av.toInt = a) (hb : bv.toInt = b) (hn : n.toInt < a ∨ b < n.toInt) : Ca (d + 1) 117 [.int n, .int av, .int bv] h (some (.int 0), h) := by
  refine ca_of (M := mX12_in) rfl (Nat.le_of_ble_eq_true rfl) ?_
  show Ev im_K0 d mX12_in (0, [(0, .int n), (1, .int av), (2, .int bv)], [], h) _
  refine sp_iload_n (p2 := 1) rfl rfl rfl ?_
  refine sp_iload_n (p2 := 2) rfl rfl rfl ?_
  by_cases h0 : n.toInt < a
  · refine st_icmp (b := true) rfl (cn_lt_T rfl ha h0) ?_
    show Ev _ _ _ (14, _, _, _) _
    refine sp_iconst (p2 := 15) (x := 0) rfl rfl (by decide) ?_
    exact sp_zret rfl rfl (by decide)
  · refine st_icmp (b := false) rfl (cn_lt_F rfl ha h0) ?_
    show Ev _ _ _ (5, _, _, _) _
    refine sp_iload_n (p2 := 6) rfl rfl rfl ?_
    refine sp_iload_n (p2 := 7) rfl rfl rfl ?_
    refine st_icmp (b := true) rfl (cn_gt_T rfl hb (by omega)) ?_
    show Ev _ _ _ (14, _, _, _) _
    refine sp_iconst (p2 := 15) (x := 0) rfl rfl (by decide) ?_
    exact sp_zret rfl rfl (by decide)
theorem cl_isCell_T {n : Int32} (hn : 0 ≤ n.toInt ∧ n.toInt ≤ 99) : Ca (d + 2) 118 [.int n] h (some (.int 1), h) := by
  refine ca_of (M := mX12_isCell) rfl (Nat.le_of_ble_eq_true rfl) ?_
  show Ev im_K0 (d + 1) mX12_isCell (0, [(0, .int n)], [], h) _
  refine sp_iload_n (p2 := 1) rfl rfl rfl ?_
  refine sp_iconst (p2 := 2) (x := 0) rfl rfl (by decide) ?_
  refine sp_bipush (p2 := 4) (x := 99) rfl rfl (by decide) ?_
  refine st_callS rfl rfl rfl (cl_in_T (a := 0) (b := 99) rfl rfl (by omega)) ?_
  show Ev _ _ _ (7, _, [.int 1], _) _
  exact sp_zret rfl rfl (by decide)
theorem cl_isCell_F {n : Int32} (hn : n.toInt < 0 ∨ 99 < n.toInt) : Ca (d + 2) 118 [.int n] h (some (.int 0), h) := by
  refine ca_of (M := mX12_isCell) rfl (Nat.le_of_ble_eq_true rfl) ?_
  show Ev im_K0 (d + 1) mX12_isCell (0, [(0, .int n)], [], h) _
  refine sp_iload_n (p2 := 1) rfl rfl rfl ?_
  refine sp_iconst (p2 := 2) (x := 0) rfl rfl (by decide) ?_
  refine sp_bipush (p2 := 4) (x := 99) rfl rfl (by decide) ?_
  refine st_callS rfl rfl rfl (cl_in_F (a := 0) (b := 99) rfl rfl (by omega)) ?_
  show Ev _ _ _ (7, _, [.int 0], _) _
  exact sp_zret rfl rfl (by decide)
end PRM
section PRN
variable {K : im_K} {d : Nat} {M : im_M} {pc p2 : Nat} {lv lv2 : im_L} {st : List Value} {h : im_H} {r : Option Value × im_H}
theorem sp_gst {idx a b x : Nat} (ha : im_at M pc = some (.getstatic idx, [a, b, 0, 0, x])) (hp : pc + 3 = p2) (h5 : a < 5) (k : Ev K d M (p2, lv, .ref a :: st, h) r) : Ev K d M (pc, lv, st, h) r := by
  subst hp
  refine ev_step (st_at ha ?_) k
  show (if a < 5 then im_nx (pc + 3) lv (.ref a :: st) h else none) = _
  rw [if_pos h5]; rfl
theorem sp_ldc2 {idx a y : Nat} {x : Int64} (ha : im_at M pc = some (.ldc2_w idx, [a, 0, 0, 0, y])) (hp : pc + 3 = p2) (hx : K.2.2.1[a]? = some x) (k : Ev K d M (p2, lv, .long x :: st, h) r) : Ev K d M (pc, lv, st, h) r := by
  subst hp
  refine ev_step (st_at ha ?_) k
  show ((K.2.2.1[a]?).bind fun x => im_nx (pc + 3) lv (.long x :: st) h) = _
  rw [hx]; rfl
theorem sp_i2l {x : Int32} {z : Int64} (ha : im_at M pc = some (.i2l, [])) (hp : pc + 1 = p2) (hz : x.toInt64 = z) (k : Ev K d M (p2, lv, .long z :: st, h) r) : Ev K d M (pc, lv, .int x :: st, h) r := by
  subst hp; subst hz
  exact ev_step (st_at ha rfl) k
theorem sp_l2i {x : Int64} {z : Int32} (ha : im_at M pc = some (.l2i, [])) (hp : pc + 1 = p2) (hz : x.toInt32 = z) (k : Ev K d M (p2, lv, .int z :: st, h) r) : Ev K d M (pc, lv, .long x :: st, h) r := by
  subst hp; subst hz
  exact ev_step (st_at ha rfl) k
theorem sp_lshr {x z : Int64} {y : Int32} (ha : im_at M pc = some (.lshr, [])) (hp : pc + 1 = p2) (hz : x >>> (y.toInt64 &&& 63) = z) (k : Ev K d M (p2, lv, .long z :: st, h) r) : Ev K d M (pc, lv, .int y :: .long x :: st, h) r := by
  subst hp; subst hz
  exact ev_step (st_at ha rfl) k
theorem sp_land {x y z : Int64} (ha : im_at M pc = some (.land, [])) (hp : pc + 1 = p2) (hz : x &&& y = z) (k : Ev K d M (p2, lv, .long z :: st, h) r) : Ev K d M (pc, lv, .long y :: .long x :: st, h) r := by
  subst hp; subst hz
  exact ev_step (st_at ha rfl) k
theorem sp_max {idx w z0 a : Nat} {x y z : Int32} (ha : im_at M pc = some (.invokestatic idx, [0, 5, w, z0, a])) (hp : pc + 3 = p2) (hc : im_cat st = true) (hz : (if x < y then y else x) = z) (k : Ev K d M (p2, lv, .int z :: st, h) r) : Ev K d M (pc, lv, .int y :: .int x :: st, h) r := by
  subst hp; subst hz
  refine ev_step (st_at ha ?_) k
  show ((im_1i (.int y :: .int x :: st)).bind fun q => (im_1i q.2).bind fun u => if im_cat u.2 then im_nx (pc + 3) lv (.int (if u.1 < q.1 then q.1 else u.1) :: u.2) h else none) = _
  simp only [im_1i, Option.bind_some, if_pos hc]
  rfl
theorem sp_min {idx w z0 a : Nat} {x y z : Int32} (ha : im_at M pc = some (.invokestatic idx, [0, 6, w, z0, a])) (hp : pc + 3 = p2) (hc : im_cat st = true) (hz : (if y < x then y else x) = z) (k : Ev K d M (p2, lv, .int z :: st, h) r) : Ev K d M (pc, lv, .int y :: .int x :: st, h) r := by
  subst hp; subst hz
  refine ev_step (st_at ha ?_) k
  show ((im_1i (.int y :: .int x :: st)).bind fun q => (im_1i q.2).bind fun u => if im_cat u.2 then im_nx (pc + 3) lv (.int (if q.1 < u.1 then q.1 else u.1) :: u.2) h else none) = _
  simp only [im_1i, Option.bind_some, if_pos hc]
  rfl
theorem sp_alen {R : Nat} {l : List Int32} {x : Int32} (ha : im_at M pc = some (.arraylength, [])) (hp : pc + 1 = p2) (hR : 16 ≤ R) (hl : im_ia h R 0 = some l) (hx : Int32.ofNat l.length = x) (k : Ev K d M (p2, lv, .int x :: st, h) r) : Ev K d M (pc, lv, .ref R :: st, h) r := by
  subst hp; subst hx
  refine ev_step (st_at ha ?_) k
  obtain ⟨i, rfl, hc⟩ := im_ia_eq hl
  show ((im_1r (.ref (16 + i) :: st)).bind fun q => (if 16 ≤ q.1 then im_len h q.1 else (K.1[q.1]?).map List.length).bind fun n => im_nx (pc + 1) lv (.int (Int32.ofNat n) :: q.2) h) = _
  simp only [im_1r, Option.bind_some, if_pos hR, im_len]
  rw [show 16 + i - 16 = i by omega, hc]
  rfl
end PRN
end
section
/-! THE CELLS behind both constructors -/
def hX : im_H := [.inr (11, [.ref 17, .ref 39, .ref 53, .ref 67, .int 0, .ref 81, .ref 83, .int 0, .int (-1), .ref 84, .ref 88, .ref 93, .ref 107, .ref 113]),
  .inr (0, [.ref 18, .int (-1), .int 0, .ref 19, .ref 20, .ref 21, .ref 22, .ref 23, .ref 24, .int 0, .ref 25, .ref 26, .null, .ref 27]),
  .inl (0, .inl (List.replicate 100 (-1))),
  .inl (0, .inl (List.replicate 24 0)),
  .inl (0, .inl (List.replicate 24 0)),
  .inl (0, .inl (List.replicate 24 0)),
  .inl (0, .inl (List.replicate 24 (-1))),
  .inl (3, .inr (.inr [some 28, some 30, some 32, some 34])),
  .inl (4, .inr (.inr [some 36, some 37, some 38])),
  .inl (0, .inl (List.replicate 16 0)),
  .inl (0, .inl (List.replicate 16 0)),
  .inl (0, .inl ([0, 0, 0, 0, 0, 0, 0, 0])),
  .inr (7, [.ref 29, .int 0, .int 0, .int 0]),
  .inl (0, .inl ([0, 0, 0, 0, 0, 0, 0, 0])),
  .inr (7, [.ref 31, .int 0, .int 0, .int 0]),
  .inl (0, .inl ([0, 0, 0, 0, 0, 0, 0, 0])),
  .inr (7, [.ref 33, .int 0, .int 0, .int 0]),
  .inl (0, .inl ([0, 0, 0, 0, 0, 0, 0, 0])),
  .inr (7, [.ref 35, .int 0, .int 0, .int 0]),
  .inl (0, .inl ([0, 0, 0, 0, 0, 0, 0, 0])),
  .inr (5, [.int 0, .int 0, .int 0, .int 0]),
  .inr (5, [.int 0, .int 0, .int 0, .int 0]),
  .inr (5, [.int 0, .int 0, .int 0, .int 0]),
  .inr (9, [.int 0, .int 0, .int 0, .int 0, .int 0, .ref 40, .ref 41, .ref 42, .ref 43, .ref 44, .ref 45, .ref 46, .ref 47, .ref 48, .ref 49, .ref 50, .ref 51, .ref 52]),
  .inl (0, .inl ([0, 0, 0])),
  .inl (0, .inl (List.replicate 100 0)),
  .inl (0, .inl (List.replicate 24 (-1))),
  .inl (0, .inl (List.replicate 24 0)),
  .inl (0, .inl (List.replicate 24 0)),
  .inl (0, .inl (List.replicate 24 0)),
  .inl (1, .inl (List.replicate 24 0)),
  .inl (0, .inl (List.replicate 16 0)),
  .inl (1, .inl (List.replicate 16 0)),
  .inl (1, .inl (List.replicate 12 0)),
  .inl (0, .inl ([0, 0, 0, 0])),
  .inl (0, .inl ([0, 0, 0, 0])),
  .inl (0, .inl ([0, 0, 0])),
  .inr (9, [.int 0, .int 0, .int 0, .int 0, .int 0, .ref 54, .ref 55, .ref 56, .ref 57, .ref 58, .ref 59, .ref 60, .ref 61, .ref 62, .ref 63, .ref 64, .ref 65, .ref 66]),
  .inl (0, .inl ([0, 0, 0])),
  .inl (0, .inl (List.replicate 100 0)),
  .inl (0, .inl (List.replicate 24 (-1))),
  .inl (0, .inl (List.replicate 24 0)),
  .inl (0, .inl (List.replicate 24 0)),
  .inl (0, .inl (List.replicate 24 0)),
  .inl (1, .inl (List.replicate 24 0)),
  .inl (0, .inl (List.replicate 16 0)),
  .inl (1, .inl (List.replicate 16 0)),
  .inl (1, .inl (List.replicate 12 0)),
  .inl (0, .inl ([0, 0, 0, 0])),
  .inl (0, .inl ([0, 0, 0, 0])),
  .inl (0, .inl ([0, 0, 0])),
  .inr (9, [.int 0, .int 0, .int 0, .int 0, .int 0, .ref 68, .ref 69, .ref 70, .ref 71, .ref 72, .ref 73, .ref 74, .ref 75, .ref 76, .ref 77, .ref 78, .ref 79, .ref 80]),
  .inl (0, .inl ([0, 0, 0])),
  .inl (0, .inl (List.replicate 100 0)),
  .inl (0, .inl (List.replicate 24 (-1))),
  .inl (0, .inl (List.replicate 24 0)),
  .inl (0, .inl (List.replicate 24 0)),
  .inl (0, .inl (List.replicate 24 0)),
  .inl (1, .inl (List.replicate 24 0)),
  .inl (0, .inl (List.replicate 16 0)),
  .inl (1, .inl (List.replicate 16 0)),
  .inl (1, .inl (List.replicate 12 0)),
  .inl (0, .inl ([0, 0, 0, 0])),
  .inl (0, .inl ([0, 0, 0, 0])),
  .inl (0, .inl ([0, 0, 0])),
  .inr (10, [.ref 82, .int 0, .int 0]),
  .inl (0, .inl (List.replicate 160 0)),
  .inl (5, .inr (.inr [some 114, some 121, some 128, some 135, some 142, some 149])),
  .inr (3, [.int 0, .ref 85, .ref 86, .ref 87]),
  .inl (0, .inl ([0, 0, 0, 0, 0, 0])),
  .inl (0, .inl ([0, 0, 0, 0, 0, 0])),
  .inl (0, .inl ([0, 0, 0, 0, 0, 0])),
  .inr (6, [.int 0, .ref 89, .ref 90, .ref 91, .ref 92, .int 0, .int 0, .int 0, .int 0]),
  .inl (0, .inl (List.replicate 12 0)),
  .inl (0, .inl (List.replicate 12 0)),
  .inl (0, .inl (List.replicate 12 0)),
  .inl (0, .inl (List.replicate 12 0)),
  .inr (4, [.int 0, .ref 94, .ref 103, .ref 104, .ref 105, .ref 106]),
  .inl (7, .inr (.inr [some 95, some 96, some 97, some 98, some 99, some 100, some 101, some 102])),
  .inl (0, .inl (List.replicate 10 0)),
  .inl (0, .inl (List.replicate 10 0)),
  .inl (0, .inl (List.replicate 10 0)),
  .inl (0, .inl (List.replicate 10 0)),
  .inl (0, .inl (List.replicate 10 0)),
  .inl (0, .inl (List.replicate 10 0)),
  .inl (0, .inl (List.replicate 10 0)),
  .inl (0, .inl (List.replicate 10 0)),
  .inl (0, .inl ([0, 0, 0, 0, 0, 0, 0, 0])),
  .inl (0, .inl ([0, 0, 0, 0, 0, 0, 0, 0])),
  .inl (0, .inl ([0, 0, 0, 0, 0, 0, 0, 0])),
  .inl (1, .inl (List.replicate 100 0)),
  .inr (2, [.int 0, .ref 108, .ref 109, .ref 110, .ref 111, .ref 112]),
  .inl (0, .inl (List.replicate 24 0)),
  .inl (0, .inl (List.replicate 24 0)),
  .inl (0, .inl (List.replicate 24 0)),
  .inl (0, .inl (List.replicate 24 0)),
  .inl (0, .inl (List.replicate 24 (-1))),
  .inl (6, .inr (.inr [some 156, some 158, some 160, some 162])),
  .inr (1, [.int 0, .ref 115, .ref 116, .ref 117, .ref 118, .ref 119, .ref 120]),
  .inl (0, .inl ([0, 0, 0, 0, 0, 0, 0, 0])),
  .inl (0, .inl ([0, 0, 0, 0, 0, 0, 0, 0])),
  .inl (0, .inl ([0, 0, 0, 0, 0, 0, 0, 0])),
  .inl (0, .inl (List.replicate 24 0)),
  .inl (0, .inl (List.replicate 24 0)),
  .inl (0, .inl (List.replicate 24 0)),
  .inr (1, [.int 0, .ref 122, .ref 123, .ref 124, .ref 125, .ref 126, .ref 127]),
  .inl (0, .inl ([0, 0, 0, 0, 0, 0, 0, 0])),
  .inl (0, .inl ([0, 0, 0, 0, 0, 0, 0, 0])),
  .inl (0, .inl ([0, 0, 0, 0, 0, 0, 0, 0])),
  .inl (0, .inl (List.replicate 24 0)),
  .inl (0, .inl (List.replicate 24 0)),
  .inl (0, .inl (List.replicate 24 0)),
  .inr (1, [.int 0, .ref 129, .ref 130, .ref 131, .ref 132, .ref 133, .ref 134]),
  .inl (0, .inl ([0, 0, 0, 0, 0, 0, 0, 0])),
  .inl (0, .inl ([0, 0, 0, 0, 0, 0, 0, 0])),
  .inl (0, .inl ([0, 0, 0, 0, 0, 0, 0, 0])),
  .inl (0, .inl (List.replicate 24 0)),
  .inl (0, .inl (List.replicate 24 0)),
  .inl (0, .inl (List.replicate 24 0)),
  .inr (1, [.int 0, .ref 136, .ref 137, .ref 138, .ref 139, .ref 140, .ref 141]),
  .inl (0, .inl ([0, 0, 0, 0, 0, 0, 0, 0])),
  .inl (0, .inl ([0, 0, 0, 0, 0, 0, 0, 0])),
  .inl (0, .inl ([0, 0, 0, 0, 0, 0, 0, 0])),
  .inl (0, .inl (List.replicate 24 0)),
  .inl (0, .inl (List.replicate 24 0)),
  .inl (0, .inl (List.replicate 24 0)),
  .inr (1, [.int 0, .ref 143, .ref 144, .ref 145, .ref 146, .ref 147, .ref 148]),
  .inl (0, .inl ([0, 0, 0, 0, 0, 0, 0, 0])),
  .inl (0, .inl ([0, 0, 0, 0, 0, 0, 0, 0])),
  .inl (0, .inl ([0, 0, 0, 0, 0, 0, 0, 0])),
  .inl (0, .inl (List.replicate 24 0)),
  .inl (0, .inl (List.replicate 24 0)),
  .inl (0, .inl (List.replicate 24 0)),
  .inr (1, [.int 0, .ref 150, .ref 151, .ref 152, .ref 153, .ref 154, .ref 155]),
  .inl (0, .inl ([0, 0, 0, 0, 0, 0, 0, 0])),
  .inl (0, .inl ([0, 0, 0, 0, 0, 0, 0, 0])),
  .inl (0, .inl ([0, 0, 0, 0, 0, 0, 0, 0])),
  .inl (0, .inl (List.replicate 24 0)),
  .inl (0, .inl (List.replicate 24 0)),
  .inl (0, .inl (List.replicate 24 0)),
  .inr (8, [.int (-1), .int 0, .ref 157]),
  .inl (0, .inl (List.replicate 40 0)),
  .inr (8, [.int (-1), .int 0, .ref 159]),
  .inl (0, .inl (List.replicate 40 0)),
  .inr (8, [.int (-1), .int 0, .ref 161]),
  .inl (0, .inl (List.replicate 40 0)),
  .inr (8, [.int (-1), .int 0, .ref 163]),
  .inl (0, .inl (List.replicate 40 0))]
def hh : im_H := [.inr (11, [.ref 17, .ref 39, .ref 53, .ref 67, .int 0, .ref 81, .ref 83, .int 0, .int (-1), .ref 84, .ref 88, .ref 93, .ref 107, .ref 113]),
  .inr (0, [.ref 18, .int (-1), .int 0, .ref 19, .ref 20, .ref 21, .ref 22, .ref 23, .ref 24, .int 0, .ref 25, .ref 26, .null, .ref 27]),
  .inl (0, .inl (List.replicate 100 (-1))),
  .inl (0, .inl (List.replicate 24 0)),
  .inl (0, .inl (List.replicate 24 0)),
  .inl (0, .inl (List.replicate 24 0)),
  .inl (0, .inl (List.replicate 24 (-1))),
  .inl (3, .inr (.inr [some 28, some 30, some 32, some 34])),
  .inl (4, .inr (.inr [some 36, some 37, some 38])),
  .inl (0, .inl (List.replicate 16 0)),
  .inl (0, .inl (List.replicate 16 0)),
  .inl (0, .inl ([0, 0, 0, 0, 0, 0, 0, 0])),
  .inr (7, [.ref 29, .int 0, .int 0, .int 0]),
  .inl (0, .inl ([0, 0, 0, 0, 0, 0, 0, 0])),
  .inr (7, [.ref 31, .int 0, .int 0, .int 0]),
  .inl (0, .inl ([0, 0, 0, 0, 0, 0, 0, 0])),
  .inr (7, [.ref 33, .int 0, .int 0, .int 0]),
  .inl (0, .inl ([0, 0, 0, 0, 0, 0, 0, 0])),
  .inr (7, [.ref 35, .int 0, .int 0, .int 0]),
  .inl (0, .inl ([0, 0, 0, 0, 0, 0, 0, 0])),
  .inr (5, [.int 0, .int 0, .int 0, .int 0]),
  .inr (5, [.int 0, .int 0, .int 0, .int 0]),
  .inr (5, [.int 0, .int 0, .int 0, .int 0]),
  .inr (9, [.int 0, .int 0, .int 0, .int 0, .int 0, .ref 40, .ref 41, .ref 42, .ref 43, .ref 44, .ref 45, .ref 46, .ref 47, .ref 48, .ref 49, .ref 50, .ref 51, .ref 52]),
  .inl (0, .inl ([0, 0, 0])),
  .inl (0, .inl (List.replicate 100 0)),
  .inl (0, .inl (List.replicate 24 (-1))),
  .inl (0, .inl (List.replicate 24 0)),
  .inl (0, .inl (List.replicate 24 0)),
  .inl (0, .inl (List.replicate 24 0)),
  .inl (1, .inl (List.replicate 24 0)),
  .inl (0, .inl (List.replicate 16 0)),
  .inl (1, .inl (List.replicate 16 0)),
  .inl (1, .inl (List.replicate 12 0)),
  .inl (0, .inl ([0, 0, 0, 0])),
  .inl (0, .inl ([0, 0, 0, 0])),
  .inl (0, .inl ([0, 0, 0])),
  .inr (9, [.int 0, .int 0, .int 0, .int 0, .int 0, .ref 54, .ref 55, .ref 56, .ref 57, .ref 58, .ref 59, .ref 60, .ref 61, .ref 62, .ref 63, .ref 64, .ref 65, .ref 66]),
  .inl (0, .inl ([0, 0, 0])),
  .inl (0, .inl (List.replicate 100 0)),
  .inl (0, .inl (List.replicate 24 (-1))),
  .inl (0, .inl (List.replicate 24 0)),
  .inl (0, .inl (List.replicate 24 0)),
  .inl (0, .inl (List.replicate 24 0)),
  .inl (1, .inl (List.replicate 24 0)),
  .inl (0, .inl (List.replicate 16 0)),
  .inl (1, .inl (List.replicate 16 0)),
  .inl (1, .inl (List.replicate 12 0)),
  .inl (0, .inl ([0, 0, 0, 0])),
  .inl (0, .inl ([0, 0, 0, 0])),
  .inl (0, .inl ([0, 0, 0])),
  .inr (9, [.int 0, .int 0, .int 0, .int 0, .int 0, .ref 68, .ref 69, .ref 70, .ref 71, .ref 72, .ref 73, .ref 74, .ref 75, .ref 76, .ref 77, .ref 78, .ref 79, .ref 80]),
  .inl (0, .inl ([0, 0, 0])),
  .inl (0, .inl (List.replicate 100 0)),
  .inl (0, .inl (List.replicate 24 (-1))),
  .inl (0, .inl (List.replicate 24 0)),
  .inl (0, .inl (List.replicate 24 0)),
  .inl (0, .inl (List.replicate 24 0)),
  .inl (1, .inl (List.replicate 24 0)),
  .inl (0, .inl (List.replicate 16 0)),
  .inl (1, .inl (List.replicate 16 0)),
  .inl (1, .inl (List.replicate 12 0)),
  .inl (0, .inl ([0, 0, 0, 0])),
  .inl (0, .inl ([0, 0, 0, 0])),
  .inl (0, .inl ([0, 0, 0])),
  .inr (10, [.ref 82, .int 0, .int 0]),
  .inl (0, .inl (List.replicate 160 0)),
  .inl (5, .inr (.inr [some 114, some 121, some 128, some 135, some 142, some 149])),
  .inr (3, [.int 0, .ref 85, .ref 86, .ref 87]),
  .inl (0, .inl ([0, 0, 0, 0, 0, 0])),
  .inl (0, .inl ([0, 0, 0, 0, 0, 0])),
  .inl (0, .inl ([0, 0, 0, 0, 0, 0])),
  .inr (6, [.int 0, .ref 89, .ref 90, .ref 91, .ref 92, .int 0, .int 0, .int 0, .int 0]),
  .inl (0, .inl (List.replicate 12 0)),
  .inl (0, .inl (List.replicate 12 0)),
  .inl (0, .inl (List.replicate 12 0)),
  .inl (0, .inl (List.replicate 12 0)),
  .inr (4, [.int 0, .ref 94, .ref 103, .ref 104, .ref 105, .ref 106]),
  .inl (7, .inr (.inr [some 95, some 96, some 97, some 98, some 99, some 100, some 101, some 102])),
  .inl (0, .inl (List.replicate 10 0)),
  .inl (0, .inl (List.replicate 10 0)),
  .inl (0, .inl (List.replicate 10 0)),
  .inl (0, .inl (List.replicate 10 0)),
  .inl (0, .inl (List.replicate 10 0)),
  .inl (0, .inl (List.replicate 10 0)),
  .inl (0, .inl (List.replicate 10 0)),
  .inl (0, .inl (List.replicate 10 0)),
  .inl (0, .inl ([0, 0, 0, 0, 0, 0, 0, 0])),
  .inl (0, .inl ([0, 0, 0, 0, 0, 0, 0, 0])),
  .inl (0, .inl ([0, 0, 0, 0, 0, 0, 0, 0])),
  .inl (1, .inl (List.replicate 100 0)),
  .inr (2, [.int 0, .ref 108, .ref 109, .ref 110, .ref 111, .ref 112]),
  .inl (0, .inl (List.replicate 24 0)),
  .inl (0, .inl (List.replicate 24 0)),
  .inl (0, .inl (List.replicate 24 0)),
  .inl (0, .inl (List.replicate 24 0)),
  .inl (0, .inl (List.replicate 24 (-1))),
  .inl (6, .inr (.inr [some 156, some 158, some 160, some 162])),
  .inr (1, [.int 0, .ref 115, .ref 116, .ref 117, .ref 118, .ref 119, .ref 120]),
  .inl (0, .inl ([0, 0, 0, 0, 0, 0, 0, 0])),
  .inl (0, .inl ([0, 0, 0, 0, 0, 0, 0, 0])),
  .inl (0, .inl ([0, 0, 0, 0, 0, 0, 0, 0])),
  .inl (0, .inl (List.replicate 24 0)),
  .inl (0, .inl (List.replicate 24 0)),
  .inl (0, .inl (List.replicate 24 0)),
  .inr (1, [.int 0, .ref 122, .ref 123, .ref 124, .ref 125, .ref 126, .ref 127]),
  .inl (0, .inl ([0, 0, 0, 0, 0, 0, 0, 0])),
  .inl (0, .inl ([0, 0, 0, 0, 0, 0, 0, 0])),
  .inl (0, .inl ([0, 0, 0, 0, 0, 0, 0, 0])),
  .inl (0, .inl (List.replicate 24 0)),
  .inl (0, .inl (List.replicate 24 0)),
  .inl (0, .inl (List.replicate 24 0)),
  .inr (1, [.int 0, .ref 129, .ref 130, .ref 131, .ref 132, .ref 133, .ref 134]),
  .inl (0, .inl ([0, 0, 0, 0, 0, 0, 0, 0])),
  .inl (0, .inl ([0, 0, 0, 0, 0, 0, 0, 0])),
  .inl (0, .inl ([0, 0, 0, 0, 0, 0, 0, 0])),
  .inl (0, .inl (List.replicate 24 0)),
  .inl (0, .inl (List.replicate 24 0)),
  .inl (0, .inl (List.replicate 24 0)),
  .inr (1, [.int 0, .ref 136, .ref 137, .ref 138, .ref 139, .ref 140, .ref 141]),
  .inl (0, .inl ([0, 0, 0, 0, 0, 0, 0, 0])),
  .inl (0, .inl ([0, 0, 0, 0, 0, 0, 0, 0])),
  .inl (0, .inl ([0, 0, 0, 0, 0, 0, 0, 0])),
  .inl (0, .inl (List.replicate 24 0)),
  .inl (0, .inl (List.replicate 24 0)),
  .inl (0, .inl (List.replicate 24 0)),
  .inr (1, [.int 0, .ref 143, .ref 144, .ref 145, .ref 146, .ref 147, .ref 148]),
  .inl (0, .inl ([0, 0, 0, 0, 0, 0, 0, 0])),
  .inl (0, .inl ([0, 0, 0, 0, 0, 0, 0, 0])),
  .inl (0, .inl ([0, 0, 0, 0, 0, 0, 0, 0])),
  .inl (0, .inl (List.replicate 24 0)),
  .inl (0, .inl (List.replicate 24 0)),
  .inl (0, .inl (List.replicate 24 0)),
  .inr (1, [.int 0, .ref 150, .ref 151, .ref 152, .ref 153, .ref 154, .ref 155]),
  .inl (0, .inl ([0, 0, 0, 0, 0, 0, 0, 0])),
  .inl (0, .inl ([0, 0, 0, 0, 0, 0, 0, 0])),
  .inl (0, .inl ([0, 0, 0, 0, 0, 0, 0, 0])),
  .inl (0, .inl (List.replicate 24 0)),
  .inl (0, .inl (List.replicate 24 0)),
  .inl (0, .inl (List.replicate 24 0)),
  .inr (8, [.int (-1), .int 0, .ref 157]),
  .inl (0, .inl (List.replicate 40 0)),
  .inr (8, [.int (-1), .int 0, .ref 159]),
  .inl (0, .inl (List.replicate 40 0)),
  .inr (8, [.int (-1), .int 0, .ref 161]),
  .inl (0, .inl (List.replicate 40 0)),
  .inr (8, [.int (-1), .int 0, .ref 163]),
  .inl (0, .inl (List.replicate 40 0)),
  .inr (12, [.ref 165, .ref 166, .ref 167, .int 0, .ref 168, .ref 169, .ref 170, .ref 171, .ref 172, .int (-1), .int 0, .ref 173, .ref 174, .ref 175, .ref 176, .ref 177, .ref 178, .ref 179, .ref 180, .ref 181, .ref 182, .int 0, .ref 183, .ref 184, .int 0, .ref 185, .ref 186, .ref 187, .ref 188, .int 0, .ref 189, .ref 190, .ref 191, .ref 192, .ref 193, .int 0, .ref 194, .ref 195, .ref 196, .ref 197, .ref 198, .int 0, .ref 199, .int 0, .ref 200, .int 0, .int 0, .int (-1), .ref 201, .ref 202, .ref 203, .ref 204, .ref 205, .ref 206, .ref 207, .ref 208, .ref 209, .ref 210, .ref 211, .ref 212, .int 0, .int 0, .int 0, .ref 213, .ref 214, .ref 215]),
  .inl (0, .inl ((List.replicate 140 0 ++ (List.replicate 24 (-1) ++ (List.replicate 119 0))))),
  .inl (0, .inl (List.replicate 283 0)),
  .inl (0, .inl (List.replicate 283 0)),
  .inl (0, .inl (List.replicate 100 (-1))),
  .inl (0, .inl ([20, 35, 20, 70, 10, 5])),
  .inl (0, .inl ([1, 4, 1, 4, 7, 4])),
  .inl (0, .inl ([0, 0, 5, 0, 5, 0])),
  .inl (0, .inl ([3, 3, 2, 7, 2, 6])),
  .inl (0, .inl (List.replicate 24 0)),
  .inl (0, .inl (List.replicate 24 0)),
  .inl (0, .inl (List.replicate 24 0)),
  .inl (0, .inl (List.replicate 32 0)),
  .inl (0, .inl ([0, 0, 0, 0])),
  .inl (0, .inl ([0, 0, 0, 0])),
  .inl (0, .inl ([0, 0, 0, 0])),
  .inl (0, .inl (List.replicate 36 0)),
  .inl (0, .inl ([0, 0, 0])),
  .inl (0, .inl ([0, 0, 0])),
  .inl (0, .inl (List.replicate 16 0)),
  .inl (0, .inl (List.replicate 16 0)),
  .inl (0, .inl (List.replicate 12 0)),
  .inl (0, .inl (List.replicate 12 0)),
  .inl (0, .inl (List.replicate 12 0)),
  .inl (0, .inl (List.replicate 12 0)),
  .inl (0, .inl ([0, 0, 0, 0, 0, 0, 0, 0])),
  .inl (0, .inl ([0, 0, 0, 0, 0, 0, 0, 0])),
  .inl (0, .inl ([0, 0, 0, 0, 0, 0, 0, 0])),
  .inl (0, .inl ([0, 0, 0, 0, 0, 0, 0, 0])),
  .inl (1, .inl (List.replicate 100 0)),
  .inl (0, .inl (List.replicate 24 0)),
  .inl (0, .inl (List.replicate 24 0)),
  .inl (0, .inl (List.replicate 24 0)),
  .inl (0, .inl (List.replicate 24 0)),
  .inl (0, .inl (List.replicate 24 (-1))),
  .inl (0, .inl ([0, 0, 0, 0, 0, 0])),
  .inl (0, .inl (List.replicate 160 0)),
  .inl (0, .inl ([0, 0, 0, 0, 0, 0])),
  .inl (0, .inl (List.replicate 48 0)),
  .inl (0, .inl (List.replicate 48 0)),
  .inl (0, .inl (List.replicate 48 0)),
  .inl (0, .inl (List.replicate 144 0)),
  .inl (0, .inl (List.replicate 144 0)),
  .inl (0, .inl (List.replicate 144 0)),
  .inl (0, .inl ([(-1), (-1), (-1), (-1)])),
  .inl (0, .inl ([0, 0, 0, 0])),
  .inl (0, .inl (List.replicate 160 0)),
  .inl (2, .inr (.inl ([2003792491, 1667330660, 1937006969, 126943973305959, 6383461, 7039342, 1752527476, 7824756, 2003398244, 6578553, 131320544716132, 543778336]))),
  .inl (0, .inl ([4, 4, 4, 6, 3, 3, 4, 3, 4, 3, 6, 4])),
  .inl (0, .inl (List.replicate 16 0)),
  .inl (0, .inl (List.replicate 16 0)),
  .inl (0, .inl ([0, 0, 0, 0, 0, 0]))]
theorem hh_len : hh.length = 200 := by decide +kernel
theorem hh_0 : im_obj hh 16 11 = some [.ref 17, .ref 39, .ref 53, .ref 67, .int 0, .ref 81, .ref 83, .int 0, .int (-1), .ref 84, .ref 88, .ref 93, .ref 107, .ref 113] := rfl
theorem hh_1 : im_obj hh 17 0 = some [.ref 18, .int (-1), .int 0, .ref 19, .ref 20, .ref 21, .ref 22, .ref 23, .ref 24, .int 0, .ref 25, .ref 26, .null, .ref 27] := rfl
theorem hh_2 : im_ia hh 18 0 = some ((List.replicate 100 (-1) : List Int32)) := rfl
theorem hh_3 : im_ia hh 19 0 = some ((List.replicate 24 0 : List Int32)) := rfl
theorem hh_4 : im_ia hh 20 0 = some ((List.replicate 24 0 : List Int32)) := rfl
theorem hh_5 : im_ia hh 21 0 = some ((List.replicate 24 0 : List Int32)) := rfl
theorem hh_6 : im_ia hh 22 0 = some ((List.replicate 24 (-1) : List Int32)) := rfl
theorem hh_7 : im_qa hh 23 = some (3, [some 28, some 30, some 32, some 34]) := rfl
theorem hh_8 : im_qa hh 24 = some (4, [some 36, some 37, some 38]) := rfl
theorem hh_9 : im_ia hh 25 0 = some ((List.replicate 16 0 : List Int32)) := rfl
theorem hh_10 : im_ia hh 26 0 = some ((List.replicate 16 0 : List Int32)) := rfl
theorem hh_11 : im_ia hh 27 0 = some (([0, 0, 0, 0, 0, 0, 0, 0] : List Int32)) := rfl
theorem hh_12 : im_obj hh 28 7 = some [.ref 29, .int 0, .int 0, .int 0] := rfl
theorem hh_13 : im_ia hh 29 0 = some (([0, 0, 0, 0, 0, 0, 0, 0] : List Int32)) := rfl
theorem hh_14 : im_obj hh 30 7 = some [.ref 31, .int 0, .int 0, .int 0] := rfl
theorem hh_15 : im_ia hh 31 0 = some (([0, 0, 0, 0, 0, 0, 0, 0] : List Int32)) := rfl
theorem hh_16 : im_obj hh 32 7 = some [.ref 33, .int 0, .int 0, .int 0] := rfl
theorem hh_17 : im_ia hh 33 0 = some (([0, 0, 0, 0, 0, 0, 0, 0] : List Int32)) := rfl
theorem hh_18 : im_obj hh 34 7 = some [.ref 35, .int 0, .int 0, .int 0] := rfl
theorem hh_19 : im_ia hh 35 0 = some (([0, 0, 0, 0, 0, 0, 0, 0] : List Int32)) := rfl
theorem hh_20 : im_obj hh 36 5 = some [.int 0, .int 0, .int 0, .int 0] := rfl
theorem hh_21 : im_obj hh 37 5 = some [.int 0, .int 0, .int 0, .int 0] := rfl
theorem hh_22 : im_obj hh 38 5 = some [.int 0, .int 0, .int 0, .int 0] := rfl
theorem hh_23 : im_obj hh 39 9 = some [.int 0, .int 0, .int 0, .int 0, .int 0, .ref 40, .ref 41, .ref 42, .ref 43, .ref 44, .ref 45, .ref 46, .ref 47, .ref 48, .ref 49, .ref 50, .ref 51, .ref 52] := rfl
theorem hh_24 : im_ia hh 40 0 = some (([0, 0, 0] : List Int32)) := rfl
theorem hh_25 : im_ia hh 41 0 = some ((List.replicate 100 0 : List Int32)) := rfl
theorem hh_26 : im_ia hh 42 0 = some ((List.replicate 24 (-1) : List Int32)) := rfl
theorem hh_27 : im_ia hh 43 0 = some ((List.replicate 24 0 : List Int32)) := rfl
theorem hh_28 : im_ia hh 44 0 = some ((List.replicate 24 0 : List Int32)) := rfl
theorem hh_29 : im_ia hh 45 0 = some ((List.replicate 24 0 : List Int32)) := rfl
theorem hh_30 : im_ia hh 46 1 = some ((List.replicate 24 0 : List Int32)) := rfl
theorem hh_31 : im_ia hh 47 0 = some ((List.replicate 16 0 : List Int32)) := rfl
theorem hh_32 : im_ia hh 48 1 = some ((List.replicate 16 0 : List Int32)) := rfl
theorem hh_33 : im_ia hh 49 1 = some ((List.replicate 12 0 : List Int32)) := rfl
theorem hh_34 : im_ia hh 50 0 = some (([0, 0, 0, 0] : List Int32)) := rfl
theorem hh_35 : im_ia hh 51 0 = some (([0, 0, 0, 0] : List Int32)) := rfl
theorem hh_36 : im_ia hh 52 0 = some (([0, 0, 0] : List Int32)) := rfl
theorem hh_37 : im_obj hh 53 9 = some [.int 0, .int 0, .int 0, .int 0, .int 0, .ref 54, .ref 55, .ref 56, .ref 57, .ref 58, .ref 59, .ref 60, .ref 61, .ref 62, .ref 63, .ref 64, .ref 65, .ref 66] := rfl
theorem hh_38 : im_ia hh 54 0 = some (([0, 0, 0] : List Int32)) := rfl
theorem hh_39 : im_ia hh 55 0 = some ((List.replicate 100 0 : List Int32)) := rfl
theorem hh_40 : im_ia hh 56 0 = some ((List.replicate 24 (-1) : List Int32)) := rfl
theorem hh_41 : im_ia hh 57 0 = some ((List.replicate 24 0 : List Int32)) := rfl
theorem hh_42 : im_ia hh 58 0 = some ((List.replicate 24 0 : List Int32)) := rfl
theorem hh_43 : im_ia hh 59 0 = some ((List.replicate 24 0 : List Int32)) := rfl
theorem hh_44 : im_ia hh 60 1 = some ((List.replicate 24 0 : List Int32)) := rfl
theorem hh_45 : im_ia hh 61 0 = some ((List.replicate 16 0 : List Int32)) := rfl
theorem hh_46 : im_ia hh 62 1 = some ((List.replicate 16 0 : List Int32)) := rfl
theorem hh_47 : im_ia hh 63 1 = some ((List.replicate 12 0 : List Int32)) := rfl
theorem hh_48 : im_ia hh 64 0 = some (([0, 0, 0, 0] : List Int32)) := rfl
theorem hh_49 : im_ia hh 65 0 = some (([0, 0, 0, 0] : List Int32)) := rfl
theorem hh_50 : im_ia hh 66 0 = some (([0, 0, 0] : List Int32)) := rfl
theorem hh_51 : im_obj hh 67 9 = some [.int 0, .int 0, .int 0, .int 0, .int 0, .ref 68, .ref 69, .ref 70, .ref 71, .ref 72, .ref 73, .ref 74, .ref 75, .ref 76, .ref 77, .ref 78, .ref 79, .ref 80] := rfl
theorem hh_52 : im_ia hh 68 0 = some (([0, 0, 0] : List Int32)) := rfl
theorem hh_53 : im_ia hh 69 0 = some ((List.replicate 100 0 : List Int32)) := rfl
theorem hh_54 : im_ia hh 70 0 = some ((List.replicate 24 (-1) : List Int32)) := rfl
theorem hh_55 : im_ia hh 71 0 = some ((List.replicate 24 0 : List Int32)) := rfl
theorem hh_56 : im_ia hh 72 0 = some ((List.replicate 24 0 : List Int32)) := rfl
theorem hh_57 : im_ia hh 73 0 = some ((List.replicate 24 0 : List Int32)) := rfl
theorem hh_58 : im_ia hh 74 1 = some ((List.replicate 24 0 : List Int32)) := rfl
theorem hh_59 : im_ia hh 75 0 = some ((List.replicate 16 0 : List Int32)) := rfl
theorem hh_60 : im_ia hh 76 1 = some ((List.replicate 16 0 : List Int32)) := rfl
theorem hh_61 : im_ia hh 77 1 = some ((List.replicate 12 0 : List Int32)) := rfl
theorem hh_62 : im_ia hh 78 0 = some (([0, 0, 0, 0] : List Int32)) := rfl
theorem hh_63 : im_ia hh 79 0 = some (([0, 0, 0, 0] : List Int32)) := rfl
theorem hh_64 : im_ia hh 80 0 = some (([0, 0, 0] : List Int32)) := rfl
theorem hh_65 : im_obj hh 81 10 = some [.ref 82, .int 0, .int 0] := rfl
theorem hh_66 : im_ia hh 82 0 = some ((List.replicate 160 0 : List Int32)) := rfl
theorem hh_67 : im_qa hh 83 = some (5, [some 114, some 121, some 128, some 135, some 142, some 149]) := rfl
theorem hh_68 : im_obj hh 84 3 = some [.int 0, .ref 85, .ref 86, .ref 87] := rfl
theorem hh_69 : im_ia hh 85 0 = some (([0, 0, 0, 0, 0, 0] : List Int32)) := rfl
theorem hh_70 : im_ia hh 86 0 = some (([0, 0, 0, 0, 0, 0] : List Int32)) := rfl
theorem hh_71 : im_ia hh 87 0 = some (([0, 0, 0, 0, 0, 0] : List Int32)) := rfl
theorem hh_72 : im_obj hh 88 6 = some [.int 0, .ref 89, .ref 90, .ref 91, .ref 92, .int 0, .int 0, .int 0, .int 0] := rfl
theorem hh_73 : im_ia hh 89 0 = some ((List.replicate 12 0 : List Int32)) := rfl
theorem hh_74 : im_ia hh 90 0 = some ((List.replicate 12 0 : List Int32)) := rfl
theorem hh_75 : im_ia hh 91 0 = some ((List.replicate 12 0 : List Int32)) := rfl
theorem hh_76 : im_ia hh 92 0 = some ((List.replicate 12 0 : List Int32)) := rfl
theorem hh_77 : im_obj hh 93 4 = some [.int 0, .ref 94, .ref 103, .ref 104, .ref 105, .ref 106] := rfl
theorem hh_78 : im_qa hh 94 = some (7, [some 95, some 96, some 97, some 98, some 99, some 100, some 101, some 102]) := rfl
theorem hh_79 : im_ia hh 95 0 = some ((List.replicate 10 0 : List Int32)) := rfl
theorem hh_80 : im_ia hh 96 0 = some ((List.replicate 10 0 : List Int32)) := rfl
theorem hh_81 : im_ia hh 97 0 = some ((List.replicate 10 0 : List Int32)) := rfl
theorem hh_82 : im_ia hh 98 0 = some ((List.replicate 10 0 : List Int32)) := rfl
theorem hh_83 : im_ia hh 99 0 = some ((List.replicate 10 0 : List Int32)) := rfl
theorem hh_84 : im_ia hh 100 0 = some ((List.replicate 10 0 : List Int32)) := rfl
theorem hh_85 : im_ia hh 101 0 = some ((List.replicate 10 0 : List Int32)) := rfl
theorem hh_86 : im_ia hh 102 0 = some ((List.replicate 10 0 : List Int32)) := rfl
theorem hh_87 : im_ia hh 103 0 = some (([0, 0, 0, 0, 0, 0, 0, 0] : List Int32)) := rfl
theorem hh_88 : im_ia hh 104 0 = some (([0, 0, 0, 0, 0, 0, 0, 0] : List Int32)) := rfl
theorem hh_89 : im_ia hh 105 0 = some (([0, 0, 0, 0, 0, 0, 0, 0] : List Int32)) := rfl
theorem hh_90 : im_ia hh 106 1 = some ((List.replicate 100 0 : List Int32)) := rfl
theorem hh_91 : im_obj hh 107 2 = some [.int 0, .ref 108, .ref 109, .ref 110, .ref 111, .ref 112] := rfl
theorem hh_92 : im_ia hh 108 0 = some ((List.replicate 24 0 : List Int32)) := rfl
theorem hh_93 : im_ia hh 109 0 = some ((List.replicate 24 0 : List Int32)) := rfl
theorem hh_94 : im_ia hh 110 0 = some ((List.replicate 24 0 : List Int32)) := rfl
theorem hh_95 : im_ia hh 111 0 = some ((List.replicate 24 0 : List Int32)) := rfl
theorem hh_96 : im_ia hh 112 0 = some ((List.replicate 24 (-1) : List Int32)) := rfl
theorem hh_97 : im_qa hh 113 = some (6, [some 156, some 158, some 160, some 162]) := rfl
theorem hh_98 : im_obj hh 114 1 = some [.int 0, .ref 115, .ref 116, .ref 117, .ref 118, .ref 119, .ref 120] := rfl
theorem hh_99 : im_ia hh 115 0 = some (([0, 0, 0, 0, 0, 0, 0, 0] : List Int32)) := rfl
theorem hh_100 : im_ia hh 116 0 = some (([0, 0, 0, 0, 0, 0, 0, 0] : List Int32)) := rfl
theorem hh_101 : im_ia hh 117 0 = some (([0, 0, 0, 0, 0, 0, 0, 0] : List Int32)) := rfl
theorem hh_102 : im_ia hh 118 0 = some ((List.replicate 24 0 : List Int32)) := rfl
theorem hh_103 : im_ia hh 119 0 = some ((List.replicate 24 0 : List Int32)) := rfl
theorem hh_104 : im_ia hh 120 0 = some ((List.replicate 24 0 : List Int32)) := rfl
theorem hh_105 : im_obj hh 121 1 = some [.int 0, .ref 122, .ref 123, .ref 124, .ref 125, .ref 126, .ref 127] := rfl
theorem hh_106 : im_ia hh 122 0 = some (([0, 0, 0, 0, 0, 0, 0, 0] : List Int32)) := rfl
theorem hh_107 : im_ia hh 123 0 = some (([0, 0, 0, 0, 0, 0, 0, 0] : List Int32)) := rfl
theorem hh_108 : im_ia hh 124 0 = some (([0, 0, 0, 0, 0, 0, 0, 0] : List Int32)) := rfl
theorem hh_109 : im_ia hh 125 0 = some ((List.replicate 24 0 : List Int32)) := rfl
theorem hh_110 : im_ia hh 126 0 = some ((List.replicate 24 0 : List Int32)) := rfl
theorem hh_111 : im_ia hh 127 0 = some ((List.replicate 24 0 : List Int32)) := rfl
theorem hh_112 : im_obj hh 128 1 = some [.int 0, .ref 129, .ref 130, .ref 131, .ref 132, .ref 133, .ref 134] := rfl
theorem hh_113 : im_ia hh 129 0 = some (([0, 0, 0, 0, 0, 0, 0, 0] : List Int32)) := rfl
theorem hh_114 : im_ia hh 130 0 = some (([0, 0, 0, 0, 0, 0, 0, 0] : List Int32)) := rfl
theorem hh_115 : im_ia hh 131 0 = some (([0, 0, 0, 0, 0, 0, 0, 0] : List Int32)) := rfl
theorem hh_116 : im_ia hh 132 0 = some ((List.replicate 24 0 : List Int32)) := rfl
theorem hh_117 : im_ia hh 133 0 = some ((List.replicate 24 0 : List Int32)) := rfl
theorem hh_118 : im_ia hh 134 0 = some ((List.replicate 24 0 : List Int32)) := rfl
theorem hh_119 : im_obj hh 135 1 = some [.int 0, .ref 136, .ref 137, .ref 138, .ref 139, .ref 140, .ref 141] := rfl
theorem hh_120 : im_ia hh 136 0 = some (([0, 0, 0, 0, 0, 0, 0, 0] : List Int32)) := rfl
theorem hh_121 : im_ia hh 137 0 = some (([0, 0, 0, 0, 0, 0, 0, 0] : List Int32)) := rfl
theorem hh_122 : im_ia hh 138 0 = some (([0, 0, 0, 0, 0, 0, 0, 0] : List Int32)) := rfl
theorem hh_123 : im_ia hh 139 0 = some ((List.replicate 24 0 : List Int32)) := rfl
theorem hh_124 : im_ia hh 140 0 = some ((List.replicate 24 0 : List Int32)) := rfl
theorem hh_125 : im_ia hh 141 0 = some ((List.replicate 24 0 : List Int32)) := rfl
theorem hh_126 : im_obj hh 142 1 = some [.int 0, .ref 143, .ref 144, .ref 145, .ref 146, .ref 147, .ref 148] := rfl
theorem hh_127 : im_ia hh 143 0 = some (([0, 0, 0, 0, 0, 0, 0, 0] : List Int32)) := rfl
theorem hh_128 : im_ia hh 144 0 = some (([0, 0, 0, 0, 0, 0, 0, 0] : List Int32)) := rfl
theorem hh_129 : im_ia hh 145 0 = some (([0, 0, 0, 0, 0, 0, 0, 0] : List Int32)) := rfl
theorem hh_130 : im_ia hh 146 0 = some ((List.replicate 24 0 : List Int32)) := rfl
theorem hh_131 : im_ia hh 147 0 = some ((List.replicate 24 0 : List Int32)) := rfl
theorem hh_132 : im_ia hh 148 0 = some ((List.replicate 24 0 : List Int32)) := rfl
theorem hh_133 : im_obj hh 149 1 = some [.int 0, .ref 150, .ref 151, .ref 152, .ref 153, .ref 154, .ref 155] := rfl
theorem hh_134 : im_ia hh 150 0 = some (([0, 0, 0, 0, 0, 0, 0, 0] : List Int32)) := rfl
theorem hh_135 : im_ia hh 151 0 = some (([0, 0, 0, 0, 0, 0, 0, 0] : List Int32)) := rfl
theorem hh_136 : im_ia hh 152 0 = some (([0, 0, 0, 0, 0, 0, 0, 0] : List Int32)) := rfl
theorem hh_137 : im_ia hh 153 0 = some ((List.replicate 24 0 : List Int32)) := rfl
theorem hh_138 : im_ia hh 154 0 = some ((List.replicate 24 0 : List Int32)) := rfl
theorem hh_139 : im_ia hh 155 0 = some ((List.replicate 24 0 : List Int32)) := rfl
theorem hh_140 : im_obj hh 156 8 = some [.int (-1), .int 0, .ref 157] := rfl
theorem hh_141 : im_ia hh 157 0 = some ((List.replicate 40 0 : List Int32)) := rfl
theorem hh_142 : im_obj hh 158 8 = some [.int (-1), .int 0, .ref 159] := rfl
theorem hh_143 : im_ia hh 159 0 = some ((List.replicate 40 0 : List Int32)) := rfl
theorem hh_144 : im_obj hh 160 8 = some [.int (-1), .int 0, .ref 161] := rfl
theorem hh_145 : im_ia hh 161 0 = some ((List.replicate 40 0 : List Int32)) := rfl
theorem hh_146 : im_obj hh 162 8 = some [.int (-1), .int 0, .ref 163] := rfl
theorem hh_147 : im_ia hh 163 0 = some ((List.replicate 40 0 : List Int32)) := rfl
theorem hh_148 : im_obj hh 164 12 = some [.ref 165, .ref 166, .ref 167, .int 0, .ref 168, .ref 169, .ref 170, .ref 171, .ref 172, .int (-1), .int 0, .ref 173, .ref 174, .ref 175, .ref 176, .ref 177, .ref 178, .ref 179, .ref 180, .ref 181, .ref 182, .int 0, .ref 183, .ref 184, .int 0, .ref 185, .ref 186, .ref 187, .ref 188, .int 0, .ref 189, .ref 190, .ref 191, .ref 192, .ref 193, .int 0, .ref 194, .ref 195, .ref 196, .ref 197, .ref 198, .int 0, .ref 199, .int 0, .ref 200, .int 0, .int 0, .int (-1), .ref 201, .ref 202, .ref 203, .ref 204, .ref 205, .ref 206, .ref 207, .ref 208, .ref 209, .ref 210, .ref 211, .ref 212, .int 0, .int 0, .int 0, .ref 213, .ref 214, .ref 215] := rfl
theorem hh_149 : im_ia hh 165 0 = some (((List.replicate 140 0 ++ (List.replicate 24 (-1) ++ (List.replicate 119 0))) : List Int32)) := rfl
theorem hh_150 : im_ia hh 166 0 = some ((List.replicate 283 0 : List Int32)) := rfl
theorem hh_151 : im_ia hh 167 0 = some ((List.replicate 283 0 : List Int32)) := rfl
theorem hh_152 : im_ia hh 168 0 = some ((List.replicate 100 (-1) : List Int32)) := rfl
theorem hh_153 : im_ia hh 169 0 = some (([20, 35, 20, 70, 10, 5] : List Int32)) := rfl
theorem hh_154 : im_ia hh 170 0 = some (([1, 4, 1, 4, 7, 4] : List Int32)) := rfl
theorem hh_155 : im_ia hh 171 0 = some (([0, 0, 5, 0, 5, 0] : List Int32)) := rfl
theorem hh_156 : im_ia hh 172 0 = some (([3, 3, 2, 7, 2, 6] : List Int32)) := rfl
theorem hh_157 : im_ia hh 173 0 = some ((List.replicate 24 0 : List Int32)) := rfl
theorem hh_158 : im_ia hh 174 0 = some ((List.replicate 24 0 : List Int32)) := rfl
theorem hh_159 : im_ia hh 175 0 = some ((List.replicate 24 0 : List Int32)) := rfl
theorem hh_160 : im_ia hh 176 0 = some ((List.replicate 32 0 : List Int32)) := rfl
theorem hh_161 : im_ia hh 177 0 = some (([0, 0, 0, 0] : List Int32)) := rfl
theorem hh_162 : im_ia hh 178 0 = some (([0, 0, 0, 0] : List Int32)) := rfl
theorem hh_163 : im_ia hh 179 0 = some (([0, 0, 0, 0] : List Int32)) := rfl
theorem hh_164 : im_ia hh 180 0 = some ((List.replicate 36 0 : List Int32)) := rfl
theorem hh_165 : im_ia hh 181 0 = some (([0, 0, 0] : List Int32)) := rfl
theorem hh_166 : im_ia hh 182 0 = some (([0, 0, 0] : List Int32)) := rfl
theorem hh_167 : im_ia hh 183 0 = some ((List.replicate 16 0 : List Int32)) := rfl
theorem hh_168 : im_ia hh 184 0 = some ((List.replicate 16 0 : List Int32)) := rfl
theorem hh_169 : im_ia hh 185 0 = some ((List.replicate 12 0 : List Int32)) := rfl
theorem hh_170 : im_ia hh 186 0 = some ((List.replicate 12 0 : List Int32)) := rfl
theorem hh_171 : im_ia hh 187 0 = some ((List.replicate 12 0 : List Int32)) := rfl
theorem hh_172 : im_ia hh 188 0 = some ((List.replicate 12 0 : List Int32)) := rfl
theorem hh_173 : im_ia hh 189 0 = some (([0, 0, 0, 0, 0, 0, 0, 0] : List Int32)) := rfl
theorem hh_174 : im_ia hh 190 0 = some (([0, 0, 0, 0, 0, 0, 0, 0] : List Int32)) := rfl
theorem hh_175 : im_ia hh 191 0 = some (([0, 0, 0, 0, 0, 0, 0, 0] : List Int32)) := rfl
theorem hh_176 : im_ia hh 192 0 = some (([0, 0, 0, 0, 0, 0, 0, 0] : List Int32)) := rfl
theorem hh_177 : im_ia hh 193 1 = some ((List.replicate 100 0 : List Int32)) := rfl
theorem hh_178 : im_ia hh 194 0 = some ((List.replicate 24 0 : List Int32)) := rfl
theorem hh_179 : im_ia hh 195 0 = some ((List.replicate 24 0 : List Int32)) := rfl
theorem hh_180 : im_ia hh 196 0 = some ((List.replicate 24 0 : List Int32)) := rfl
theorem hh_181 : im_ia hh 197 0 = some ((List.replicate 24 0 : List Int32)) := rfl
theorem hh_182 : im_ia hh 198 0 = some ((List.replicate 24 (-1) : List Int32)) := rfl
theorem hh_183 : im_ia hh 199 0 = some (([0, 0, 0, 0, 0, 0] : List Int32)) := rfl
theorem hh_184 : im_ia hh 200 0 = some ((List.replicate 160 0 : List Int32)) := rfl
theorem hh_185 : im_ia hh 201 0 = some (([0, 0, 0, 0, 0, 0] : List Int32)) := rfl
theorem hh_186 : im_ia hh 202 0 = some ((List.replicate 48 0 : List Int32)) := rfl
theorem hh_187 : im_ia hh 203 0 = some ((List.replicate 48 0 : List Int32)) := rfl
theorem hh_188 : im_ia hh 204 0 = some ((List.replicate 48 0 : List Int32)) := rfl
theorem hh_189 : im_ia hh 205 0 = some ((List.replicate 144 0 : List Int32)) := rfl
theorem hh_190 : im_ia hh 206 0 = some ((List.replicate 144 0 : List Int32)) := rfl
theorem hh_191 : im_ia hh 207 0 = some ((List.replicate 144 0 : List Int32)) := rfl
theorem hh_192 : im_ia hh 208 0 = some (([(-1), (-1), (-1), (-1)] : List Int32)) := rfl
theorem hh_193 : im_ia hh 209 0 = some (([0, 0, 0, 0] : List Int32)) := rfl
theorem hh_194 : im_ia hh 210 0 = some ((List.replicate 160 0 : List Int32)) := rfl
theorem hh_196 : im_ia hh 212 0 = some (([4, 4, 4, 6, 3, 3, 4, 3, 4, 3, 6, 4] : List Int32)) := rfl
theorem hh_197 : im_ia hh 213 0 = some ((List.replicate 16 0 : List Int32)) := rfl
theorem hh_198 : im_ia hh 214 0 = some ((List.replicate 16 0 : List Int32)) := rfl
theorem hh_199 : im_ia hh 215 0 = some (([0, 0, 0, 0, 0, 0] : List Int32)) := rfl
end
section
def im_dA : DecidableEq im_A := inferInstance
def im_dE : DecidableEq im_E := haveI : DecidableEq im_A := im_dA; inferInstance
def im_dH : DecidableEq im_H := haveI : DecidableEq im_E := im_dE; inferInstance
def im_dR : DecidableEq (Option (Option Value × im_H)) := haveI : DecidableEq im_H := im_dH; inferInstance
def im_eqb (a b : Option (Option Value × im_H)) : Bool := @decide (a = b) (im_dR a b)
theorem im_eqb_eq {a b : Option (Option Value × im_H)} (h : im_eqb a b = true) : a = b := @of_decide_eq_true (a = b) (im_dR a b) h
/-! THE CONSTRUCTORS, run -/
theorem init_X : im_call im_K0 im_ms 8 3121 60 [.ref 16] [.inr (11, (im_fty.getD 11 []).map defaultValue)] = some (none, hX) := im_eqb_eq (by decide +kernel)
theorem init_M : im_call im_K0 im_ms 8 20000 116 [.ref 164] (hX ++ [.inr (12, (im_fty.getD 12 []).map defaultValue)]) = some (none, hh) := im_eqb_eq (by decide +kernel)
end
section
theorem i32_addE {x y : Int32} {b : Int} (hy : y.toInt = b) (h1 : -2147483648 ≤ x.toInt + b) (h2 : x.toInt + b ≤ 2147483647) : (x + y).toInt = x.toInt + b := by
  rw [Int32.toInt_add, hy, Int.bmod_def]
  omega
theorem i32_subE {x y : Int32} {b : Int} (hy : y.toInt = b) (h1 : -2147483648 ≤ x.toInt - b) (h2 : x.toInt - b ≤ 2147483647) : (x - y).toInt = x.toInt - b := by
  rw [Int32.toInt_sub, hy, Int.bmod_def]
  omega
theorem i32_div10 {x : Int32} (h : 0 ≤ x.toInt) : (x / 10).toInt = x.toInt / 10 := by
  have hm : x.toInt < 2147483648 := Int32.toInt_lt x
  rw [Int32.toInt_div, show Int32.toInt 10 = 10 from rfl, Int.tdiv_eq_ediv_of_nonneg h, Int.bmod_def]
  omega
theorem i32_div7 {x : Int32} (h : 0 ≤ x.toInt) : (x / 7).toInt = x.toInt / 7 := by
  have hm : x.toInt < 2147483648 := Int32.toInt_lt x
  rw [Int32.toInt_div, show Int32.toInt 7 = 7 from rfl, Int.tdiv_eq_ediv_of_nonneg h, Int.bmod_def]
  omega
theorem i32_rem10 {x : Int32} (h : 0 ≤ x.toInt) : (x - x / 10 * 10).toInt = x.toInt % 10 := by
  have hm : x.toInt < 2147483648 := Int32.toInt_lt x
  have e := i32_div10 h
  rw [Int32.toInt_sub, Int32.toInt_mul, e, show Int32.toInt 10 = 10 from rfl, Int.bmod_def, Int.bmod_def]
  omega
theorem i32_rem7 {x : Int32} (h : 0 ≤ x.toInt) : (x - x / 7 * 7).toInt = x.toInt % 7 := by
  have hm : x.toInt < 2147483648 := Int32.toInt_lt x
  have e := i32_div7 h
  rw [Int32.toInt_sub, Int32.toInt_mul, e, show Int32.toInt 7 = 7 from rfl, Int.bmod_def, Int.bmod_def]
  omega
theorem ll_set {l : List Int32} {n i : Nat} {x : Int32} (h : l.length = n) : (l.set i x).length = n := by rw [List.length_set]; exact h
theorem ob_fr {g h : im_H} {i c : Nat} {fs : List Value} (e : g[i]? = h[i]?) (f : im_obj h (16 + i) c = some fs) : im_obj g (16 + i) c = some fs := by
  unfold im_obj at f ⊢
  rw [show 16 + i - 16 = i by omega] at f ⊢
  rw [e]; exact f
theorem ia_fr {g h : im_H} {i c : Nat} {l : List Int32} (e : g[i]? = h[i]?) (f : im_ia h (16 + i) c = some l) : im_ia g (16 + i) c = some l := by
  unfold im_ia at f ⊢
  rw [show 16 + i - 16 = i by omega] at f ⊢
  rw [e]; exact f
theorem qa_fr {g h : im_H} {i : Nat} {q : Nat × List (Option Nat)} (e : g[i]? = h[i]?) (f : im_qa h (16 + i) = some q) : im_qa g (16 + i) = some q := by
  unfold im_qa at f ⊢
  rw [show 16 + i - 16 = i by omega] at f ⊢
  rw [e]; exact f
end
section
/-! SHAPES: what makes no cell keeps each cell's kind, class and length -/
def im_sh (e : im_E) : Nat × Nat × Nat := match e with
  | .inl (t, .inl l) => (0, t, l.length)
  | .inl (t, .inr (.inl l)) => (1, t, l.length)
  | .inl (t, .inr (.inr l)) => (2, t, l.length)
  | .inr (c, fs) => (3, c, fs.length)
def im_shs (h : im_H) : List (Nat × Nat × Nat) := h.map im_sh
theorem im_sl1_sh (e : im_E) : im_sl1 e = (im_sh e).2.2 := by
  rcases e with ⟨t, l | l | l⟩ | ⟨c, fs⟩ <;> rfl
theorem im_sl_sh (h : im_H) : im_sl h = ((im_shs h).map (fun q => q.2.2)).sum := by
  unfold im_sl im_shs
  rw [List.map_map]
  congr 1
  exact List.map_congr_left fun e _ => im_sl1_sh e
theorem im_shs_len {h h2 : im_H} (e : im_shs h2 = im_shs h) : h2.length = h.length := by
  have := congrArg List.length e
  simpa [im_shs] using this
theorem im_shs_sl {h h2 : im_H} (e : im_shs h2 = im_shs h) : im_sl h2 = im_sl h := by rw [im_sl_sh, im_sl_sh, e]
theorem sh_set {h : im_H} {i : Nat} {x y : im_E} (hx : h[i]? = some x) (e : im_sh y = im_sh x) : im_shs (h.set i y) = im_shs h := by
  unfold im_shs
  apply List.ext_getElem?
  intro j
  rw [List.getElem?_map, List.getElem?_map]
  by_cases hj : i = j
  · subst hj
    have hl : i < h.length := (List.getElem?_eq_some_iff.mp hx).1
    rw [List.getElem?_set_self hl, hx]
    simp [e]
  · rw [List.getElem?_set_ne hj]
theorem sh_obj {h : im_H} {i c n : Nat} (e : (im_shs h)[i]? = some (3, c, n)) : ∃ fs, im_obj h (16 + i) c = some fs ∧ fs.length = n := by
  unfold im_shs at e
  rw [List.getElem?_map] at e
  cases hx : h[i]? with
  | none => rw [hx] at e; cases e
  | some x =>
    rw [hx] at e
    rcases x with ⟨t, l | l | l⟩ | ⟨c2, fs⟩
    · simp [im_sh] at e
    · simp [im_sh] at e
    · simp [im_sh] at e
    · simp [im_sh] at e
      refine ⟨fs, ?_, e.2⟩
      unfold im_obj
      rw [if_pos (by omega), show 16 + i - 16 = i by omega, hx]
      simp [e.1]
theorem sh_ia {h : im_H} {i t n : Nat} (e : (im_shs h)[i]? = some (0, t, n)) : ∃ l, im_ia h (16 + i) t = some l ∧ l.length = n := by
  unfold im_shs at e
  rw [List.getElem?_map] at e
  cases hx : h[i]? with
  | none => rw [hx] at e; cases e
  | some x =>
    rw [hx] at e
    rcases x with ⟨t2, l | l | l⟩ | ⟨c2, fs⟩
    · simp [im_sh] at e
      refine ⟨l, ?_, e.2⟩
      unfold im_ia
      rw [if_pos (by omega), show 16 + i - 16 = i by omega, hx]
      simp [e.1]
    · simp [im_sh] at e
    · simp [im_sh] at e
    · simp [im_sh] at e
def im_SX (h : im_H) (o : Option im_O) : Prop := ∀ c2, o = some (.inl c2) → im_shs c2.2.2.2 = im_shs h
theorem sx_none {h : im_H} : im_SX h none := fun _ q => by cases q
theorem sx_inr {h : im_H} {y : (Nat × List Value × List Value) ⊕ Option Value} : im_SX h (some (.inr y)) := fun _ q => by cases q
theorem sx_nx {h : im_H} {pc : Nat} {lv : im_L} {st : List Value} : im_SX h (im_nx pc lv st h) := fun c2 q => by cases im_nx_eq q; rfl
theorem sx_bind {α : Type} {h : im_H} {o : Option α} {f : α → Option im_O} (k : ∀ a, o = some a → im_SX h (f a)) : im_SX h (o.bind f) := fun c2 q => by
  obtain ⟨a, h1, h2⟩ := im_bd q
  exact k a h1 c2 h2
theorem sx_ite {h : im_H} {c : Prop} {d : Decidable c} {x y : Option im_O} (k1 : c → im_SX h x) (k2 : ¬ c → im_SX h y) : im_SX h (@ite _ c d x y) := by
  by_cases hc : c
  · rw [if_pos hc]; exact k1 hc
  · rw [if_neg hc]; exact k2 hc
theorem sx_set {h : im_H} {pc : Nat} {lv : im_L} {st : List Value} {i : Nat} {x y : im_E} (hx : h[i]? = some x) (e : im_sh y = im_sh x) : im_SX h (im_nx pc lv st (h.set i y)) := fun c2 q => by
  cases im_nx_eq q
  exact sh_set hx e
def im_al (i : Instr) : Bool := match i with
  | .new _ | .newarray _ | .anewarray _ | .multianewarray _ _ => true
  | _ => false
theorem im_shp {K : im_K} {M : im_M} {i : Instr} {a b w z pc : Nat} {lv : im_L} {st : List Value} {h : im_H} (hal : im_al i = false) : im_SX h (im_ins K M i a b w z pc lv st h) := by
  cases i
  case putfield idx =>
    refine sx_bind fun v _ => sx_bind fun q _ => sx_bind fun fs h3 => sx_bind fun tys _ => sx_bind fun ty _ => sx_ite (fun _ => ?_) (fun _ => sx_none)
    obtain ⟨i, hi, hc⟩ := im_obj_eq h3
    rw [show q.1 - 16 = i by omega]
    exact sx_set hc (by simp [im_sh])
  case iastore =>
    refine sx_bind fun v _ => sx_bind fun q _ => sx_bind fun r _ => sx_bind fun l0 h3 => sx_ite (fun _ => ?_) (fun _ => sx_none)
    obtain ⟨i, hi, hc⟩ := im_ia_eq h3
    rw [show r.1 - 16 = i by omega]
    exact sx_set hc (by simp [im_sh])
  case bastore =>
    refine sx_bind fun v _ => sx_bind fun q _ => sx_bind fun r _ => sx_bind fun l0 h3 => sx_ite (fun _ => ?_) (fun _ => sx_none)
    obtain ⟨i, hi, hc⟩ := im_ia_eq h3
    rw [show r.1 - 16 = i by omega]
    exact sx_set hc (by simp [im_sh])
  case lastore =>
    refine sx_bind fun v _ => sx_bind fun q _ => sx_bind fun r _ => sx_bind fun l0 h3 => sx_ite (fun _ => ?_) (fun _ => sx_none)
    obtain ⟨i, hi, hc⟩ := im_la_eq h3
    rw [show r.1 - 16 = i by omega]
    exact sx_set hc (by simp [im_sh])
  case aastore =>
    refine sx_bind fun v _ => sx_bind fun q _ => sx_bind fun r _ => sx_bind fun l0 h3 => sx_bind fun _ _ => sx_ite (fun _ => ?_) (fun _ => sx_none)
    obtain ⟨i, hi, hc⟩ := im_qa_eq h3
    rw [show r.1 - 16 = i by omega]
    exact sx_set hc (by simp [im_sh])
  case new idx => cases hal
  case newarray t => cases hal
  case anewarray idx => cases hal
  case multianewarray idx n => cases hal
  case invokestatic idx =>
    show im_SX h (match b with
      | 0 => (im_take w st).bind fun q => if im_cat q.2 then some (.inr (.inl (a, q.1, q.2))) else none
      | 3 => im_copy pc lv st h z
      | 5 => (im_1i st).bind fun q => (im_1i q.2).bind fun u => if im_cat u.2 then im_nx (pc + 3) lv (.int (if u.1 < q.1 then q.1 else u.1) :: u.2) h else none
      | 6 => (im_1i st).bind fun q => (im_1i q.2).bind fun u => if im_cat u.2 then im_nx (pc + 3) lv (.int (if q.1 < u.1 then q.1 else u.1) :: u.2) h else none
      | _ => none)
    split
    · exact sx_bind fun _ _ => sx_ite (fun _ => sx_inr) (fun _ => sx_none)
    · refine sx_bind fun n _ => sx_bind fun dp _ => sx_bind fun d _ => sx_bind fun sp _ => sx_bind fun s0 _ => sx_bind fun l0 h6 => sx_bind fun l1 h7 => sx_ite (fun h8 => ?_) (fun _ => sx_none)
      simp only [Bool.and_eq_true, Bool.not_eq_true', decide_eq_false_iff_not, decide_eq_true_eq, Bool.or_eq_true, beq_iff_eq] at h8
      obtain ⟨⟨⟨⟨⟨⟨g1, g2⟩, g3⟩, g4⟩, g5⟩, g6⟩, g7⟩ := h8
      obtain ⟨j, hj, hd⟩ := im_ia_eq h7
      rw [show d.1 - 16 = j by omega]
      exact sx_set hd (by simp [im_sh, im_cpy_len l0 l1 _ _ _ g4 g5])
    · exact sx_bind fun _ _ => sx_bind fun _ _ => sx_ite (fun _ => sx_nx) (fun _ => sx_none)
    · exact sx_bind fun _ _ => sx_bind fun _ _ => sx_ite (fun _ => sx_nx) (fun _ => sx_none)
    · exact sx_none
  case invokespecial idx =>
    show im_SX h (match b with
      | 0 => (im_take w st).bind fun q => (im_1r q.2).bind fun r => if im_cat r.2 then some (.inr (.inl (a, .ref r.1 :: q.1, r.2))) else none
      | 4 => (im_1r st).bind fun r => if im_cat r.2 then im_nx (pc + 3) lv r.2 h else none
      | _ => none)
    split
    · exact sx_bind fun _ _ => sx_bind fun _ _ => sx_ite (fun _ => sx_inr) (fun _ => sx_none)
    · exact sx_bind fun _ _ => sx_ite (fun _ => sx_nx) (fun _ => sx_none)
    · exact sx_none
  case invokevirtual idx =>
    show im_SX h (match b with
      | 0 => (im_take w st).bind fun q => (im_1r q.2).bind fun r => (im_obj h r.1 z).bind fun _ => if im_cat r.2 then some (.inr (.inl (a, .ref r.1 :: q.1, r.2))) else none
      | 1 => (im_1r st).bind fun r => if 6 ≤ r.1 ∧ im_cat r.2 then (K.2.2.2[r.1 - 6]?).bind fun l => im_nx (pc + 3) lv (.int (Int32.ofNat l.length) :: r.2) h else none
      | 2 => (im_1i st).bind fun q => (im_1r q.2).bind fun r => if 6 ≤ r.1 ∧ im_cat r.2 then (K.2.2.2[r.1 - 6]?).bind fun l => if im_in q.1 l.length then im_nx (pc + 3) lv (.int (l.getD q.1.toNatClampNeg 0) :: r.2) h else none else none
      | _ => none)
    split
    · exact sx_bind fun _ _ => sx_bind fun _ _ => sx_bind fun _ _ => sx_ite (fun _ => sx_inr) (fun _ => sx_none)
    · exact sx_bind fun _ _ => sx_ite (fun _ => sx_bind fun _ _ => sx_nx) (fun _ => sx_none)
    · exact sx_bind fun _ _ => sx_bind fun _ _ => sx_ite (fun _ => sx_bind fun _ _ => sx_ite (fun _ => sx_nx) (fun _ => sx_none)) (fun _ => sx_none)
    · exact sx_none
  case ireturn =>
    refine sx_bind fun q _ => ?_
    split
    · exact sx_inr
    · exact sx_ite (fun _ => sx_inr) (fun _ => sx_none)
    · exact sx_none
  case lreturn =>
    refine sx_bind fun q _ => ?_
    split
    · exact sx_inr
    · exact sx_none
  case return_ =>
    show im_SX h (match M.2.2.2.1, st with
      | none, [] => some (.inr (.inr none))
      | _, _ => none)
    split
    · exact sx_inr
    · exact sx_none
  case ifnonnull off =>
    show im_SX h (match st with
      | .ref _ :: r => im_nx a lv r h
      | .null :: r => im_nx (pc + 3) lv r h
      | _ => none)
    split
    · exact sx_nx
    · exact sx_nx
    · exact sx_none
  all_goals first
    | exact sx_none
    | exact sx_nx
    | exact sx_bind fun _ _ => sx_nx
    | exact sx_ite (fun _ => sx_nx) (fun _ => sx_none)
    | exact sx_bind fun _ _ => sx_ite (fun _ => sx_nx) (fun _ => sx_none)
    | exact sx_bind fun _ _ => sx_bind fun _ _ => sx_nx
    | exact sx_bind fun _ _ => sx_bind fun _ _ => sx_bind fun _ _ => sx_nx
    | exact sx_bind fun _ _ => sx_bind fun _ _ => sx_ite (fun _ => sx_nx) (fun _ => sx_none)
    | exact sx_bind fun _ _ => sx_bind fun _ _ => sx_bind fun _ _ => sx_ite (fun _ => sx_nx) (fun _ => sx_none)
    | exact sx_bind fun _ _ => sx_ite (fun _ => sx_ite (fun _ => sx_nx) (fun _ => sx_none)) (fun _ => sx_bind fun _ _ => sx_ite (fun _ => sx_nx) (fun _ => sx_none))
/-- a call goes to the method that its row names -/
theorem ins_call {K : im_K} {M : im_M} {i : Instr} {a b w z pc : Nat} {lv : im_L} {st : List Value} {h : im_H} {q : Nat × List Value × List Value} (hs : im_ins K M i a b w z pc lv st h = some (.inr (.inl q))) : (q.1 = a ∧ b = 0) ∧ ((∃ x, i = .invokestatic x) ∨ (∃ x, i = .invokespecial x) ∨ (∃ x, i = .invokevirtual x)) := by
  by_cases hi : im_isC i = false
  · exact absurd hs (im_nxs hi _)
  cases i
  case ireturn =>
    obtain ⟨u, h1, hs1⟩ := im_bd hs
    split at hs1
    · cases hs1
    · obtain ⟨_, hs2⟩ := im_ite _ hs1
      cases hs2
    · cases hs1
  case lreturn =>
    obtain ⟨u, h1, hs1⟩ := im_bd hs
    split at hs1
    · cases hs1
    · cases hs1
  case return_ =>
    have hs : (match M.2.2.2.1, st with
      | none, [] => (some (.inr (.inr none)) : Option im_O)
      | _, _ => none) = some (Sum.inr (Sum.inl q)) := hs
    split at hs
    · cases hs
    · cases hs
  case invokestatic idx =>
    refine ⟨?_, Or.inl ⟨_, rfl⟩⟩
    rcases b with _ | _ | _ | _ | _ | _ | _ | b
    · obtain ⟨_, _, hs⟩ := im_bd hs
      obtain ⟨_, hs⟩ := im_ite _ hs
      cases hs; exact ⟨rfl, rfl⟩
    · cases hs
    · cases hs
    · have hs : im_copy pc lv st h z = some (.inr (.inl q)) := hs
      obtain ⟨_, _, hs⟩ := im_bd hs
      obtain ⟨_, _, hs⟩ := im_bd hs
      obtain ⟨_, _, hs⟩ := im_bd hs
      obtain ⟨_, _, hs⟩ := im_bd hs
      obtain ⟨_, _, hs⟩ := im_bd hs
      obtain ⟨_, _, hs⟩ := im_bd hs
      obtain ⟨_, _, hs⟩ := im_bd hs
      obtain ⟨_, hs⟩ := im_ite _ hs
      exact absurd hs (nx_nx _)
    · cases hs
    · obtain ⟨_, _, hs⟩ := im_bd hs
      obtain ⟨_, _, hs⟩ := im_bd hs
      obtain ⟨_, hs⟩ := im_ite _ hs
      exact absurd hs (nx_nx _)
    · obtain ⟨_, _, hs⟩ := im_bd hs
      obtain ⟨_, _, hs⟩ := im_bd hs
      obtain ⟨_, hs⟩ := im_ite _ hs
      exact absurd hs (nx_nx _)
    · cases hs
  case invokespecial idx =>
    refine ⟨?_, Or.inr (Or.inl ⟨_, rfl⟩)⟩
    rcases b with _ | _ | _ | _ | _ | b
    · obtain ⟨_, _, hs⟩ := im_bd hs
      obtain ⟨_, _, hs⟩ := im_bd hs
      obtain ⟨_, hs⟩ := im_ite _ hs
      cases hs; exact ⟨rfl, rfl⟩
    · cases hs
    · cases hs
    · cases hs
    · obtain ⟨r, h3, hs⟩ := im_bd hs
      obtain ⟨_, hs⟩ := im_ite _ hs
      exact absurd hs (nx_nx _)
    · cases hs
  case invokevirtual idx =>
    refine ⟨?_, Or.inr (Or.inr ⟨_, rfl⟩)⟩
    rcases b with _ | _ | _ | b
    · obtain ⟨_, _, hs⟩ := im_bd hs
      obtain ⟨_, _, hs⟩ := im_bd hs
      obtain ⟨_, _, hs⟩ := im_bd hs
      obtain ⟨_, hs⟩ := im_ite _ hs
      cases hs; exact ⟨rfl, rfl⟩
    · obtain ⟨r, h3, hs⟩ := im_bd hs
      obtain ⟨_, hs⟩ := im_ite _ hs
      obtain ⟨_, _, hs⟩ := im_bd hs
      exact absurd hs (nx_nx _)
    · obtain ⟨r, h3, hs⟩ := im_bd hs
      obtain ⟨_, _, hs⟩ := im_bd hs
      obtain ⟨_, hs⟩ := im_ite _ hs
      obtain ⟨_, _, hs⟩ := im_bd hs
      obtain ⟨_, hs⟩ := im_ite _ hs
      exact absurd hs (nx_nx _)
    · cases hs
  all_goals exact absurd rfl hi
def im_bad (j : Nat) : Bool := [0, 17, 19, 22, 28, 35, 36, 39, 40, 45, 50, 60, 116].contains j
def im_naI (q : im_I) : Bool := match q.1 with
  | .new _ | .newarray _ | .anewarray _ | .multianewarray _ _ | .invokespecial _ => false
  | .invokestatic _ | .invokevirtual _ => !(im_bad (q.2.getD 0 0)) || !(q.2.getD 1 0 == 0)
  | _ => true
def im_naM (M : im_M) : Bool := M.2.2.2.2.2.2.2.2.all (fun l => l.all (fun q => im_naI q.2))
theorem na_at {M : im_M} {pc : Nat} {q : im_I} (h : im_naM M = true) (ha : im_at M pc = some q) : im_naI q = true := by
  unfold im_at at ha
  split at ha
  · cases ha
  · rename_i l hl
    obtain ⟨u, h1, rfl⟩ := Option.map_eq_some_iff.mp ha
    exact List.all_eq_true.mp (List.all_eq_true.mp h l (List.mem_of_getElem? hl)) u (List.mem_of_find?_eq_some h1)
theorem na_al {q : im_I} (h : im_naI q = true) : im_al q.1 = false := by
  obtain ⟨i, l⟩ := q
  cases i <;> first | rfl | cases h
theorem na_run {K : im_K} {M : im_M} {call : Nat → List Value → im_H → Option (Option Value × im_H)} (hM : im_naM M = true) (hc : ∀ j as h r, im_bad j = false → call j as h = some r → im_shs r.2 = im_shs h) : ∀ (n : Nat) (c : im_C) (r : Option Value × im_H), im_run K M call n c = some r → im_shs r.2 = im_shs c.2.2.2 := by
  intro n
  induction n with
  | zero => intro c r h; cases h
  | succ n ih =>
    intro c r h
    obtain ⟨pc, lv, st, hp⟩ := c
    simp only [im_run] at h
    cases hs : im_step K M (pc, lv, st, hp) with
    | none => rw [hs] at h; cases h
    | some o =>
      rw [hs] at h
      have hs0 := hs
      unfold im_step at hs0
      cases hq : im_at M pc with
      | none => simp only [hq] at hs0; cases hs0
      | some q =>
        simp only [hq] at hs0
        have hna := na_at hM hq
        cases o with
        | inl c2 => rw [ih c2 r h]; exact im_shp (na_al hna) c2 hs0
        | inr y =>
          cases y with
          | inl u =>
            simp only at h
            cases hu : call u.1 u.2.1 hp with
            | none => rw [hu] at h; cases h
            | some v =>
              rw [hu] at h
              obtain ⟨⟨e1, e3⟩, e2⟩ := ins_call hs0
              have hb : im_bad u.1 = false := by
                rw [e1]
                obtain ⟨i, l⟩ := q
                simp only at e2
                simp only at e3
                rcases e2 with ⟨x, rfl⟩ | ⟨x, rfl⟩ | ⟨x, rfl⟩
                · simp only [im_naI, e3] at hna
                  simpa using hna
                · simp [im_naI] at hna
                · simp only [im_naI, e3] at hna
                  simpa using hna
              rw [ih _ r h]
              exact hc _ _ _ _ hb hu
          | inr v =>
            simp only [Option.some.injEq] at h
            rw [← h]
theorem na_all : (List.range 198).all (fun j => im_bad j || match im_ms[j]? with
  | some M => im_naM M
  | none => false) = true := by decide +kernel
theorem na_call : ∀ (d f j : Nat) (as : List Value) (h : im_H) (r : Option Value × im_H), im_bad j = false → im_call im_K0 im_ms d f j as h = some r → im_shs r.2 = im_shs h := by
  intro d
  induction d with
  | zero => intro f j as h r _ hr; cases hr
  | succ d ih =>
    intro f j as h r hb hr
    simp only [im_call] at hr
    cases hj : im_ms[j]? with
    | none => rw [hj] at hr; cases hr
    | some M =>
      rw [hj] at hr
      obtain ⟨hl, hr⟩ := im_ite _ hr
      have hlt : j < 198 := (List.getElem?_eq_some_iff.mp hj).1
      have h1 := List.all_eq_true.mp na_all j (List.mem_range.mpr hlt)
      rw [hb, hj] at h1
      exact na_run (by simpa using h1) (fun j as h r hb hc => ih f j as h r hb hc) f _ r hr
theorem ca_sh {d j : Nat} {as : List Value} {h : im_H} {r : Option Value × im_H} (hb : im_bad j = false) (hc : Ca d j as h r) : im_shs r.2 = im_shs h := by
  obtain ⟨f0, h0⟩ := hc
  exact na_call d f0 j as h r hb (h0 f0 (Nat.le_refl _))
end
section
/-! ROWS for the law's own body, and what a method answers -/
section LWR
variable {K : im_K} {d : Nat} {M : im_M} {pc p2 : Nat} {lv lv2 : im_L} {st : List Value} {h : im_H} {r : Option Value × im_H}
theorem sp_lor {x y z : Int64} (ha : im_at M pc = some (.lor, [])) (hp : pc + 1 = p2) (hz : x ||| y = z) (k : Ev K d M (p2, lv, .long z :: st, h) r) : Ev K d M (pc, lv, .long y :: .long x :: st, h) r := by
  subst hp; subst hz
  exact ev_step (st_at ha rfl) k
theorem sp_lshl {x z : Int64} {y : Int32} (ha : im_at M pc = some (.lshl, [])) (hp : pc + 1 = p2) (hz : x <<< (y.toInt64 &&& 63) = z) (k : Ev K d M (p2, lv, .long z :: st, h) r) : Ev K d M (pc, lv, .int y :: .long x :: st, h) r := by
  subst hp; subst hz
  exact ev_step (st_at ha rfl) k
theorem sp_lcmp {x y : Int64} {z : Int32} (ha : im_at M pc = some (.lcmp, [])) (hp : pc + 1 = p2) (hz : lg_cmp x y = z) (k : Ev K d M (p2, lv, .int z :: st, h) r) : Ev K d M (pc, lv, .long y :: .long x :: st, h) r := by
  subst hp; subst hz
  exact ev_step (st_at ha rfl) k
theorem sp_new {idx a x R : Nat} {tys : List FieldType} (ha : im_at M pc = some (.new idx, [a, 0, 0, 0, x])) (hp : pc + 3 = p2) (ht : K.2.1[a]? = some tys) (hR : 16 + h.length = R) (k : Ev K d M (p2, lv, .ref R :: st, h ++ [.inr (a, tys.map defaultValue)]) r) : Ev K d M (pc, lv, st, h) r := by
  subst hp; subst hR
  refine ev_step (st_at ha ?_) k
  show ((K.2.1[a]?).bind fun tys => im_nx (pc + 3) lv (.ref (16 + h.length) :: st) (h ++ [.inr (a, tys.map defaultValue)])) = _
  rw [ht]
  rfl
theorem sp_slen {R : Nat} {l : List Int32} {x : Int32} (ha : im_at M pc = some (.arraylength, [])) (hp : pc + 1 = p2) (hR : ¬ 16 ≤ R) (hl : K.1[R]? = some l) (hx : Int32.ofNat l.length = x) (k : Ev K d M (p2, lv, .int x :: st, h) r) : Ev K d M (pc, lv, .ref R :: st, h) r := by
  subst hp; subst hx
  refine ev_step (st_at ha ?_) k
  show ((im_1r (.ref R :: st)).bind fun q => (if 16 ≤ q.1 then im_len h q.1 else (K.1[q.1]?).map List.length).bind fun n => im_nx (pc + 1) lv (.int (Int32.ofNat n) :: q.2) h) = _
  simp only [im_1r, Option.bind_some, if_neg hR, hl, Option.map_some]
  rfl
end LWR
theorem lg_cmp_self (x : Int64) : lg_cmp x x = 0 := by
  unfold lg_cmp
  simp
/-- the law's locals -/
def lwL (i : Int32) : im_L := [(3, .int i), (2, .ref 164), (1, .ref 16), (0, .ref 5)]
/-- script[i + k] is read -/
theorem lw_rd {l : List Int32} {d pc p2 : Nat} {kk : Int} {i : Int32} {n : Nat} {st : List Value} {h : im_H} {r : Option Value × im_H} (k : Nat) (a0 : im_at mL_law pc = some (.aload_n 0, [])) (a1 : im_at mL_law (pc + 1) = some (.iload_n 3, [])) (a2 : im_at mL_law (pc + 2) = some (.iconst kk, [])) (a3 : im_at mL_law (pc + 3) = some (.iadd, [])) (a4 : im_at mL_law (pc + 4) = some (.iaload, [])) (hp : pc + 5 = p2) (hk : (Int32.ofInt kk).toInt = k) (hi : i.toInt = n) (hl : n + k < l.length) (hb : l.length < 2147483648) (kx : Ev (im_K1 l) d mL_law (p2, lwL i, .int (l.getD (n + k) 0) :: st, h) r) : Ev (im_K1 l) d mL_law (pc, lwL i, st, h) r := by
  subst hp
  have e : Int32.toInt (i + Int32.ofInt kk) = (n + k : Nat) := by rw [i32_addE hk (by omega) (by omega), hi]; omega
  refine sp_aload_n (p2 := pc + 1) a0 rfl rfl ?_
  refine sp_iload_n (p2 := pc + 2) a1 rfl rfl ?_
  refine sp_iconst (p2 := pc + 3) (x := Int32.ofInt kk) a2 rfl rfl ?_
  refine sp_iadd (p2 := pc + 4) (z := i + Int32.ofInt kk) a3 rfl rfl ?_
  exact st_isld (R := 5) (l := l) a4 (by decide) rfl (in_at rfl (by omega) (by omega)) (by rw [clamp_of_toInt e]) kx
/-! what a method answers, by its type -/
def im_rk (ret : Option FieldType) (v : Option Value) : Prop := (ret = some .int ∧ ∃ x, v = some (.int x)) ∨ (ret = some .boolean ∧ ∃ x : Int32, (x = 0 ∨ x = 1) ∧ v = some (.int x)) ∨ (ret = some .long ∧ ∃ x, v = some (.long x)) ∨ (ret = none ∧ v = none)
theorem ins_ret {K : im_K} {M : im_M} {i : Instr} {a b w z pc : Nat} {lv : im_L} {st : List Value} {h : im_H} {v : Option Value} (hs : im_ins K M i a b w z pc lv st h = some (.inr (.inr v))) : im_rk M.2.2.2.1 v := by
  by_cases hi : im_isC i = false
  · exact absurd hs (im_nxs hi _)
  cases i
  case ireturn =>
    obtain ⟨u, h1, hs1⟩ := im_bd hs
    split at hs1
    · rename_i hr1 hr2
      cases hs1
      exact Or.inl ⟨hr1, _, rfl⟩
    · rename_i hr1 hr2
      obtain ⟨h01, hs2⟩ := im_ite _ hs1
      cases hs2
      exact Or.inr (Or.inl ⟨hr1, _, h01, rfl⟩)
    · cases hs1
  case lreturn =>
    obtain ⟨u, h1, hs1⟩ := im_bd hs
    split at hs1
    · rename_i hr1 hr2
      cases hs1
      exact Or.inr (Or.inr (Or.inl ⟨hr1, _, rfl⟩))
    · cases hs1
  case return_ =>
    have hs : (match M.2.2.2.1, st with
      | none, [] => (some (.inr (.inr none)) : Option im_O)
      | _, _ => none) = some (Sum.inr (Sum.inr v)) := hs
    split at hs
    · cases hs
      exact Or.inr (Or.inr (Or.inr ⟨by assumption, rfl⟩))
    · cases hs
  case invokestatic idx =>
    exfalso
    rcases b with _ | _ | _ | _ | _ | _ | _ | b
    · obtain ⟨_, _, hs⟩ := im_bd hs
      obtain ⟨_, hs⟩ := im_ite _ hs
      cases hs
    · cases hs
    · cases hs
    · have hs : im_copy pc lv st h z = some (.inr (.inr v)) := hs
      obtain ⟨_, _, hs⟩ := im_bd hs
      obtain ⟨_, _, hs⟩ := im_bd hs
      obtain ⟨_, _, hs⟩ := im_bd hs
      obtain ⟨_, _, hs⟩ := im_bd hs
      obtain ⟨_, _, hs⟩ := im_bd hs
      obtain ⟨_, _, hs⟩ := im_bd hs
      obtain ⟨_, _, hs⟩ := im_bd hs
      obtain ⟨_, hs⟩ := im_ite _ hs
      exact absurd hs (nx_nx _)
    · cases hs
    · obtain ⟨_, _, hs⟩ := im_bd hs
      obtain ⟨_, _, hs⟩ := im_bd hs
      obtain ⟨_, hs⟩ := im_ite _ hs
      exact absurd hs (nx_nx _)
    · obtain ⟨_, _, hs⟩ := im_bd hs
      obtain ⟨_, _, hs⟩ := im_bd hs
      obtain ⟨_, hs⟩ := im_ite _ hs
      exact absurd hs (nx_nx _)
    · cases hs
  case invokespecial idx =>
    exfalso
    rcases b with _ | _ | _ | _ | _ | b
    · obtain ⟨_, _, hs⟩ := im_bd hs
      obtain ⟨_, _, hs⟩ := im_bd hs
      obtain ⟨_, hs⟩ := im_ite _ hs
      cases hs
    · cases hs
    · cases hs
    · cases hs
    · obtain ⟨r, h3, hs⟩ := im_bd hs
      obtain ⟨_, hs⟩ := im_ite _ hs
      exact absurd hs (nx_nx _)
    · cases hs
  case invokevirtual idx =>
    exfalso
    rcases b with _ | _ | _ | b
    · obtain ⟨_, _, hs⟩ := im_bd hs
      obtain ⟨_, _, hs⟩ := im_bd hs
      obtain ⟨_, _, hs⟩ := im_bd hs
      obtain ⟨_, hs⟩ := im_ite _ hs
      cases hs
    · obtain ⟨r, h3, hs⟩ := im_bd hs
      obtain ⟨_, hs⟩ := im_ite _ hs
      obtain ⟨_, _, hs⟩ := im_bd hs
      exact absurd hs (nx_nx _)
    · obtain ⟨r, h3, hs⟩ := im_bd hs
      obtain ⟨_, _, hs⟩ := im_bd hs
      obtain ⟨_, hs⟩ := im_ite _ hs
      obtain ⟨_, _, hs⟩ := im_bd hs
      obtain ⟨_, hs⟩ := im_ite _ hs
      exact absurd hs (nx_nx _)
    · cases hs
  all_goals exact absurd rfl hi
theorem run_ret {K : im_K} {M : im_M} {call : Nat → List Value → im_H → Option (Option Value × im_H)} : ∀ (n : Nat) (c : im_C) (r : Option Value × im_H), im_run K M call n c = some r → im_rk M.2.2.2.1 r.1 := by
  intro n
  induction n with
  | zero => intro c r h; cases h
  | succ n ih =>
    intro c r h
    obtain ⟨pc, lv, st, hp⟩ := c
    simp only [im_run] at h
    cases hs : im_step K M (pc, lv, st, hp) with
    | none => rw [hs] at h; cases h
    | some o =>
      rw [hs] at h
      cases o with
      | inl c2 => exact ih c2 r h
      | inr y =>
        cases y with
        | inl u =>
          simp only at h
          cases hu : call u.1 u.2.1 hp with
          | none => rw [hu] at h; cases h
          | some v => rw [hu] at h; exact ih _ r h
        | inr v =>
          simp only [Option.some.injEq] at h
          rw [← h]
          unfold im_step at hs
          cases hq : im_at M pc with
          | none => simp only [hq] at hs; cases hs
          | some q =>
            simp only [hq] at hs
            exact ins_ret hs
theorem ca_rk {d j : Nat} {M : im_M} {as : List Value} {h : im_H} {r : Option Value × im_H} (hj : im_ms[j]? = some M) (hc : Ca d j as h r) : im_rk M.2.2.2.1 r.1 := by
  obtain ⟨f0, h0⟩ := hc
  have h1 := h0 f0 (Nat.le_refl _)
  cases d with
  | zero => cases h1
  | succ d =>
    simp only [im_call, hj] at h1
    obtain ⟨hl, h1⟩ := im_ite _ h1
    exact run_ret f0 _ r h1
theorem ca_int {d j : Nat} {M : im_M} {as : List Value} {h h2 : im_H} {v : Value} (hj : im_ms[j]? = some M) (hr : M.2.2.2.1 = some .int) (hc : Ca d j as h (some v, h2)) : ∃ x, v = .int x := by
  have := ca_rk hj hc
  rw [hr] at this
  rcases this with ⟨_, x, e⟩ | ⟨e, _⟩ | ⟨e, _⟩ | ⟨e, _⟩
  · exact ⟨x, Option.some.inj e⟩
  all_goals cases e
theorem ca_long {d j : Nat} {M : im_M} {as : List Value} {h h2 : im_H} {v : Value} (hj : im_ms[j]? = some M) (hr : M.2.2.2.1 = some .long) (hc : Ca d j as h (some v, h2)) : ∃ x, v = .long x := by
  have := ca_rk hj hc
  rw [hr] at this
  rcases this with ⟨e, _⟩ | ⟨e, _⟩ | ⟨_, x, e⟩ | ⟨e, _⟩
  · cases e
  · cases e
  · exact ⟨x, Option.some.inj e⟩
  · cases e
end
section
/-! TOTALITY: runs told by what their end meets; heaps told by what stands at each place (cell, place in it) -/
def EvP (K : im_K) (d : Nat) (M : im_M) (c : im_C) (Q : Option Value → im_H → Prop) : Prop := ∃ v h, Ev K d M c (v, h) ∧ Q v h
def CaP (d j : Nat) (as : List Value) (h : im_H) (Q : Option Value → im_H → Prop) : Prop := ∃ v h2, Ca d j as h (v, h2) ∧ Q v h2
theorem evp {K : im_K} {d : Nat} {M : im_M} {c c2 : im_C} {Q : Option Value → im_H → Prop} (f : ∀ r, Ev K d M c2 r → Ev K d M c r) (k : EvP K d M c2 Q) : EvP K d M c Q := by
  obtain ⟨v, h, e, q⟩ := k
  exact ⟨v, h, f _ e, q⟩
theorem evp_imp {K : im_K} {d : Nat} {M : im_M} {c : im_C} {Q Q2 : Option Value → im_H → Prop} (k : EvP K d M c Q) (f : ∀ v h, Q v h → Q2 v h) : EvP K d M c Q2 := by
  obtain ⟨v, h, e, q⟩ := k
  exact ⟨v, h, e, f _ _ q⟩
theorem cap_of {d j : Nat} {M : im_M} {as : List Value} {h : im_H} {Q : Option Value → im_H → Prop} (hj : im_ms[j]? = some M) (hl : (lg_sl as).length ≤ M.2.2.1) (k : EvP im_K0 d M (0, lv_args 0 as, [], h) Q) : CaP (d + 1) j as h Q := by
  obtain ⟨v, h2, e, q⟩ := k
  exact ⟨v, h2, ca_of hj hl e, q⟩
theorem cap_imp {d j : Nat} {as : List Value} {h : im_H} {Q Q2 : Option Value → im_H → Prop} (k : CaP d j as h Q) (f : ∀ v h2, Q v h2 → Q2 v h2) : CaP d j as h Q2 := by
  obtain ⟨v, h2, e, q⟩ := k
  exact ⟨v, h2, e, f _ _ q⟩
theorem cap_le {d d2 j : Nat} {as : List Value} {h : im_H} {Q : Option Value → im_H → Prop} (k : CaP d j as h Q) (hd : d ≤ d2) : CaP d2 j as h Q := by
  obtain ⟨v, h2, e, q⟩ := k
  exact ⟨v, h2, ca_more e hd, q⟩
/-! what stands at a place -/
def rdE (e : im_E) (k : Nat) : Option Value := match e with
  | .inl (_, .inl l) => (l[k]?).map Value.int
  | .inl (_, .inr (.inl l)) => (l[k]?).map Value.long
  | .inl (_, .inr (.inr l)) => (l[k]?).map im_rf
  | .inr (_, fs) => fs[k]?
def rd (h : im_H) (i k : Nat) : Option Value := (h[i]?).bind fun e => rdE e k
theorem rd_obj {h : im_H} {i c b : Nat} {fs : List Value} (ho : im_obj h (16 + i) c = some fs) : rd h i b = fs[b]? := by
  obtain ⟨k, hk, hc⟩ := im_obj_eq ho
  have : k = i := by omega
  subst this
  unfold rd
  rw [hc]
  rfl
theorem rd_ia {h : im_H} {i t b : Nat} {l : List Int32} (ho : im_ia h (16 + i) t = some l) : rd h i b = (l[b]?).map Value.int := by
  obtain ⟨k, hk, hc⟩ := im_ia_eq ho
  have : k = i := by omega
  subst this
  unfold rd
  rw [hc]
  rfl
theorem rd_ne {h : im_H} {i j k : Nat} {e : im_E} (hj : j ≠ i) : rd (h.set i e) j k = rd h j k := by
  unfold rd
  rw [List.getElem?_set_ne (fun e => hj e.symm)]
theorem rd_eq {h : im_H} {i k : Nat} {e : im_E} (hi : i < h.length) : rd (h.set i e) i k = rdE e k := by
  unfold rd
  rw [List.getElem?_set_self hi]
  rfl
/-- one place is written -/
def up (h h2 : im_H) (i k : Nat) (v : Value) : Prop := rd h2 i k = some v ∧ ∀ j m, (j ≠ i ∨ m ≠ k) → rd h2 j m = rd h j m
/-- what may stand at a place: a number from .. to .. but one; this reference; null or one of these -/
abbrev tv : Type := (Int × Int × Int) ⊕ (Nat ⊕ List Nat)
def okV (t : tv) (v : Value) : Prop := match t with
  | .inl (lo, hi, ho) => ∃ x : Int32, v = .int x ∧ lo ≤ x.toInt ∧ x.toInt ≤ hi ∧ x.toInt ≠ ho
  | .inr (.inl r) => v = .ref r
  | .inr (.inr rs) => v = .null ∨ ∃ r, r ∈ rs ∧ v = .ref r
abbrev tSeg : Type := List (Nat × Nat × tv)
def tq (T : List tSeg) (i k : Nat) : Option tv := ((T.getD i []).find? (fun q => decide (q.1 ≤ k) && decide (k ≤ q.2.1))).map (fun q => q.2.2)
theorem tq_row {T : List tSeg} {i k m : Nat} {t : tv} (e : T.getD i [] = [(0, m, t)]) (hk : k ≤ m) : tq T i k = some t := by
  unfold tq
  rw [e]
  simp [hk]
end
section
/-! THE SPEC: the shapes of the 200 cells, and what may stand at each place of them -/
def tS : List (Nat × Nat × Nat) := [(3, 11, 14), (3, 0, 14), (0, 0, 100), (0, 0, 24), (0, 0, 24), (0, 0, 24), (0, 0, 24), (2, 3, 4), (2, 4, 3), (0, 0, 16), (0, 0, 16), (0, 0, 8), (3, 7, 4), (0, 0, 8), (3, 7, 4), (0, 0, 8), (3, 7, 4), (0, 0, 8), (3, 7, 4), (0, 0, 8), (3, 5, 4), (3, 5, 4), (3, 5, 4), (3, 9, 18), (0, 0, 3), (0, 0, 100), (0, 0, 24), (0, 0, 24), (0, 0, 24), (0, 0, 24), (0, 1, 24), (0, 0, 16), (0, 1, 16), (0, 1, 12), (0, 0, 4), (0, 0, 4), (0, 0, 3), (3, 9, 18), (0, 0, 3), (0, 0, 100), (0, 0, 24), (0, 0, 24), (0, 0, 24), (0, 0, 24), (0, 1, 24), (0, 0, 16), (0, 1, 16), (0, 1, 12), (0, 0, 4), (0, 0, 4), (0, 0, 3), (3, 9, 18), (0, 0, 3), (0, 0, 100), (0, 0, 24), (0, 0, 24), (0, 0, 24), (0, 0, 24), (0, 1, 24), (0, 0, 16), (0, 1, 16), (0, 1, 12), (0, 0, 4), (0, 0, 4), (0, 0, 3), (3, 10, 3), (0, 0, 160), (2, 5, 6), (3, 3, 4), (0, 0, 6), (0, 0, 6), (0, 0, 6), (3, 6, 9), (0, 0, 12), (0, 0, 12), (0, 0, 12), (0, 0, 12), (3, 4, 6), (2, 7, 8), (0, 0, 10), (0, 0, 10), (0, 0, 10), (0, 0, 10), (0, 0, 10), (0, 0, 10), (0, 0, 10), (0, 0, 10), (0, 0, 8), (0, 0, 8), (0, 0, 8), (0, 1, 100), (3, 2, 6), (0, 0, 24), (0, 0, 24), (0, 0, 24), (0, 0, 24), (0, 0, 24), (2, 6, 4), (3, 1, 7), (0, 0, 8), (0, 0, 8), (0, 0, 8), (0, 0, 24), (0, 0, 24), (0, 0, 24), (3, 1, 7), (0, 0, 8), (0, 0, 8), (0, 0, 8), (0, 0, 24), (0, 0, 24), (0, 0, 24), (3, 1, 7), (0, 0, 8), (0, 0, 8), (0, 0, 8), (0, 0, 24), (0, 0, 24), (0, 0, 24), (3, 1, 7), (0, 0, 8), (0, 0, 8), (0, 0, 8), (0, 0, 24), (0, 0, 24), (0, 0, 24), (3, 1, 7), (0, 0, 8), (0, 0, 8), (0, 0, 8), (0, 0, 24), (0, 0, 24), (0, 0, 24), (3, 1, 7), (0, 0, 8), (0, 0, 8), (0, 0, 8), (0, 0, 24), (0, 0, 24), (0, 0, 24), (3, 8, 3), (0, 0, 40), (3, 8, 3), (0, 0, 40), (3, 8, 3), (0, 0, 40), (3, 8, 3), (0, 0, 40), (3, 12, 66), (0, 0, 283), (0, 0, 283), (0, 0, 283), (0, 0, 100), (0, 0, 6), (0, 0, 6), (0, 0, 6), (0, 0, 6), (0, 0, 24), (0, 0, 24), (0, 0, 24), (0, 0, 32), (0, 0, 4), (0, 0, 4), (0, 0, 4), (0, 0, 36), (0, 0, 3), (0, 0, 3), (0, 0, 16), (0, 0, 16), (0, 0, 12), (0, 0, 12), (0, 0, 12), (0, 0, 12), (0, 0, 8), (0, 0, 8), (0, 0, 8), (0, 0, 8), (0, 1, 100), (0, 0, 24), (0, 0, 24), (0, 0, 24), (0, 0, 24), (0, 0, 24), (0, 0, 6), (0, 0, 160), (0, 0, 6), (0, 0, 48), (0, 0, 48), (0, 0, 48), (0, 0, 144), (0, 0, 144), (0, 0, 144), (0, 0, 4), (0, 0, 4), (0, 0, 160), (1, 2, 12), (0, 0, 12), (0, 0, 16), (0, 0, 16), (0, 0, 6)]
def tT : List tSeg := [[(0, 0, .inr (.inl 17)), (1, 1, .inr (.inl 39)), (2, 2, .inr (.inl 53)), (3, 3, .inr (.inl 67)), (4, 4, .inl (0, 1, 9999999999)), (5, 5, .inr (.inl 81)), (6, 6, .inr (.inl 83)), (7, 7, .inl (0, 6, 9999999999)), (8, 8, .inl ((-1), 5, 9999999999)), (9, 9, .inr (.inl 84)), (10, 10, .inr (.inl 88)), (11, 11, .inr (.inl 93)), (12, 12, .inr (.inl 107)), (13, 13, .inr (.inl 113))],
  [(0, 0, .inr (.inl 18)), (1, 1, .inl ((-1), 99, 9999999999)), (2, 2, .inl (0, 24, 9999999999)), (3, 3, .inr (.inl 19)), (4, 4, .inr (.inl 20)), (5, 5, .inr (.inl 21)), (6, 6, .inr (.inl 22)), (7, 7, .inr (.inl 23)), (8, 8, .inr (.inl 24)), (9, 9, .inl (0, 16, 9999999999)), (10, 10, .inr (.inl 25)), (11, 11, .inr (.inl 26)), (12, 12, .inr (.inr [114, 121, 128, 135, 142, 149])), (13, 13, .inr (.inl 27))],
  [(0, 99, .inl ((-1), 5, 9999999999))],
  [(0, 23, .inl ((-2147483648), 2147483647, 9999999999))],
  [(0, 23, .inl ((-2147483648), 2147483647, 9999999999))],
  [(0, 23, .inl ((-2147483648), 2147483647, 9999999999))],
  [(0, 23, .inl ((-1), 3, 9999999999))],
  [(0, 0, .inr (.inl 28)), (1, 1, .inr (.inl 30)), (2, 2, .inr (.inl 32)), (3, 3, .inr (.inl 34))],
  [(0, 0, .inr (.inl 36)), (1, 1, .inr (.inl 37)), (2, 2, .inr (.inl 38))],
  [(0, 15, .inl (0, 99, 9999999999))],
  [(0, 15, .inl (0, 99, 9999999999))],
  [(0, 7, .inl ((-2147483648), 2147483647, 9999999999))],
  [(0, 0, .inr (.inl 29)), (1, 1, .inl (0, 8, 9999999999)), (2, 2, .inl (0, 99, 9999999999)), (3, 3, .inl (0, 99, 9999999999))],
  [(0, 7, .inl (0, 23, 9999999999))],
  [(0, 0, .inr (.inl 31)), (1, 1, .inl (0, 8, 9999999999)), (2, 2, .inl (0, 99, 9999999999)), (3, 3, .inl (0, 99, 9999999999))],
  [(0, 7, .inl (0, 23, 9999999999))],
  [(0, 0, .inr (.inl 33)), (1, 1, .inl (0, 8, 9999999999)), (2, 2, .inl (0, 99, 9999999999)), (3, 3, .inl (0, 99, 9999999999))],
  [(0, 7, .inl (0, 23, 9999999999))],
  [(0, 0, .inr (.inl 35)), (1, 1, .inl (0, 8, 9999999999)), (2, 2, .inl (0, 99, 9999999999)), (3, 3, .inl (0, 99, 9999999999))],
  [(0, 7, .inl (0, 23, 9999999999))],
  [(0, 0, .inl (0, 12, 9999999999)), (1, 1, .inl ((-2147483648), 2147483647, 9999999999)), (2, 2, .inl (0, 99, 9999999999)), (3, 3, .inl (0, 99, 9999999999))],
  [(0, 0, .inl (0, 12, 9999999999)), (1, 1, .inl ((-2147483648), 2147483647, 9999999999)), (2, 2, .inl (0, 99, 9999999999)), (3, 3, .inl (0, 99, 9999999999))],
  [(0, 0, .inl (0, 12, 9999999999)), (1, 1, .inl ((-2147483648), 2147483647, 9999999999)), (2, 2, .inl (0, 99, 9999999999)), (3, 3, .inl (0, 99, 9999999999))],
  [(0, 0, .inl ((-2147483648), 2147483647, 9999999999)), (1, 1, .inl ((-2147483648), 2147483647, 9999999999)), (2, 2, .inl ((-2147483648), 2147483647, 9999999999)), (3, 3, .inl ((-2147483648), 2147483647, 9999999999)), (4, 4, .inl ((-2147483648), 2147483647, 9999999999)), (5, 5, .inr (.inl 40)), (6, 6, .inr (.inl 41)), (7, 7, .inr (.inl 42)), (8, 8, .inr (.inl 43)), (9, 9, .inr (.inl 44)), (10, 10, .inr (.inl 45)), (11, 11, .inr (.inl 46)), (12, 12, .inr (.inl 47)), (13, 13, .inr (.inl 48)), (14, 14, .inr (.inl 49)), (15, 15, .inr (.inl 50)), (16, 16, .inr (.inl 51)), (17, 17, .inr (.inl 52))],
  [(0, 2, .inl ((-2147483648), 2147483647, 9999999999))],
  [(0, 99, .inl ((-2147483648), 2147483647, 9999999999))],
  [(0, 23, .inl ((-2147483648), 2147483647, 9999999999))],
  [(0, 23, .inl ((-2147483648), 2147483647, 9999999999))],
  [(0, 23, .inl ((-2147483648), 2147483647, 9999999999))],
  [(0, 23, .inl ((-2147483648), 2147483647, 9999999999))],
  [(0, 23, .inl (0, 1, 9999999999))],
  [(0, 15, .inl ((-2147483648), 2147483647, 9999999999))],
  [(0, 15, .inl (0, 1, 9999999999))],
  [(0, 11, .inl (0, 1, 9999999999))],
  [(0, 3, .inl ((-2147483648), 2147483647, 9999999999))],
  [(0, 3, .inl ((-2147483648), 2147483647, 9999999999))],
  [(0, 2, .inl ((-2147483648), 2147483647, 9999999999))],
  [(0, 0, .inl ((-2147483648), 2147483647, 9999999999)), (1, 1, .inl ((-2147483648), 2147483647, 9999999999)), (2, 2, .inl ((-2147483648), 2147483647, 9999999999)), (3, 3, .inl ((-2147483648), 2147483647, 9999999999)), (4, 4, .inl ((-2147483648), 2147483647, 9999999999)), (5, 5, .inr (.inl 54)), (6, 6, .inr (.inl 55)), (7, 7, .inr (.inl 56)), (8, 8, .inr (.inl 57)), (9, 9, .inr (.inl 58)), (10, 10, .inr (.inl 59)), (11, 11, .inr (.inl 60)), (12, 12, .inr (.inl 61)), (13, 13, .inr (.inl 62)), (14, 14, .inr (.inl 63)), (15, 15, .inr (.inl 64)), (16, 16, .inr (.inl 65)), (17, 17, .inr (.inl 66))],
  [(0, 2, .inl ((-2147483648), 2147483647, 9999999999))],
  [(0, 99, .inl ((-2147483648), 2147483647, 9999999999))],
  [(0, 23, .inl ((-2147483648), 2147483647, 9999999999))],
  [(0, 23, .inl ((-2147483648), 2147483647, 9999999999))],
  [(0, 23, .inl ((-2147483648), 2147483647, 9999999999))],
  [(0, 23, .inl ((-2147483648), 2147483647, 9999999999))],
  [(0, 23, .inl (0, 1, 9999999999))],
  [(0, 15, .inl ((-2147483648), 2147483647, 9999999999))],
  [(0, 15, .inl (0, 1, 9999999999))],
  [(0, 11, .inl (0, 1, 9999999999))],
  [(0, 3, .inl ((-2147483648), 2147483647, 9999999999))],
  [(0, 3, .inl ((-2147483648), 2147483647, 9999999999))],
  [(0, 2, .inl ((-2147483648), 2147483647, 9999999999))],
  [(0, 0, .inl ((-2147483648), 2147483647, 9999999999)), (1, 1, .inl ((-2147483648), 2147483647, 9999999999)), (2, 2, .inl ((-2147483648), 2147483647, 9999999999)), (3, 3, .inl ((-2147483648), 2147483647, 9999999999)), (4, 4, .inl ((-2147483648), 2147483647, 9999999999)), (5, 5, .inr (.inl 68)), (6, 6, .inr (.inl 69)), (7, 7, .inr (.inl 70)), (8, 8, .inr (.inl 71)), (9, 9, .inr (.inl 72)), (10, 10, .inr (.inl 73)), (11, 11, .inr (.inl 74)), (12, 12, .inr (.inl 75)), (13, 13, .inr (.inl 76)), (14, 14, .inr (.inl 77)), (15, 15, .inr (.inl 78)), (16, 16, .inr (.inl 79)), (17, 17, .inr (.inl 80))],
  [(0, 2, .inl ((-2147483648), 2147483647, 9999999999))],
  [(0, 99, .inl ((-2147483648), 2147483647, 9999999999))],
  [(0, 23, .inl ((-2147483648), 2147483647, 9999999999))],
  [(0, 23, .inl ((-2147483648), 2147483647, 9999999999))],
  [(0, 23, .inl ((-2147483648), 2147483647, 9999999999))],
  [(0, 23, .inl ((-2147483648), 2147483647, 9999999999))],
  [(0, 23, .inl (0, 1, 9999999999))],
  [(0, 15, .inl ((-2147483648), 2147483647, 9999999999))],
  [(0, 15, .inl (0, 1, 9999999999))],
  [(0, 11, .inl (0, 1, 9999999999))],
  [(0, 3, .inl ((-2147483648), 2147483647, 9999999999))],
  [(0, 3, .inl ((-2147483648), 2147483647, 9999999999))],
  [(0, 2, .inl ((-2147483648), 2147483647, 9999999999))],
  [(0, 0, .inr (.inl 82)), (1, 1, .inl (0, 160, 9999999999)), (2, 2, .inl (0, 160, 9999999999))],
  [(0, 159, .inl ((-2147483648), 2147483647, 9999999999))],
  [(0, 0, .inr (.inl 114)), (1, 1, .inr (.inl 121)), (2, 2, .inr (.inl 128)), (3, 3, .inr (.inl 135)), (4, 4, .inr (.inl 142)), (5, 5, .inr (.inl 149))],
  [(0, 0, .inl (0, 6, 9999999999)), (1, 1, .inr (.inl 85)), (2, 2, .inr (.inl 86)), (3, 3, .inr (.inl 87))],
  [(0, 5, .inl ((-2147483648), 2147483647, 9999999999))],
  [(0, 5, .inl (0, 5, 9999999999))],
  [(0, 5, .inl ((-2147483648), 2147483647, 9999999999))],
  [(0, 0, .inl (0, 12, 9999999999)), (1, 1, .inr (.inl 89)), (2, 2, .inr (.inl 90)), (3, 3, .inr (.inl 91)), (4, 4, .inr (.inl 92)), (5, 5, .inl ((-2147483648), 2147483647, 9999999999)), (6, 6, .inl ((-2147483648), 2147483647, 9999999999)), (7, 7, .inl ((-2147483648), 2147483647, 9999999999)), (8, 8, .inl ((-2147483648), 2147483647, 9999999999))],
  [(0, 11, .inl ((-2147483648), 2147483647, 9999999999))],
  [(0, 11, .inl ((-2147483648), 2147483647, 9999999999))],
  [(0, 11, .inl ((-2147483648), 2147483647, 9999999999))],
  [(0, 11, .inl ((-2147483648), 2147483647, 9999999999))],
  [(0, 0, .inl (0, 8, 9999999999)), (1, 1, .inr (.inl 94)), (2, 2, .inr (.inl 103)), (3, 3, .inr (.inl 104)), (4, 4, .inr (.inl 105)), (5, 5, .inr (.inl 106))],
  [(0, 0, .inr (.inl 95)), (1, 1, .inr (.inl 96)), (2, 2, .inr (.inl 97)), (3, 3, .inr (.inl 98)), (4, 4, .inr (.inl 99)), (5, 5, .inr (.inl 100)), (6, 6, .inr (.inl 101)), (7, 7, .inr (.inl 102))],
  [(0, 9, .inl (0, 99, 9999999999))],
  [(0, 9, .inl (0, 99, 9999999999))],
  [(0, 9, .inl (0, 99, 9999999999))],
  [(0, 9, .inl (0, 99, 9999999999))],
  [(0, 9, .inl (0, 99, 9999999999))],
  [(0, 9, .inl (0, 99, 9999999999))],
  [(0, 9, .inl (0, 99, 9999999999))],
  [(0, 9, .inl (0, 99, 9999999999))],
  [(0, 7, .inl (0, 10, 9999999999))],
  [(0, 7, .inl (0, 9, 9999999999))],
  [(0, 7, .inl ((-2147483648), 2147483647, 9999999999))],
  [(0, 99, .inl (0, 1, 9999999999))],
  [(0, 0, .inl (0, 24, 9999999999)), (1, 1, .inr (.inl 108)), (2, 2, .inr (.inl 109)), (3, 3, .inr (.inl 110)), (4, 4, .inr (.inl 111)), (5, 5, .inr (.inl 112))],
  [(0, 23, .inl ((-2147483648), 2147483647, 9999999999))],
  [(0, 23, .inl ((-2147483648), 2147483647, 9999999999))],
  [(0, 23, .inl ((-2147483648), 2147483647, 9999999999))],
  [(0, 23, .inl ((-2147483648), 2147483647, 9999999999))],
  [(0, 23, .inl ((-2147483648), 2147483647, 9999999999))],
  [(0, 0, .inr (.inl 156)), (1, 1, .inr (.inl 158)), (2, 2, .inr (.inl 160)), (3, 3, .inr (.inl 162))],
  [(0, 0, .inl (0, 8, 9999999999)), (1, 1, .inr (.inl 115)), (2, 2, .inr (.inl 116)), (3, 3, .inr (.inl 117)), (4, 4, .inr (.inl 118)), (5, 5, .inr (.inl 119)), (6, 6, .inr (.inl 120))],
  [(0, 7, .inl ((-2147483648), 2147483647, 9999999999))],
  [(0, 7, .inl ((-2147483648), 2147483647, 9999999999))],
  [(0, 7, .inl (0, 3, 9999999999))],
  [(0, 23, .inl ((-1), 7, 9999999999))],
  [(0, 23, .inl ((-2147483648), 2147483647, 9999999999))],
  [(0, 23, .inl ((-2147483648), 2147483647, 9999999999))],
  [(0, 0, .inl (0, 8, 9999999999)), (1, 1, .inr (.inl 122)), (2, 2, .inr (.inl 123)), (3, 3, .inr (.inl 124)), (4, 4, .inr (.inl 125)), (5, 5, .inr (.inl 126)), (6, 6, .inr (.inl 127))],
  [(0, 7, .inl ((-2147483648), 2147483647, 9999999999))],
  [(0, 7, .inl ((-2147483648), 2147483647, 9999999999))],
  [(0, 7, .inl (0, 3, 9999999999))],
  [(0, 23, .inl ((-1), 7, 9999999999))],
  [(0, 23, .inl ((-2147483648), 2147483647, 9999999999))],
  [(0, 23, .inl ((-2147483648), 2147483647, 9999999999))],
  [(0, 0, .inl (0, 8, 9999999999)), (1, 1, .inr (.inl 129)), (2, 2, .inr (.inl 130)), (3, 3, .inr (.inl 131)), (4, 4, .inr (.inl 132)), (5, 5, .inr (.inl 133)), (6, 6, .inr (.inl 134))],
  [(0, 7, .inl ((-2147483648), 2147483647, 9999999999))],
  [(0, 7, .inl ((-2147483648), 2147483647, 9999999999))],
  [(0, 7, .inl (0, 3, 9999999999))],
  [(0, 23, .inl ((-1), 7, 9999999999))],
  [(0, 23, .inl ((-2147483648), 2147483647, 9999999999))],
  [(0, 23, .inl ((-2147483648), 2147483647, 9999999999))],
  [(0, 0, .inl (0, 8, 9999999999)), (1, 1, .inr (.inl 136)), (2, 2, .inr (.inl 137)), (3, 3, .inr (.inl 138)), (4, 4, .inr (.inl 139)), (5, 5, .inr (.inl 140)), (6, 6, .inr (.inl 141))],
  [(0, 7, .inl ((-2147483648), 2147483647, 9999999999))],
  [(0, 7, .inl ((-2147483648), 2147483647, 9999999999))],
  [(0, 7, .inl (0, 3, 9999999999))],
  [(0, 23, .inl ((-1), 7, 9999999999))],
  [(0, 23, .inl ((-2147483648), 2147483647, 9999999999))],
  [(0, 23, .inl ((-2147483648), 2147483647, 9999999999))],
  [(0, 0, .inl (0, 8, 9999999999)), (1, 1, .inr (.inl 143)), (2, 2, .inr (.inl 144)), (3, 3, .inr (.inl 145)), (4, 4, .inr (.inl 146)), (5, 5, .inr (.inl 147)), (6, 6, .inr (.inl 148))],
  [(0, 7, .inl ((-2147483648), 2147483647, 9999999999))],
  [(0, 7, .inl ((-2147483648), 2147483647, 9999999999))],
  [(0, 7, .inl (0, 3, 9999999999))],
  [(0, 23, .inl ((-1), 7, 9999999999))],
  [(0, 23, .inl ((-2147483648), 2147483647, 9999999999))],
  [(0, 23, .inl ((-2147483648), 2147483647, 9999999999))],
  [(0, 0, .inl (0, 8, 9999999999)), (1, 1, .inr (.inl 150)), (2, 2, .inr (.inl 151)), (3, 3, .inr (.inl 152)), (4, 4, .inr (.inl 153)), (5, 5, .inr (.inl 154)), (6, 6, .inr (.inl 155))],
  [(0, 7, .inl ((-2147483648), 2147483647, 9999999999))],
  [(0, 7, .inl ((-2147483648), 2147483647, 9999999999))],
  [(0, 7, .inl (0, 3, 9999999999))],
  [(0, 23, .inl ((-1), 7, 9999999999))],
  [(0, 23, .inl ((-2147483648), 2147483647, 9999999999))],
  [(0, 23, .inl ((-2147483648), 2147483647, 9999999999))],
  [(0, 0, .inl ((-1), 2, 9999999999)), (1, 1, .inl (0, 40, 9999999999)), (2, 2, .inr (.inl 157))],
  [(0, 39, .inl ((-2147483648), 2147483647, 9999999999))],
  [(0, 0, .inl ((-1), 2, 9999999999)), (1, 1, .inl (0, 40, 9999999999)), (2, 2, .inr (.inl 159))],
  [(0, 39, .inl ((-2147483648), 2147483647, 9999999999))],
  [(0, 0, .inl ((-1), 2, 9999999999)), (1, 1, .inl (0, 40, 9999999999)), (2, 2, .inr (.inl 161))],
  [(0, 39, .inl ((-2147483648), 2147483647, 9999999999))],
  [(0, 0, .inl ((-1), 2, 9999999999)), (1, 1, .inl (0, 40, 9999999999)), (2, 2, .inr (.inl 163))],
  [(0, 39, .inl ((-2147483648), 2147483647, 9999999999))],
  [(0, 0, .inr (.inl 165)), (1, 1, .inr (.inl 166)), (2, 2, .inr (.inl 167)), (3, 3, .inl (0, 1, 9999999999)), (4, 4, .inr (.inl 168)), (5, 5, .inr (.inl 169)), (6, 6, .inr (.inl 170)), (7, 7, .inr (.inl 171)), (8, 8, .inr (.inl 172)), (9, 9, .inl ((-1), 99, 9999999999)), (10, 10, .inl (0, 24, 9999999999)), (11, 11, .inr (.inl 173)), (12, 12, .inr (.inl 174)), (13, 13, .inr (.inl 175)), (14, 14, .inr (.inl 176)), (15, 15, .inr (.inl 177)), (16, 16, .inr (.inl 178)), (17, 17, .inr (.inl 179)), (18, 18, .inr (.inl 180)), (19, 19, .inr (.inl 181)), (20, 20, .inr (.inl 182)), (21, 21, .inl (0, 16, 9999999999)), (22, 22, .inr (.inl 183)), (23, 23, .inr (.inl 184)), (24, 24, .inl (0, 12, 9999999999)), (25, 25, .inr (.inl 185)), (26, 26, .inr (.inl 186)), (27, 27, .inr (.inl 187)), (28, 28, .inr (.inl 188)), (29, 29, .inl (0, 8, 9999999999)), (30, 30, .inr (.inl 189)), (31, 31, .inr (.inl 190)), (32, 32, .inr (.inl 191)), (33, 33, .inr (.inl 192)), (34, 34, .inr (.inl 193)), (35, 35, .inl (0, 24, 9999999999)), (36, 36, .inr (.inl 194)), (37, 37, .inr (.inl 195)), (38, 38, .inr (.inl 196)), (39, 39, .inr (.inl 197)), (40, 40, .inr (.inl 198)), (41, 41, .inl (0, 6, 9999999999)), (42, 42, .inr (.inl 199)), (43, 43, .inl ((-2147483648), 2147483647, 9999999999)), (44, 44, .inr (.inl 200)), (45, 45, .inl (0, 160, 9999999999)), (46, 46, .inl (0, 6, 9999999999)), (47, 47, .inl ((-1), 5, 9999999999)), (48, 48, .inr (.inl 201)), (49, 49, .inr (.inl 202)), (50, 50, .inr (.inl 203)), (51, 51, .inr (.inl 204)), (52, 52, .inr (.inl 205)), (53, 53, .inr (.inl 206)), (54, 54, .inr (.inl 207)), (55, 55, .inr (.inl 208)), (56, 56, .inr (.inl 209)), (57, 57, .inr (.inl 210)), (58, 58, .inr (.inl 211)), (59, 59, .inr (.inl 212)), (60, 60, .inl (0, 160, 9999999999)), (61, 61, .inl ((-2147483648), 2147483647, 9999999999)), (62, 62, .inl ((-2147483648), 2147483647, 9999999999)), (63, 63, .inr (.inl 213)), (64, 64, .inr (.inl 214)), (65, 65, .inr (.inl 215))],
  [(0, 282, .inl ((-2147483648), 2147483647, 9999999999))],
  [(0, 282, .inl ((-2147483648), 2147483647, 9999999999))],
  [(0, 282, .inl ((-2147483648), 2147483647, 9999999999))],
  [(0, 99, .inl ((-1), 5, 9999999999))],
  [(0, 5, .inl (0, 70, 9999999999))],
  [(0, 5, .inl (0, 70, 9999999999))],
  [(0, 5, .inl (0, 70, 9999999999))],
  [(0, 5, .inl (0, 70, 9999999999))],
  [(0, 23, .inl ((-2147483648), 2147483647, 9999999999))],
  [(0, 23, .inl ((-2147483648), 2147483647, 9999999999))],
  [(0, 23, .inl ((-2147483648), 2147483647, 9999999999))],
  [(0, 31, .inl (0, 23, 9999999999))],
  [(0, 3, .inl (0, 8, 9999999999))],
  [(0, 3, .inl (0, 99, 9999999999))],
  [(0, 3, .inl (0, 99, 9999999999))],
  [(0, 35, .inl (0, 99, 9999999999))],
  [(0, 2, .inl (0, 12, 1))],
  [(0, 2, .inl ((-2147483648), 2147483647, 9999999999))],
  [(0, 15, .inl (0, 99, 9999999999))],
  [(0, 15, .inl (0, 99, 9999999999))],
  [(0, 11, .inl ((-2147483648), 2147483647, 9999999999))],
  [(0, 11, .inl ((-2147483648), 2147483647, 9999999999))],
  [(0, 11, .inl ((-2147483648), 2147483647, 9999999999))],
  [(0, 11, .inl ((-2147483648), 2147483647, 9999999999))],
  [(0, 7, .inl (0, 99, 9999999999))],
  [(0, 7, .inl (0, 3, 9999999999))],
  [(0, 7, .inl (0, 10, 9999999999))],
  [(0, 7, .inl (0, 9, 9999999999))],
  [(0, 99, .inl (0, 1, 9999999999))],
  [(0, 23, .inl ((-2147483648), 2147483647, 9999999999))],
  [(0, 23, .inl ((-2147483648), 2147483647, 9999999999))],
  [(0, 23, .inl ((-2147483648), 2147483647, 9999999999))],
  [(0, 23, .inl ((-2147483648), 2147483647, 9999999999))],
  [(0, 23, .inl ((-2147483648), 2147483647, 9999999999))],
  [(0, 5, .inl ((-2147483648), 2147483647, 9999999999))],
  [(0, 159, .inl ((-2147483648), 2147483647, 9999999999))],
  [(0, 5, .inl (0, 8, 9999999999))],
  [(0, 47, .inl ((-2147483648), 2147483647, 9999999999))],
  [(0, 47, .inl ((-2147483648), 2147483647, 9999999999))],
  [(0, 47, .inl (0, 3, 9999999999))],
  [(0, 143, .inl ((-1), 7, 9999999999))],
  [(0, 143, .inl ((-2147483648), 2147483647, 9999999999))],
  [(0, 143, .inl ((-2147483648), 2147483647, 9999999999))],
  [(0, 3, .inl ((-1), 2, 9999999999))],
  [(0, 3, .inl (0, 40, 9999999999))],
  [(0, 159, .inl ((-2147483648), 2147483647, 9999999999))],
  [],
  [(0, 11, .inl (3, 6, 9999999999))],
  [(0, 15, .inl ((-2147483648), 2147483647, 9999999999))],
  [(0, 15, .inl ((-2147483648), 2147483647, 9999999999))],
  [(0, 5, .inl (0, 5, 9999999999))]]
end
section
/-! RULES over the invariant -/
/-- in each ORDER's lines, as far as a line's tests are counted, a test's field is one -/
def tO (h : im_H) : Prop := ∀ (o l i : Nat) (c f : Int32), o ∈ [98, 105, 112, 119, 126, 133] → l < 8 → rd h (o + 3) l = some (.int c) → (i : Int) < c.toInt → i < 3 → rd h (o + 4) (3 * l + i) = some (.int f) → 0 ≤ f.toInt
def spc (i : Nat) : Bool := decide (i ∈ [101, 102, 108, 109, 115, 116, 122, 123, 129, 130, 136, 137])
theorem tO_up {h h2 : im_H} {i k : Nat} {v : Value} (hO : tO h) (hu : up h h2 i k v) (hs : spc i = false) : tO h2 := by
  intro o l m c f ho hl hc hm h3 hf
  have hs2 : i ∉ [101, 102, 108, 109, 115, 116, 122, 123, 129, 130, 136, 137] := by simpa [spc] using hs
  have e1 : o + 3 ≠ i := by
    intro e
    apply hs2
    rw [← e]
    simp only [List.mem_cons, List.not_mem_nil, or_false] at ho ⊢
    omega
  have e2 : o + 4 ≠ i := by
    intro e
    apply hs2
    rw [← e]
    simp only [List.mem_cons, List.not_mem_nil, or_false] at ho ⊢
    omega
  rw [hu.2 _ _ (Or.inl e1)] at hc
  rw [hu.2 _ _ (Or.inl e2)] at hf
  exact hO o l m c f ho hl hc hm h3 hf
def tI (h : im_H) : Prop := im_shs h = tS ∧ (∀ i k t, tq tT i k = some t → ∃ v, rd h i k = some v ∧ okV t v) ∧ tO h
theorem up_of {h : im_H} {i k : Nat} {e e2 : im_E} {v : Value} (he : h[i]? = some e) (h1 : rdE e2 k = some v) (h2 : ∀ m, m ≠ k → rdE e2 m = rdE e m) : up h (h.set i e2) i k v := by
  have hi : i < h.length := (List.getElem?_eq_some_iff.mp he).1
  refine ⟨by rw [rd_eq hi]; exact h1, fun j m hjm => ?_⟩
  by_cases hj : j = i
  · subst hj
    rw [rd_eq hi, h2 m (by rcases hjm with h | h; exact absurd rfl h; exact h)]
    unfold rd
    rw [he]
    rfl
  · exact rd_ne hj
theorem tI_stO {h : im_H} {i k : Nat} {e e2 : im_E} {v : Value} (hI : tI h) (he : h[i]? = some e) (hs : im_sh e2 = im_sh e) (h1 : rdE e2 k = some v) (h2 : ∀ m, m ≠ k → rdE e2 m = rdE e m) (ho : ∀ t, tq tT i k = some t → okV t v) (hO : up h (h.set i e2) i k v → tO (h.set i e2)) : tI (h.set i e2) ∧ up h (h.set i e2) i k v := by
  have hu := up_of he h1 h2
  refine ⟨⟨by rw [sh_set he hs]; exact hI.1, fun j m t ht => ?_, hO hu⟩, hu⟩
  by_cases hjm : j = i ∧ m = k
  · obtain ⟨rfl, rfl⟩ := hjm
    exact ⟨v, hu.1, ho t ht⟩
  · rw [hu.2 j m (by by_cases hj : j = i; exact Or.inr (fun hm => hjm ⟨hj, hm⟩); exact Or.inl hj)]
    exact hI.2.1 j m t ht
theorem tI_st {h : im_H} {i k : Nat} {e e2 : im_E} {v : Value} (hI : tI h) (he : h[i]? = some e) (hs : im_sh e2 = im_sh e) (h1 : rdE e2 k = some v) (h2 : ∀ m, m ≠ k → rdE e2 m = rdE e m) (ho : ∀ t, tq tT i k = some t → okV t v) (hsp : spc i = false) : tI (h.set i e2) ∧ up h (h.set i e2) i k v := tI_stO hI he hs h1 h2 ho (fun hu => tO_up hI.2.2 hu hsp)
/-- nothing changes but the places of F (cell, from, to) -/
def inF (F : List (Nat × Nat × Nat)) (i k : Nat) : Bool := F.any (fun q => decide (q.1 = i) && decide (q.2.1 ≤ k) && decide (k ≤ q.2.2))
def fr (F : List (Nat × Nat × Nat)) (h h2 : im_H) : Prop := ∀ i k, inF F i k = false → rd h2 i k = rd h i k
theorem fr_rf {F : List (Nat × Nat × Nat)} {h : im_H} : fr F h h := fun _ _ _ => rfl
theorem inF_of {F : List (Nat × Nat × Nat)} {i a b k : Nat} (hm : (i, a, b) ∈ F) (ha : a ≤ k) (hb : k ≤ b) : inF F i k = true := by
  unfold inF
  rw [List.any_eq_true]
  exact ⟨_, hm, by simp [ha, hb]⟩
theorem fr_up {F : List (Nat × Nat × Nat)} {h0 h h2 : im_H} {i k a b : Nat} {v : Value} (hf : fr F h0 h) (hu : up h h2 i k v) (hm : (i, a, b) ∈ F) (ha : a ≤ k) (hb : k ≤ b) : fr F h0 h2 := by
  intro j m hjm
  rw [hu.2 j m ?_]
  · exact hf j m hjm
  · by_cases hj : j = i
    · refine Or.inr fun hm2 => ?_
      subst hj; subst hm2
      rw [inF_of hm ha hb] at hjm
      cases hjm
    · exact Or.inl hj
def subF (F1 F : List (Nat × Nat × Nat)) : Bool := F1.all (fun q => F.any (fun p => decide (p.1 = q.1) && decide (p.2.1 ≤ q.2.1) && decide (q.2.2 ≤ p.2.2)))
theorem inF_sub {F1 F : List (Nat × Nat × Nat)} (hs : subF F1 F = true) {i k : Nat} (h : inF F i k = false) : inF F1 i k = false := by
  cases h1 : inF F1 i k with
  | false => rfl
  | true =>
    exfalso
    unfold inF at h1
    obtain ⟨q, hq, h2⟩ := List.any_eq_true.mp h1
    obtain ⟨p, hp, h3⟩ := List.any_eq_true.mp (List.all_eq_true.mp hs q hq)
    simp only [Bool.and_eq_true, decide_eq_true_eq] at h2 h3
    have : inF F i k = true := by
      unfold inF
      rw [List.any_eq_true]
      refine ⟨p, hp, ?_⟩
      simp only [Bool.and_eq_true, decide_eq_true_eq]
      omega
    rw [this] at h
    cases h
theorem fr_tr {F1 F : List (Nat × Nat × Nat)} {h0 h h2 : im_H} (hf : fr F h0 h) (h1 : fr F1 h h2) (hs : subF F1 F = true) : fr F h0 h2 := fun i k hk => (h1 i k (inF_sub hs hk)).trans (hf i k hk)
section TR
variable {K : im_K} {d : Nat} {M : im_M} {pc p2 : Nat} {lv lv2 : im_L} {st : List Value} {h : im_H} {Q : Option Value → im_H → Prop}
theorem tg_e {idx a b x R i n : Nat} {v : Value} (ha : im_at M pc = some (.getfield idx, [a, b, 0, 0, x])) (hp : pc + 3 = p2) (hI : tI h) (hR : R = 16 + i) (hs : tS[i]? = some (3, a, n)) (e : rd h i b = some v) (k : EvP K d M (p2, lv, v :: st, h) Q) : EvP K d M (pc, lv, .ref R :: st, h) Q := by
  subst hp; subst hR
  obtain ⟨fs, ho, hl⟩ := sh_obj (h := h) (by rw [hI.1]; exact hs)
  exact evp (fun r => st_get ha ho (by rw [← rd_obj ho]; exact e)) k
theorem tg_i {idx a b x R i n : Nat} {lo hi ho : Int} (ha : im_at M pc = some (.getfield idx, [a, b, 0, 0, x])) (hp : pc + 3 = p2) (hI : tI h) (hR : R = 16 + i) (hs : tS[i]? = some (3, a, n)) (ht : tq tT i b = some (.inl (lo, hi, ho))) (k : ∀ y : Int32, lo ≤ y.toInt → y.toInt ≤ hi → rd h i b = some (.int y) → EvP K d M (p2, lv, .int y :: st, h) Q) : EvP K d M (pc, lv, .ref R :: st, h) Q := by
  obtain ⟨v, hv, y, rfl, h1, h2, _⟩ := hI.2.1 i b _ ht
  exact tg_e ha hp hI hR hs hv (k y h1 h2 hv)
theorem tg_r {idx a b x R i n r : Nat} (ha : im_at M pc = some (.getfield idx, [a, b, 0, 0, x])) (hp : pc + 3 = p2) (hI : tI h) (hR : R = 16 + i) (hs : tS[i]? = some (3, a, n)) (ht : tq tT i b = some (.inr (.inl r))) (k : EvP K d M (p2, lv, .ref r :: st, h) Q) : EvP K d M (pc, lv, .ref R :: st, h) Q := by
  obtain ⟨v, hv, rfl⟩ := hI.2.1 i b _ ht
  exact tg_e ha hp hI hR hs hv k
theorem tg_n {idx a b x R i n : Nat} {rs : List Nat} (ha : im_at M pc = some (.getfield idx, [a, b, 0, 0, x])) (hp : pc + 3 = p2) (hI : tI h) (hR : R = 16 + i) (hs : tS[i]? = some (3, a, n)) (ht : tq tT i b = some (.inr (.inr rs))) (k1 : rd h i b = some .null → EvP K d M (p2, lv, .null :: st, h) Q) (k2 : ∀ r, r ∈ rs → rd h i b = some (.ref r) → EvP K d M (p2, lv, .ref r :: st, h) Q) : EvP K d M (pc, lv, .ref R :: st, h) Q := by
  obtain ⟨v, hv, rfl | ⟨r, hr, rfl⟩⟩ := hI.2.1 i b _ ht
  · exact tg_e ha hp hI hR hs hv (k1 hv)
  · exact tg_e ha hp hI hR hs hv (k2 r hr hv)
theorem tp_f {idx a b x R i n : Nat} {ty : FieldType} {v : Value} (ha : im_at M pc = some (.putfield idx, [a, b, 0, 0, x])) (hp : pc + 3 = p2) (hI : tI h) (hR : R = 16 + i) (hs : tS[i]? = some (3, a, n)) (hb : b < n) (hK : ((K.2.1[a]?).bind fun t => t[b]?) = some ty) (hf : im_fit ty v = true) (ho : ∀ t, tq tT i b = some t → okV t v) (hsp : spc i = false) (k : ∀ h2, tI h2 → up h h2 i b v → EvP K d M (p2, lv, st, h2) Q) : EvP K d M (pc, lv, v :: .ref R :: st, h) Q := by
  subst hp; subst hR
  obtain ⟨fs, hob, hl⟩ := sh_obj (h := h) (by rw [hI.1]; exact hs)
  obtain ⟨j, hj, hc⟩ := im_obj_eq hob
  have : j = i := by omega
  subst this
  have hbl : b < fs.length := by omega
  obtain ⟨h1, h2⟩ := tI_st (e2 := .inr (a, fs.set b v)) (k := b) (v := v) hI hc (by simp [im_sh]) (by show (fs.set b v)[b]? = _; rw [List.getElem?_set_self hbl]) (fun m hm => by show (fs.set b v)[m]? = fs[m]?; rw [List.getElem?_set_ne (fun e => hm e.symm)]) ho hsp
  exact evp (fun r => st_put ha rfl hob hK hf hbl) (k _ h1 h2)
theorem tl_e {R i n t : Nat} {j y : Int32} (ht : t = 0 ∨ t = 1) (ha : im_at M pc = some (if t = 0 then .iaload else .baload, [])) (hp : pc + 1 = p2) (hI : tI h) (hR : R = 16 + i) (hs : tS[i]? = some (0, t, n)) (h0 : 0 ≤ j.toInt) (h1 : j.toInt < n) (e : rd h i j.toInt.toNat = some (.int y)) (k : EvP K d M (p2, lv, .int y :: st, h) Q) : EvP K d M (pc, lv, .int j :: .ref R :: st, h) Q := by
  subst hp; subst hR
  obtain ⟨l, hl, hn⟩ := sh_ia (h := h) (by rw [hI.1]; exact hs)
  have hy : l.getD j.toNatClampNeg 0 = y := by
    rw [rd_ia hl] at e
    rw [show j.toNatClampNeg = j.toInt.toNat from rfl, List.getD_eq_getElem?_getD]
    cases hq : l[j.toInt.toNat]? with
    | none => rw [hq] at e; cases e
    | some z => rw [hq] at e; cases e; rfl
  rcases ht with rfl | rfl
  · exact evp (fun r => st_iald ha (by omega) hl (in_at hn h0 (by omega)) hy) k
  · exact evp (fun r => st_bald ha hl (in_at hn h0 (by omega)) hy) k
theorem tl_i {R i n m : Nat} {j : Int32} {lo hi ho : Int} (ha : im_at M pc = some (.iaload, [])) (hp : pc + 1 = p2) (hI : tI h) (hR : R = 16 + i) (hs : tS[i]? = some (0, 0, n)) (ht : tT.getD i [] = [(0, m, .inl (lo, hi, ho))]) (hm : m + 1 = n) (h0 : 0 ≤ j.toInt) (h1 : j.toInt < n) (k : ∀ y : Int32, lo ≤ y.toInt → y.toInt ≤ hi → y.toInt ≠ ho → rd h i j.toInt.toNat = some (.int y) → EvP K d M (p2, lv, .int y :: st, h) Q) : EvP K d M (pc, lv, .int j :: .ref R :: st, h) Q := by
  obtain ⟨v, hv, y, rfl, a1, a2, a3⟩ := hI.2.1 i j.toInt.toNat _ (tq_row ht (by omega))
  exact tl_e (t := 0) (Or.inl rfl) ha hp hI hR hs h0 h1 hv (k y a1 a2 a3 hv)
theorem tl_b {R i n m : Nat} {j : Int32} (ha : im_at M pc = some (.baload, [])) (hp : pc + 1 = p2) (hI : tI h) (hR : R = 16 + i) (hs : tS[i]? = some (0, 1, n)) {ho : Int} (ht : tT.getD i [] = [(0, m, .inl (0, 1, ho))]) (hm : m + 1 = n) (h0 : 0 ≤ j.toInt) (h1 : j.toInt < n) (k : ∀ y : Int32, (y.toInt = 0 ∨ y.toInt = 1) → rd h i j.toInt.toNat = some (.int y) → EvP K d M (p2, lv, .int y :: st, h) Q) : EvP K d M (pc, lv, .int j :: .ref R :: st, h) Q := by
  obtain ⟨v, hv, y, rfl, a1, a2, a3⟩ := hI.2.1 i j.toInt.toNat _ (tq_row ht (by omega))
  exact tl_e (t := 1) (Or.inr rfl) ha hp hI hR hs h0 h1 hv (k y (by omega) hv)
theorem ts_st {i n t : Nat} {l : List Int32} {j x : Int32} (hI : tI h) (hl : im_ia h (16 + i) t = some l) (hn : l.length = n) (h0 : 0 ≤ j.toInt) (h1 : j.toInt < n) (ho : ∀ u, tq tT i j.toInt.toNat = some u → okV u (.int x)) (hsp : spc i = false) : tI (h.set i (.inl (t, .inl (l.set j.toNatClampNeg x)))) ∧ up h (h.set i (.inl (t, .inl (l.set j.toNatClampNeg x)))) i j.toInt.toNat (.int x) := by
  obtain ⟨q, hq, hc⟩ := im_ia_eq hl
  have : q = i := by omega
  subst this
  refine tI_st hI hc (by simp [im_sh]) ?_ ?_ ho hsp
  · show ((l.set j.toInt.toNat x)[j.toInt.toNat]?).map Value.int = _
    rw [List.getElem?_set_self (by omega)]
    rfl
  · intro m hm
    show ((l.set j.toInt.toNat x)[m]?).map Value.int = (l[m]?).map Value.int
    rw [List.getElem?_set_ne (fun e => hm e.symm)]
theorem ts_i {R i n m : Nat} {j x : Int32} {lo hi ho : Int} (ha : im_at M pc = some (.iastore, [])) (hp : pc + 1 = p2) (hI : tI h) (hR : R = 16 + i) (hs : tS[i]? = some (0, 0, n)) (ht : tT.getD i [] = [(0, m, .inl (lo, hi, ho))]) (hm : m + 1 = n) (h0 : 0 ≤ j.toInt) (h1 : j.toInt < n) (b0 : lo ≤ x.toInt) (b1 : x.toInt ≤ hi) (b2 : x.toInt ≠ ho) (hsp : spc i = false) (k : ∀ h2, tI h2 → up h h2 i j.toInt.toNat (.int x) → EvP K d M (p2, lv, st, h2) Q) : EvP K d M (pc, lv, .int x :: .int j :: .ref R :: st, h) Q := by
  subst hp; subst hR
  obtain ⟨l, hl, hn⟩ := sh_ia (h := h) (by rw [hI.1]; exact hs)
  obtain ⟨h3, h4⟩ := ts_st (x := x) hI hl hn h0 h1 (fun u hu => by rw [tq_row ht (by omega)] at hu; cases hu; exact ⟨x, rfl, b0, b1, b2⟩) hsp
  exact evp (fun r => st_iast ha rfl hl (in_at hn h0 (by omega))) (k _ h3 h4)
theorem ts_b {R i n m : Nat} {j x : Int32} {ho : Int} (ha : im_at M pc = some (.bastore, [])) (hp : pc + 1 = p2) (hI : tI h) (hR : R = 16 + i) (hs : tS[i]? = some (0, 1, n)) (ht : tT.getD i [] = [(0, m, .inl (0, 1, ho))]) (hm : m + 1 = n) (h0 : 0 ≤ j.toInt) (h1 : j.toInt < n) (b0 : x = 0 ∨ x = 1) (b2 : x.toInt ≠ ho) (hsp : spc i = false) (k : ∀ h2, tI h2 → up h h2 i j.toInt.toNat (.int x) → EvP K d M (p2, lv, st, h2) Q) : EvP K d M (pc, lv, .int x :: .int j :: .ref R :: st, h) Q := by
  subst hp; subst hR
  obtain ⟨l, hl, hn⟩ := sh_ia (h := h) (by rw [hI.1]; exact hs)
  have hb : 0 ≤ x.toInt ∧ x.toInt ≤ 1 := by rcases b0 with rfl | rfl <;> decide
  obtain ⟨h3, h4⟩ := ts_st (x := x) hI hl hn h0 h1 (fun u hu => by rw [tq_row ht (by omega)] at hu; cases hu; exact ⟨x, rfl, hb.1, hb.2, b2⟩) hsp
  exact evp (fun r => st_bast ha rfl hl (in_at hn h0 (by omega)) b0) (k _ h3 h4)
/-- a row of references that never changes -/
theorem tl_q {R i n t : Nat} {j : Int32} {f : Nat → Nat} (ha : im_at M pc = some (.aaload, [])) (hp : pc + 1 = p2) (hI : tI h) (hR : R = 16 + i) (hs : tS[i]? = some (2, t, n)) (ht : 3 ≤ t ∧ t < 8) (hq : ∀ k, k < n → tq tT i k = some (.inr (.inl (f k)))) (h0 : 0 ≤ j.toInt) (h1 : j.toInt < n) (k : EvP K d M (p2, lv, .ref (f j.toInt.toNat) :: st, h) Q) : EvP K d M (pc, lv, .int j :: .ref R :: st, h) Q := by
  subst hp; subst hR
  have hk : j.toInt.toNat < n := by omega
  obtain ⟨v, hv, rfl⟩ := hI.2.1 i j.toInt.toNat _ (hq _ hk)
  have hsh : (im_shs h)[i]? = some (2, t, n) := by rw [hI.1]; exact hs
  unfold im_shs at hsh
  rw [List.getElem?_map] at hsh
  unfold rd at hv
  cases hx : h[i]? with
  | none => rw [hx] at hsh; cases hsh
  | some x =>
    rw [hx] at hsh hv
    rcases x with ⟨t2, l | l | l⟩ | ⟨c2, fs⟩
    · simp [im_sh] at hsh
    · simp [im_sh] at hsh
    · simp [im_sh] at hsh
      obtain ⟨rfl, hn⟩ := hsh
      have hqa : im_qa h (16 + i) = some (t2, l) := by
        unfold im_qa
        rw [if_pos (by omega), show 16 + i - 16 = i by omega, hx]
      have hv2 : im_rf (l.getD j.toNatClampNeg none) = .ref (f j.toInt.toNat) := by
        have hv3 : (l[j.toInt.toNat]?).map im_rf = some (.ref (f j.toInt.toNat)) := hv
        rw [show j.toNatClampNeg = j.toInt.toNat from rfl, List.getD_eq_getElem?_getD]
        cases hw : l[j.toInt.toNat]? with
        | none => rw [hw] at hv3; cases hv3
        | some z => rw [hw] at hv3; exact Option.some.inj hv3
      exact evp (fun r => st_aald ha hqa ⟨in_at hn h0 (by omega), ht⟩ hv2) k
    · simp [im_sh] at hsh
/-- a static row -/
theorem tl_s {R n : Nat} {l : List Int32} {j : Int32} {lo hi : Int} (ha : im_at M pc = some (.iaload, [])) (hp : pc + 1 = p2) (hR : ¬ 16 ≤ R) (hl : K.1[R]? = some l) (hn : l.length = n) (hb : ∀ k, k < n → lo ≤ (l.getD k 0).toInt ∧ (l.getD k 0).toInt ≤ hi) (h0 : 0 ≤ j.toInt) (h1 : j.toInt < n) (k : ∀ y : Int32, lo ≤ y.toInt → y.toInt ≤ hi → l.getD j.toInt.toNat 0 = y → EvP K d M (p2, lv, .int y :: st, h) Q) : EvP K d M (pc, lv, .int j :: .ref R :: st, h) Q := by
  subst hp
  have hk : j.toInt.toNat < n := by omega
  exact evp (fun r => st_isld ha hR hl (in_at hn h0 (by omega)) rfl) (k _ (hb _ hk).1 (hb _ hk).2 rfl)
end TR
end
section
/-! the plain rules, told by what the end meets; branches; calls -/
section TQ
variable {K : im_K} {d : Nat} {M : im_M} {pc p2 : Nat} {lv lv2 : im_L} {st : List Value} {h : im_H} {Q : Option Value → im_H → Prop}
theorem te_aload_n {k0 : Fin 4} {x : Nat} (ha : im_at M pc = some (.aload_n k0, [])) (hp : pc + 1 = p2) (hl : im_lk lv k0 = some (.ref x)) (k : EvP K d M (p2, lv, .ref x :: st, h) Q) : EvP K d M (pc, lv, st, h) Q := evp (fun r => sp_aload_n ha hp hl) k
theorem te_aload {k0 : Nat} {x : Nat} (ha : im_at M pc = some (.aload k0, [])) (hp : pc + 2 = p2) (hl : im_lk lv k0 = some (.ref x)) (k : EvP K d M (p2, lv, .ref x :: st, h) Q) : EvP K d M (pc, lv, st, h) Q := evp (fun r => sp_aload ha hp hl) k
theorem te_iload_n {k0 : Fin 4} {x : Int32} (ha : im_at M pc = some (.iload_n k0, [])) (hp : pc + 1 = p2) (hl : im_lk lv k0 = some (.int x)) (k : EvP K d M (p2, lv, .int x :: st, h) Q) : EvP K d M (pc, lv, st, h) Q := evp (fun r => sp_iload_n ha hp hl) k
theorem te_iload {k0 : Nat} {x : Int32} (ha : im_at M pc = some (.iload k0, [])) (hp : pc + 2 = p2) (hl : im_lk lv k0 = some (.int x)) (k : EvP K d M (p2, lv, .int x :: st, h) Q) : EvP K d M (pc, lv, st, h) Q := evp (fun r => sp_iload ha hp hl) k
theorem te_lload_n {k0 : Fin 4} {x : Int64} (ha : im_at M pc = some (.lload_n k0, [])) (hp : pc + 1 = p2) (hl : im_lk lv k0 = some (.long x)) (k : EvP K d M (p2, lv, .long x :: st, h) Q) : EvP K d M (pc, lv, st, h) Q := evp (fun r => sp_lload_n ha hp hl) k
theorem te_iconst {n : Int} {x : Int32} (ha : im_at M pc = some (.iconst n, [])) (hp : pc + 1 = p2) (hv : Int32.ofInt n = x) (k : EvP K d M (p2, lv, .int x :: st, h) Q) : EvP K d M (pc, lv, st, h) Q := evp (fun r => sp_iconst ha hp hv) k
theorem te_bipush {n : Int} {x : Int32} (ha : im_at M pc = some (.bipush n, [])) (hp : pc + 2 = p2) (hv : (Int8.ofInt n).toInt32 = x) (k : EvP K d M (p2, lv, .int x :: st, h) Q) : EvP K d M (pc, lv, st, h) Q := evp (fun r => sp_bipush ha hp hv) k
theorem te_sipush {n : Int} {x : Int32} (ha : im_at M pc = some (.sipush n, [])) (hp : pc + 3 = p2) (hv : (Int16.ofInt n).toInt32 = x) (k : EvP K d M (p2, lv, .int x :: st, h) Q) : EvP K d M (pc, lv, st, h) Q := evp (fun r => sp_sipush ha hp hv) k
theorem te_null (ha : im_at M pc = some (.aconst_null, [])) (hp : pc + 1 = p2) (k : EvP K d M (p2, lv, .null :: st, h) Q) : EvP K d M (pc, lv, st, h) Q := evp (fun r => sp_null ha hp) k
theorem te_istore_n {k0 : Fin 4} {x : Int32} (ha : im_at M pc = some (.istore_n k0, [])) (hp : pc + 1 = p2) (hk : (k0 : Nat) < M.2.2.1) (hl : im_pt lv k0 (.int x) = lv2) (k : EvP K d M (p2, lv2, st, h) Q) : EvP K d M (pc, lv, .int x :: st, h) Q := evp (fun r => sp_istore_n ha hp hk hl) k
theorem te_istore {k0 : Nat} {x : Int32} (ha : im_at M pc = some (.istore k0, [])) (hp : pc + 2 = p2) (hk : (k0 : Nat) < M.2.2.1) (hl : im_pt lv k0 (.int x) = lv2) (k : EvP K d M (p2, lv2, st, h) Q) : EvP K d M (pc, lv, .int x :: st, h) Q := evp (fun r => sp_istore ha hp hk hl) k
theorem te_astore_n {k0 : Fin 4} {x : Nat} (ha : im_at M pc = some (.astore_n k0, [])) (hp : pc + 1 = p2) (hk : (k0 : Nat) < M.2.2.1) (hl : im_pt lv k0 (.ref x) = lv2) (k : EvP K d M (p2, lv2, st, h) Q) : EvP K d M (pc, lv, .ref x :: st, h) Q := evp (fun r => sp_astore_n ha hp hk hl) k
theorem te_astore {k0 : Nat} {x : Nat} (ha : im_at M pc = some (.astore k0, [])) (hp : pc + 2 = p2) (hk : (k0 : Nat) < M.2.2.1) (hl : im_pt lv k0 (.ref x) = lv2) (k : EvP K d M (p2, lv2, st, h) Q) : EvP K d M (pc, lv, .ref x :: st, h) Q := evp (fun r => sp_astore ha hp hk hl) k
theorem te_iinc {k0 : Nat} {n : Int} {x y : Int32} (ha : im_at M pc = some (.iinc k0 n, [])) (hp : pc + 3 = p2) (hk : k0 < M.2.2.1) (hx : im_lk lv k0 = some (.int x)) (hy : x + Int32.ofInt n = y) (hl : im_pt lv k0 (.int y) = lv2) (k : EvP K d M (p2, lv2, st, h) Q) : EvP K d M (pc, lv, st, h) Q := evp (fun r => sp_iinc ha hp hk hx hy hl) k
theorem te_dup {v : Value} (ha : im_at M pc = some (.dup, [])) (hp : pc + 1 = p2) (hv : v.category = 1) (k : EvP K d M (p2, lv, v :: v :: st, h) Q) : EvP K d M (pc, lv, v :: st, h) Q := evp (fun r => sp_dup ha hp hv) k
theorem te_dup2 {v w : Value} (ha : im_at M pc = some (.dup2, [])) (hp : pc + 1 = p2) (hv : v.category = 1 ∧ w.category = 1) (k : EvP K d M (p2, lv, v :: w :: v :: w :: st, h) Q) : EvP K d M (pc, lv, v :: w :: st, h) Q := evp (fun r => sp_dup2 ha hp hv) k
theorem te_pop {v : Value} (ha : im_at M pc = some (.pop, [])) (hp : pc + 1 = p2) (hv : v.category = 1) (k : EvP K d M (p2, lv, st, h) Q) : EvP K d M (pc, lv, v :: st, h) Q := evp (fun r => sp_pop ha hp hv) k
theorem te_iadd {x y z : Int32} (ha : im_at M pc = some (.iadd, [])) (hp : pc + 1 = p2) (hz : x + y = z) (k : EvP K d M (p2, lv, .int z :: st, h) Q) : EvP K d M (pc, lv, .int y :: .int x :: st, h) Q := evp (fun r => sp_iadd ha hp hz) k
theorem te_isub {x y z : Int32} (ha : im_at M pc = some (.isub, [])) (hp : pc + 1 = p2) (hz : x - y = z) (k : EvP K d M (p2, lv, .int z :: st, h) Q) : EvP K d M (pc, lv, .int y :: .int x :: st, h) Q := evp (fun r => sp_isub ha hp hz) k
theorem te_imul {x y z : Int32} (ha : im_at M pc = some (.imul, [])) (hp : pc + 1 = p2) (hz : x * y = z) (k : EvP K d M (p2, lv, .int z :: st, h) Q) : EvP K d M (pc, lv, .int y :: .int x :: st, h) Q := evp (fun r => sp_imul ha hp hz) k
theorem te_iand {x y z : Int32} (ha : im_at M pc = some (.iand, [])) (hp : pc + 1 = p2) (hz : x &&& y = z) (k : EvP K d M (p2, lv, .int z :: st, h) Q) : EvP K d M (pc, lv, .int y :: .int x :: st, h) Q := evp (fun r => sp_iand ha hp hz) k
theorem te_ior {x y z : Int32} (ha : im_at M pc = some (.ior, [])) (hp : pc + 1 = p2) (hz : x ||| y = z) (k : EvP K d M (p2, lv, .int z :: st, h) Q) : EvP K d M (pc, lv, .int y :: .int x :: st, h) Q := evp (fun r => sp_ior ha hp hz) k
theorem te_ishl {x y z : Int32} (ha : im_at M pc = some (.ishl, [])) (hp : pc + 1 = p2) (hz : x <<< (y &&& 31) = z) (k : EvP K d M (p2, lv, .int z :: st, h) Q) : EvP K d M (pc, lv, .int y :: .int x :: st, h) Q := evp (fun r => sp_ishl ha hp hz) k
theorem te_ishr {x y z : Int32} (ha : im_at M pc = some (.ishr, [])) (hp : pc + 1 = p2) (hz : x >>> (y &&& 31) = z) (k : EvP K d M (p2, lv, .int z :: st, h) Q) : EvP K d M (pc, lv, .int y :: .int x :: st, h) Q := evp (fun r => sp_ishr ha hp hz) k
theorem te_idiv {x y z : Int32} (ha : im_at M pc = some (.idiv, [])) (hp : pc + 1 = p2) (hy : ¬ y = 0) (hz : x / y = z) (k : EvP K d M (p2, lv, .int z :: st, h) Q) : EvP K d M (pc, lv, .int y :: .int x :: st, h) Q := evp (fun r => sp_idiv ha hp hy hz) k
theorem te_irem {x y z : Int32} (ha : im_at M pc = some (.irem, [])) (hp : pc + 1 = p2) (hy : ¬ y = 0) (hz : x - x / y * y = z) (k : EvP K d M (p2, lv, .int z :: st, h) Q) : EvP K d M (pc, lv, .int y :: .int x :: st, h) Q := evp (fun r => sp_irem ha hp hy hz) k
theorem te_goto {off : Int} {a : Nat} (ha : im_at M pc = some (.goto off, [a])) (k : EvP K d M (a, lv, st, h) Q) : EvP K d M (pc, lv, st, h) Q := evp (fun r => sp_goto ha) k
theorem te_tsIn {dflt lo hi off : Int} {offs : Array Int} {a b w : Nat} {x : Int32} (k : Int) (ha : im_at M pc = some (.tableswitch dflt lo hi offs, [a, b, w])) (hx : x.toInt = k) (h1 : ¬ k < lo) (h2 : ¬ hi < k) (ho : offs[(k - lo).toNat]? = some off) (hp : (pc : Int) + off = (p2 : Int)) (kk : EvP K d M (p2, lv, st, h) Q) : EvP K d M (pc, lv, .int x :: st, h) Q := evp (fun r => sp_tsIn k ha hx h1 h2 ho hp) kk
theorem te_tsOut {dflt lo hi : Int} {offs : Array Int} {b w : Nat} {x : Int32} (ha : im_at M pc = some (.tableswitch dflt lo hi offs, [p2, b, w])) (hx : x.toInt < lo ∨ hi < x.toInt) (hp : (pc : Int) + dflt = (p2 : Int)) (kk : EvP K d M (p2, lv, st, h) Q) : EvP K d M (pc, lv, .int x :: st, h) Q := evp (fun r => sp_tsOut ha hx hp) kk
theorem te_ls {dflt : Int} {ps : Array (Int × Int)} {w : Nat} {x : Int32} {off : Int} (ha : im_at M pc = some (.lookupswitch dflt ps, [0, 0, w])) (hs : (ps.toList.zip (ps.toList.drop 1)).all (fun (a, next) => a.1 < next.1) = true) (ho : Op.lookupswitch.offset ps.toList dflt x.toInt = off) (hp : (pc : Int) + off = (p2 : Int)) (kk : EvP K d M (p2, lv, st, h) Q) : EvP K d M (pc, lv, .int x :: st, h) Q := evp (fun r => sp_ls ha hs ho hp) kk
theorem te_gst {idx a b x : Nat} (ha : im_at M pc = some (.getstatic idx, [a, b, 0, 0, x])) (hp : pc + 3 = p2) (h5 : a < 5) (k : EvP K d M (p2, lv, .ref a :: st, h) Q) : EvP K d M (pc, lv, st, h) Q := evp (fun r => sp_gst ha hp h5) k
theorem te_ldc2 {idx a y : Nat} {x : Int64} (ha : im_at M pc = some (.ldc2_w idx, [a, 0, 0, 0, y])) (hp : pc + 3 = p2) (hx : K.2.2.1[a]? = some x) (k : EvP K d M (p2, lv, .long x :: st, h) Q) : EvP K d M (pc, lv, st, h) Q := evp (fun r => sp_ldc2 ha hp hx) k
theorem te_i2l {x : Int32} {z : Int64} (ha : im_at M pc = some (.i2l, [])) (hp : pc + 1 = p2) (hz : x.toInt64 = z) (k : EvP K d M (p2, lv, .long z :: st, h) Q) : EvP K d M (pc, lv, .int x :: st, h) Q := evp (fun r => sp_i2l ha hp hz) k
theorem te_l2i {x : Int64} {z : Int32} (ha : im_at M pc = some (.l2i, [])) (hp : pc + 1 = p2) (hz : x.toInt32 = z) (k : EvP K d M (p2, lv, .int z :: st, h) Q) : EvP K d M (pc, lv, .long x :: st, h) Q := evp (fun r => sp_l2i ha hp hz) k
theorem te_lshr {x z : Int64} {y : Int32} (ha : im_at M pc = some (.lshr, [])) (hp : pc + 1 = p2) (hz : x >>> (y.toInt64 &&& 63) = z) (k : EvP K d M (p2, lv, .long z :: st, h) Q) : EvP K d M (pc, lv, .int y :: .long x :: st, h) Q := evp (fun r => sp_lshr ha hp hz) k
theorem te_land {x y z : Int64} (ha : im_at M pc = some (.land, [])) (hp : pc + 1 = p2) (hz : x &&& y = z) (k : EvP K d M (p2, lv, .long z :: st, h) Q) : EvP K d M (pc, lv, .long y :: .long x :: st, h) Q := evp (fun r => sp_land ha hp hz) k
theorem te_max {idx w z0 a : Nat} {x y z : Int32} (ha : im_at M pc = some (.invokestatic idx, [0, 5, w, z0, a])) (hp : pc + 3 = p2) (hc : im_cat st = true) (hz : (if x < y then y else x) = z) (k : EvP K d M (p2, lv, .int z :: st, h) Q) : EvP K d M (pc, lv, .int y :: .int x :: st, h) Q := evp (fun r => sp_max ha hp hc hz) k
theorem te_min {idx w z0 a : Nat} {x y z : Int32} (ha : im_at M pc = some (.invokestatic idx, [0, 6, w, z0, a])) (hp : pc + 3 = p2) (hc : im_cat st = true) (hz : (if y < x then y else x) = z) (k : EvP K d M (p2, lv, .int z :: st, h) Q) : EvP K d M (pc, lv, .int y :: .int x :: st, h) Q := evp (fun r => sp_min ha hp hc hz) k
theorem te_alen {R : Nat} {l : List Int32} {x : Int32} (ha : im_at M pc = some (.arraylength, [])) (hp : pc + 1 = p2) (hR : 16 ≤ R) (hl : im_ia h R 0 = some l) (hx : Int32.ofNat l.length = x) (k : EvP K d M (p2, lv, .int x :: st, h) Q) : EvP K d M (pc, lv, .ref R :: st, h) Q := evp (fun r => sp_alen ha hp hR hl hx) k
theorem te_lor {x y z : Int64} (ha : im_at M pc = some (.lor, [])) (hp : pc + 1 = p2) (hz : x ||| y = z) (k : EvP K d M (p2, lv, .long z :: st, h) Q) : EvP K d M (pc, lv, .long y :: .long x :: st, h) Q := evp (fun r => sp_lor ha hp hz) k
theorem te_lshl {x z : Int64} {y : Int32} (ha : im_at M pc = some (.lshl, [])) (hp : pc + 1 = p2) (hz : x <<< (y.toInt64 &&& 63) = z) (k : EvP K d M (p2, lv, .long z :: st, h) Q) : EvP K d M (pc, lv, .int y :: .long x :: st, h) Q := evp (fun r => sp_lshl ha hp hz) k
theorem te_lcmp {x y : Int64} {z : Int32} (ha : im_at M pc = some (.lcmp, [])) (hp : pc + 1 = p2) (hz : lg_cmp x y = z) (k : EvP K d M (p2, lv, .int z :: st, h) Q) : EvP K d M (pc, lv, .long y :: .long x :: st, h) Q := evp (fun r => sp_lcmp ha hp hz) k
theorem te_new {idx a x R : Nat} {tys : List FieldType} (ha : im_at M pc = some (.new idx, [a, 0, 0, 0, x])) (hp : pc + 3 = p2) (ht : K.2.1[a]? = some tys) (hR : 16 + h.length = R) (k : EvP K d M (p2, lv, .ref R :: st, h ++ [.inr (a, tys.map defaultValue)]) Q) : EvP K d M (pc, lv, st, h) Q := evp (fun r => sp_new ha hp ht hR) k
theorem te_slen {R : Nat} {l : List Int32} {x : Int32} (ha : im_at M pc = some (.arraylength, [])) (hp : pc + 1 = p2) (hR : ¬ 16 ≤ R) (hl : K.1[R]? = some l) (hx : Int32.ofNat l.length = x) (k : EvP K d M (p2, lv, .int x :: st, h) Q) : EvP K d M (pc, lv, .ref R :: st, h) Q := evp (fun r => sp_slen ha hp hR hl hx) k
theorem tb_eq {off : Int} {tg : Nat} {x y : Int32} {a b : Int} (ha : im_at M pc = some (.if_icmp .eq off, [tg])) (hp : pc + 3 = p2) (hx : x.toInt = a) (hy : y.toInt = b) (k1 : a = b → EvP K d M (tg, lv, st, h) Q) (k2 : ¬ (a = b) → EvP K d M (p2, lv, st, h) Q) : EvP K d M (pc, lv, .int y :: .int x :: st, h) Q := by
  subst hp
  by_cases hc : a = b
  · exact evp (fun r => st_icmp (b := true) ha (cn_eq_T hx hy hc)) (k1 hc)
  · exact evp (fun r => st_icmp (b := false) ha (cn_eq_F hx hy hc)) (k2 hc)
theorem tz_eq {off : Int} {tg : Nat} {x : Int32} {a : Int} (ha : im_at M pc = some (.ifCond .eq off, [tg])) (hp : pc + 3 = p2) (hx : x.toInt = a) (k1 : a = 0 → EvP K d M (tg, lv, st, h) Q) (k2 : ¬ (a = 0) → EvP K d M (p2, lv, st, h) Q) : EvP K d M (pc, lv, .int x :: st, h) Q := by
  subst hp
  by_cases hc : a = 0
  · exact evp (fun r => st_ifc (b := true) ha (cn_eq_T hx rfl hc)) (k1 hc)
  · exact evp (fun r => st_ifc (b := false) ha (cn_eq_F hx rfl hc)) (k2 hc)
theorem tb_ne {off : Int} {tg : Nat} {x y : Int32} {a b : Int} (ha : im_at M pc = some (.if_icmp .ne off, [tg])) (hp : pc + 3 = p2) (hx : x.toInt = a) (hy : y.toInt = b) (k1 : ¬ a = b → EvP K d M (tg, lv, st, h) Q) (k2 : ¬ (¬ a = b) → EvP K d M (p2, lv, st, h) Q) : EvP K d M (pc, lv, .int y :: .int x :: st, h) Q := by
  subst hp
  by_cases hc : ¬ a = b
  · exact evp (fun r => st_icmp (b := true) ha (cn_ne_T hx hy hc)) (k1 hc)
  · exact evp (fun r => st_icmp (b := false) ha (cn_ne_F hx hy hc)) (k2 hc)
theorem tz_ne {off : Int} {tg : Nat} {x : Int32} {a : Int} (ha : im_at M pc = some (.ifCond .ne off, [tg])) (hp : pc + 3 = p2) (hx : x.toInt = a) (k1 : ¬ a = 0 → EvP K d M (tg, lv, st, h) Q) (k2 : ¬ (¬ a = 0) → EvP K d M (p2, lv, st, h) Q) : EvP K d M (pc, lv, .int x :: st, h) Q := by
  subst hp
  by_cases hc : ¬ a = 0
  · exact evp (fun r => st_ifc (b := true) ha (cn_ne_T hx rfl hc)) (k1 hc)
  · exact evp (fun r => st_ifc (b := false) ha (cn_ne_F hx rfl hc)) (k2 hc)
theorem tb_lt {off : Int} {tg : Nat} {x y : Int32} {a b : Int} (ha : im_at M pc = some (.if_icmp .lt off, [tg])) (hp : pc + 3 = p2) (hx : x.toInt = a) (hy : y.toInt = b) (k1 : a < b → EvP K d M (tg, lv, st, h) Q) (k2 : ¬ (a < b) → EvP K d M (p2, lv, st, h) Q) : EvP K d M (pc, lv, .int y :: .int x :: st, h) Q := by
  subst hp
  by_cases hc : a < b
  · exact evp (fun r => st_icmp (b := true) ha (cn_lt_T hx hy hc)) (k1 hc)
  · exact evp (fun r => st_icmp (b := false) ha (cn_lt_F hx hy hc)) (k2 hc)
theorem tz_lt {off : Int} {tg : Nat} {x : Int32} {a : Int} (ha : im_at M pc = some (.ifCond .lt off, [tg])) (hp : pc + 3 = p2) (hx : x.toInt = a) (k1 : a < 0 → EvP K d M (tg, lv, st, h) Q) (k2 : ¬ (a < 0) → EvP K d M (p2, lv, st, h) Q) : EvP K d M (pc, lv, .int x :: st, h) Q := by
  subst hp
  by_cases hc : a < 0
  · exact evp (fun r => st_ifc (b := true) ha (cn_lt_T hx rfl hc)) (k1 hc)
  · exact evp (fun r => st_ifc (b := false) ha (cn_lt_F hx rfl hc)) (k2 hc)
theorem tb_ge {off : Int} {tg : Nat} {x y : Int32} {a b : Int} (ha : im_at M pc = some (.if_icmp .ge off, [tg])) (hp : pc + 3 = p2) (hx : x.toInt = a) (hy : y.toInt = b) (k1 : b ≤ a → EvP K d M (tg, lv, st, h) Q) (k2 : ¬ (b ≤ a) → EvP K d M (p2, lv, st, h) Q) : EvP K d M (pc, lv, .int y :: .int x :: st, h) Q := by
  subst hp
  by_cases hc : b ≤ a
  · exact evp (fun r => st_icmp (b := true) ha (cn_ge_T hx hy hc)) (k1 hc)
  · exact evp (fun r => st_icmp (b := false) ha (cn_ge_F hx hy hc)) (k2 hc)
theorem tz_ge {off : Int} {tg : Nat} {x : Int32} {a : Int} (ha : im_at M pc = some (.ifCond .ge off, [tg])) (hp : pc + 3 = p2) (hx : x.toInt = a) (k1 : 0 ≤ a → EvP K d M (tg, lv, st, h) Q) (k2 : ¬ (0 ≤ a) → EvP K d M (p2, lv, st, h) Q) : EvP K d M (pc, lv, .int x :: st, h) Q := by
  subst hp
  by_cases hc : 0 ≤ a
  · exact evp (fun r => st_ifc (b := true) ha (cn_ge_T hx rfl hc)) (k1 hc)
  · exact evp (fun r => st_ifc (b := false) ha (cn_ge_F hx rfl hc)) (k2 hc)
theorem tb_gt {off : Int} {tg : Nat} {x y : Int32} {a b : Int} (ha : im_at M pc = some (.if_icmp .gt off, [tg])) (hp : pc + 3 = p2) (hx : x.toInt = a) (hy : y.toInt = b) (k1 : b < a → EvP K d M (tg, lv, st, h) Q) (k2 : ¬ (b < a) → EvP K d M (p2, lv, st, h) Q) : EvP K d M (pc, lv, .int y :: .int x :: st, h) Q := by
  subst hp
  by_cases hc : b < a
  · exact evp (fun r => st_icmp (b := true) ha (cn_gt_T hx hy hc)) (k1 hc)
  · exact evp (fun r => st_icmp (b := false) ha (cn_gt_F hx hy hc)) (k2 hc)
theorem tz_gt {off : Int} {tg : Nat} {x : Int32} {a : Int} (ha : im_at M pc = some (.ifCond .gt off, [tg])) (hp : pc + 3 = p2) (hx : x.toInt = a) (k1 : 0 < a → EvP K d M (tg, lv, st, h) Q) (k2 : ¬ (0 < a) → EvP K d M (p2, lv, st, h) Q) : EvP K d M (pc, lv, .int x :: st, h) Q := by
  subst hp
  by_cases hc : 0 < a
  · exact evp (fun r => st_ifc (b := true) ha (cn_gt_T hx rfl hc)) (k1 hc)
  · exact evp (fun r => st_ifc (b := false) ha (cn_gt_F hx rfl hc)) (k2 hc)
theorem tb_le {off : Int} {tg : Nat} {x y : Int32} {a b : Int} (ha : im_at M pc = some (.if_icmp .le off, [tg])) (hp : pc + 3 = p2) (hx : x.toInt = a) (hy : y.toInt = b) (k1 : a ≤ b → EvP K d M (tg, lv, st, h) Q) (k2 : ¬ (a ≤ b) → EvP K d M (p2, lv, st, h) Q) : EvP K d M (pc, lv, .int y :: .int x :: st, h) Q := by
  subst hp
  by_cases hc : a ≤ b
  · exact evp (fun r => st_icmp (b := true) ha (cn_le_T hx hy hc)) (k1 hc)
  · exact evp (fun r => st_icmp (b := false) ha (cn_le_F hx hy hc)) (k2 hc)
theorem tz_le {off : Int} {tg : Nat} {x : Int32} {a : Int} (ha : im_at M pc = some (.ifCond .le off, [tg])) (hp : pc + 3 = p2) (hx : x.toInt = a) (k1 : a ≤ 0 → EvP K d M (tg, lv, st, h) Q) (k2 : ¬ (a ≤ 0) → EvP K d M (p2, lv, st, h) Q) : EvP K d M (pc, lv, .int x :: st, h) Q := by
  subst hp
  by_cases hc : a ≤ 0
  · exact evp (fun r => st_ifc (b := true) ha (cn_le_T hx rfl hc)) (k1 hc)
  · exact evp (fun r => st_ifc (b := false) ha (cn_le_F hx rfl hc)) (k2 hc)
theorem te_iret {x : Int32} (ha : im_at M pc = some (.ireturn, [])) (hr : M.2.2.2.1 = some .int) (hq : Q (some (.int x)) h) : EvP K d M (pc, lv, [.int x], h) Q := ⟨_, _, sp_iret ha hr, hq⟩
theorem te_zret {x : Int32} (ha : im_at M pc = some (.ireturn, [])) (hr : M.2.2.2.1 = some .boolean) (hx : x = 0 ∨ x = 1) (hq : Q (some (.int x)) h) : EvP K d M (pc, lv, [.int x], h) Q := ⟨_, _, sp_zret ha hr hx, hq⟩
theorem te_vret (ha : im_at M pc = some (.return_, [])) (hr : M.2.2.2.1 = none) (hq : Q none h) : EvP K d M (pc, lv, [], h) Q := ⟨_, _, sp_vret ha hr, hq⟩
theorem te_lret {x : Int64} (ha : im_at M pc = some (.lreturn, [])) (hr : M.2.2.2.1 = some .long) (hq : Q (some (.long x)) h) : EvP K d M (pc, lv, [.long x], h) Q := ⟨_, _, sp_lret ha hr, hq⟩
theorem tn_null {off : Int} {tg : Nat} (ha : im_at M pc = some (.ifnonnull off, [tg])) (hp : pc + 3 = p2) (k : EvP K d M (p2, lv, st, h) Q) : EvP K d M (pc, lv, .null :: st, h) Q := by
  subst hp
  exact evp (fun r => ev_step (st_at ha rfl)) k
theorem tn_ref {off : Int} {tg R : Nat} (ha : im_at M pc = some (.ifnonnull off, [tg])) (k : EvP K d M (tg, lv, st, h) Q) : EvP K d M (pc, lv, .ref R :: st, h) Q := evp (fun r => ev_step (st_at ha rfl)) k
theorem te_i2b {x z : Int32} (ha : im_at M pc = some (.i2b, [])) (hp : pc + 1 = p2) (hz : x.toInt8.toInt32 = z) (k : EvP K d M (p2, lv, .int z :: st, h) Q) : EvP K d M (pc, lv, .int x :: st, h) Q := by
  subst hp; subst hz
  exact evp (fun r => ev_step (st_at ha rfl)) k
theorem te_i2s {x z : Int32} (ha : im_at M pc = some (.i2s, [])) (hp : pc + 1 = p2) (hz : x.toInt16.toInt32 = z) (k : EvP K d M (p2, lv, .int z :: st, h) Q) : EvP K d M (pc, lv, .int x :: st, h) Q := by
  subst hp; subst hz
  exact evp (fun r => ev_step (st_at ha rfl)) k
theorem te_ldc {idx a y : Nat} (ha : im_at M pc = some (.ldc idx, [a, 0, 0, 0, y])) (hp : pc + 2 = p2) (hk : a < 4) (k : EvP K d M (p2, lv, .ref (6 + a) :: st, h) Q) : EvP K d M (pc, lv, st, h) Q := by
  subst hp
  refine evp (fun r => ev_step (st_at ha ?_)) k
  show (if a < 4 then im_nx (pc + 2) lv (.ref (6 + a) :: st) h else none) = _
  rw [if_pos hk]
  rfl
theorem te_max2 {idx x1 : Nat} {x y : Int32} (ha : im_at M pc = some (.invokestatic idx, [0, 5, 2, 0, x1])) (hp : pc + 3 = p2) (hc : im_cat st = true) (k : EvP K d M (p2, lv, .int (if x < y then y else x) :: st, h) Q) : EvP K d M (pc, lv, .int y :: .int x :: st, h) Q := by
  subst hp
  refine evp (fun r => ev_step (st_at ha ?_)) k
  show (if im_cat st then im_nx (pc + 3) lv (.int (if x < y then y else x) :: st) h else none) = _
  rw [if_pos hc]
  rfl
theorem te_min2 {idx x1 : Nat} {x y : Int32} (ha : im_at M pc = some (.invokestatic idx, [0, 6, 2, 0, x1])) (hp : pc + 3 = p2) (hc : im_cat st = true) (k : EvP K d M (p2, lv, .int (if y < x then y else x) :: st, h) Q) : EvP K d M (pc, lv, .int y :: .int x :: st, h) Q := by
  subst hp
  refine evp (fun r => ev_step (st_at ha ?_)) k
  show (if im_cat st then im_nx (pc + 3) lv (.int (if y < x then y else x) :: st) h else none) = _
  rw [if_pos hc]
  rfl
theorem tc_S {idx j w z x d1 : Nat} {q : List Value × List Value} {Q1 : Option Value → im_H → Prop} (ha : im_at M pc = some (.invokestatic idx, [j, 0, w, z, x])) (hp : pc + 3 = p2) (ht : im_take w st = some q) (hc : im_cat q.2 = true) (hC : CaP d1 j q.1 h Q1) (hd : d1 ≤ d) (k : ∀ v h2, Q1 v h2 → EvP K d M (p2, lv, v.toList ++ q.2, h2) Q) : EvP K d M (pc, lv, st, h) Q := by
  subst hp
  obtain ⟨v, h2, e, hq⟩ := hC
  exact evp (fun r => st_callS ha ht hc (ca_more e hd)) (k v h2 hq)
theorem tc_V {idx j w z x d1 R i n : Nat} {q : List Value × List Value} {rest : List Value} {Q1 : Option Value → im_H → Prop} (ha : im_at M pc = some (.invokevirtual idx, [j, 0, w, z, x])) (hp : pc + 3 = p2) (ht : im_take w st = some q) (hq : q.2 = .ref R :: rest) (hI : tI h) (hR : R = 16 + i) (hs : tS[i]? = some (3, z, n)) (hc : im_cat rest = true) (hC : CaP d1 j (.ref R :: q.1) h Q1) (hd : d1 ≤ d) (k : ∀ v h2, Q1 v h2 → EvP K d M (p2, lv, v.toList ++ rest, h2) Q) : EvP K d M (pc, lv, st, h) Q := by
  subst hp
  obtain ⟨v, h2, e, hq2⟩ := hC
  obtain ⟨fs, ho, hl⟩ := sh_obj (h := h) (by rw [hI.1]; exact hs)
  subst hR
  exact evp (fun r => st_callV ha ht hq ho hc (ca_more e hd)) (k v h2 hq2)
end TQ
end
section
/-! LOCALS: a run goes on with more of them, in any order -/
def lvN : im_L → Bool
  | [] => true
  | q :: r => !(r.any (fun p => p.1 == q.1)) && lvN r
def lvS : im_L → im_L → Prop
  | [], _ => True
  | q :: r, lv => im_lk lv q.1 = some q.2 ∧ lvS r lv
theorem lk_cons {q : Nat × Value} {r : im_L} {j : Nat} : im_lk (q :: r) j = if q.1 = j then some q.2 else im_lk r j := by
  unfold im_lk
  by_cases h : q.1 = j
  · rw [List.find?_cons_of_pos (by simp [h]), if_pos h]; rfl
  · rw [List.find?_cons_of_neg (by simp [h]), if_neg h]
theorem lvS_lk : ∀ {lv2 lv : im_L}, lvS lv2 lv → ∀ j v, im_lk lv2 j = some v → im_lk lv j = some v
  | [], _, _, j, v, h => by cases h
  | q :: r, lv, hs, j, v, h => by
    rw [lk_cons] at h
    by_cases hq : q.1 = j
    · rw [if_pos hq] at h
      cases h
      rw [← hq]
      exact hs.1
    · rw [if_neg hq] at h
      exact lvS_lk hs.2 j v h
theorem lk_none : ∀ {lv : im_L} {j : Nat}, lv.any (fun p => p.1 == j) = false → im_lk lv j = none
  | [], _, _ => rfl
  | q :: r, j, h => by
    simp only [List.any_cons, Bool.or_eq_false_iff, beq_eq_false_iff_ne] at h
    rw [lk_cons, if_neg h.1]
    exact lk_none h.2
theorem any_fl {P : Nat × Value → Bool} {j : Nat} : ∀ {lv : im_L}, lv.any (fun p => p.1 == j) = false → (lv.filter P).any (fun p => p.1 == j) = false
  | [], _ => rfl
  | q :: r, h => by
    simp only [List.any_cons, Bool.or_eq_false_iff] at h
    by_cases hp : P q = true
    · rw [List.filter_cons_of_pos hp]
      simp only [List.any_cons, Bool.or_eq_false_iff]
      exact ⟨h.1, any_fl h.2⟩
    · rw [List.filter_cons_of_neg hp]
      exact any_fl h.2
theorem lvN_fl {P : Nat × Value → Bool} : ∀ {lv : im_L}, lvN lv = true → lvN (lv.filter P) = true
  | [], _ => rfl
  | q :: r, h => by
    simp only [lvN, Bool.and_eq_true, Bool.not_eq_true'] at h
    by_cases hp : P q = true
    · rw [List.filter_cons_of_pos hp]
      simp only [lvN, Bool.and_eq_true, Bool.not_eq_true']
      exact ⟨any_fl h.1, lvN_fl h.2⟩
    · rw [List.filter_cons_of_neg hp]
      exact lvN_fl h.2
theorem lk_fl {P : Nat × Value → Bool} {j : Nat} : ∀ {lv : im_L}, lvN lv = true → im_lk (lv.filter P) j = (im_lk lv j).bind (fun w => if P (j, w) then some w else none)
  | [], _ => rfl
  | q :: r, h => by
    simp only [lvN, Bool.and_eq_true, Bool.not_eq_true'] at h
    rw [lk_cons]
    by_cases hq : q.1 = j
    · subst hq
      rw [if_pos rfl]
      simp only [Option.bind_some]
      by_cases hp : P q = true
      · rw [List.filter_cons_of_pos hp, lk_cons, if_pos rfl, if_pos hp]
      · rw [List.filter_cons_of_neg hp, if_neg hp]
        exact lk_none (any_fl h.1)
    · rw [if_neg hq]
      by_cases hp : P q = true
      · rw [List.filter_cons_of_pos hp, lk_cons, if_neg hq]
        exact lk_fl h.2
      · rw [List.filter_cons_of_neg hp]
        exact lk_fl h.2
theorem lvN_pt {lv : im_L} {k : Nat} {v : Value} (h : lvN lv = true) : lvN (im_pt lv k v) = true := by
  unfold im_pt
  simp only [lvN, Bool.and_eq_true, Bool.not_eq_true']
  refine ⟨?_, lvN_fl h⟩
  rw [List.any_eq_false]
  intro p hp
  have := (List.mem_filter.mp hp).2
  simp only [Bool.and_eq_true, Bool.not_eq_true', beq_eq_false_iff_ne] at this
  simpa using this.1
def lvR (lv2 lv : im_L) : Prop := (∀ j v, im_lk lv2 j = some v → im_lk lv j = some v) ∧ lvN lv2 = true ∧ lvN lv = true
theorem lvR_pt {lv2 lv : im_L} (k : Nat) (v : Value) (h : lvR lv2 lv) : lvR (im_pt lv2 k v) (im_pt lv k v) := by
  refine ⟨fun j w hj => ?_, lvN_pt h.2.1, lvN_pt h.2.2⟩
  unfold im_pt at hj ⊢
  rw [lk_cons] at hj ⊢
  by_cases hk : k = j
  · rw [if_pos hk] at hj ⊢; exact hj
  · rw [if_neg hk] at hj ⊢
    rw [lk_fl h.2.1] at hj
    rw [lk_fl h.2.2]
    obtain ⟨u, hu, hw⟩ := im_bd hj
    rw [h.1 j u hu]
    exact hw
def lvO (o o2 : im_O) : Prop := match o, o2 with
  | .inl c, .inl c2 => c2.1 = c.1 ∧ c2.2.2 = c.2.2 ∧ lvR c.2.1 c2.2.1
  | .inr y, .inr y2 => y2 = y
  | _, _ => False
def lvX (lv2 lv : im_L) (o o2 : Option im_O) : Prop := ∀ q, o = some q → ∃ q2, o2 = some q2 ∧ lvO q q2
section LX
variable {lv2 lv : im_L}
theorem lx_none {o : Option im_O} : lvX lv2 lv none o := fun _ q => by cases q
theorem lx_inr {y : (Nat × List Value × List Value) ⊕ Option Value} : lvX lv2 lv (some (.inr y)) (some (.inr y)) := fun q e => by cases e; exact ⟨_, rfl, rfl⟩
theorem lx_nx {pc : Nat} {st : List Value} {h : im_H} (hR : lvR lv2 lv) : lvX lv2 lv (im_nx pc lv2 st h) (im_nx pc lv st h) := fun q e => by
  unfold im_nx at e
  cases e
  exact ⟨_, rfl, rfl, rfl, hR⟩
theorem lx_bind {α : Type} {o : Option α} {f f2 : α → Option im_O} (k : ∀ a, lvX lv2 lv (f a) (f2 a)) : lvX lv2 lv (o.bind f) (o.bind f2) := fun q e => by
  obtain ⟨a, h1, h2⟩ := im_bd e
  obtain ⟨q2, h3, h4⟩ := k a q h2
  exact ⟨q2, by rw [h1]; exact h3, h4⟩
theorem lx_lk {j : Nat} {f f2 : Value → Option im_O} (hR : lvR lv2 lv) (k : ∀ a, lvX lv2 lv (f a) (f2 a)) : lvX lv2 lv ((im_lk lv2 j).bind f) ((im_lk lv j).bind f2) := fun q e => by
  obtain ⟨a, h1, h2⟩ := im_bd e
  obtain ⟨q2, h3, h4⟩ := k a q h2
  exact ⟨q2, by rw [hR.1 j a h1]; exact h3, h4⟩
theorem lx_ite {c : Prop} {d : Decidable c} {x y x2 y2 : Option im_O} (k1 : lvX lv2 lv x x2) (k2 : lvX lv2 lv y y2) : lvX lv2 lv (@ite _ c d x y) (@ite _ c d x2 y2) := by
  by_cases hc : c
  · rw [if_pos hc, if_pos hc]; exact k1
  · rw [if_neg hc, if_neg hc]; exact k2
theorem lx_nxp {pc : Nat} {st : List Value} {h : im_H} {j : Nat} {v : Value} (hR : lvR lv2 lv) : lvX lv2 lv (im_nx pc (im_pt lv2 j v) st h) (im_nx pc (im_pt lv j v) st h) := fun q e => by
  unfold im_nx at e
  cases e
  exact ⟨_, rfl, rfl, rfl, lvR_pt j v hR⟩
theorem im_lvx {K : im_K} {M : im_M} {i : Instr} {a b w z pc : Nat} {st : List Value} {h : im_H} (hR : lvR lv2 lv) : lvX lv2 lv (im_ins K M i a b w z pc lv2 st h) (im_ins K M i a b w z pc lv st h) := by
  cases i
  case aload_n k => exact lx_lk hR fun _ => lx_ite (lx_nx hR) lx_none
  case aload k => exact lx_lk hR fun _ => lx_ite (lx_nx hR) lx_none
  case iload_n k => exact lx_lk hR fun _ => lx_ite (lx_nx hR) lx_none
  case iload k => exact lx_lk hR fun _ => lx_ite (lx_nx hR) lx_none
  case lload_n k => exact lx_lk hR fun _ => lx_ite (lx_nx hR) lx_none
  case iinc k n => exact lx_lk hR fun _ => lx_bind fun _ => lx_ite (lx_nxp hR) lx_none
  case istore_n k => exact lx_bind fun _ => lx_ite (lx_nxp hR) lx_none
  case istore k => exact lx_bind fun _ => lx_ite (lx_nxp hR) lx_none
  case astore_n k => exact lx_bind fun _ => lx_ite (lx_nxp hR) lx_none
  case astore k => exact lx_bind fun _ => lx_ite (lx_nxp hR) lx_none
  case newarray t =>
    refine lx_bind fun q => lx_ite lx_none ?_
    rcases a with _ | _ | _ | a
    · exact lx_nx hR
    · exact lx_nx hR
    · exact lx_nx hR
    · exact lx_none
  case invokestatic idx =>
    rcases b with _ | _ | _ | _ | _ | _ | _ | b
    · exact lx_bind fun _ => lx_ite lx_inr lx_none
    · exact lx_none
    · exact lx_none
    · exact lx_bind fun _ => lx_bind fun _ => lx_bind fun _ => lx_bind fun _ => lx_bind fun _ => lx_bind fun _ => lx_bind fun _ => lx_ite (lx_nx hR) lx_none
    · exact lx_none
    · exact lx_bind fun _ => lx_bind fun _ => lx_ite (lx_nx hR) lx_none
    · exact lx_bind fun _ => lx_bind fun _ => lx_ite (lx_nx hR) lx_none
    · exact lx_none
  case invokespecial idx =>
    rcases b with _ | _ | _ | _ | _ | b
    · exact lx_bind fun _ => lx_bind fun _ => lx_ite lx_inr lx_none
    · exact lx_none
    · exact lx_none
    · exact lx_none
    · exact lx_bind fun _ => lx_ite (lx_nx hR) lx_none
    · exact lx_none
  case invokevirtual idx =>
    rcases b with _ | _ | _ | b
    · exact lx_bind fun _ => lx_bind fun _ => lx_bind fun _ => lx_ite lx_inr lx_none
    · exact lx_bind fun _ => lx_ite (lx_bind fun _ => lx_nx hR) lx_none
    · exact lx_bind fun _ => lx_bind fun _ => lx_ite (lx_bind fun _ => lx_ite (lx_nx hR) lx_none) lx_none
    · exact lx_none
  case ireturn =>
    refine lx_bind fun q => ?_
    split
    · exact lx_inr
    · exact lx_ite lx_inr lx_none
    · exact lx_none
  case lreturn =>
    refine lx_bind fun q => ?_
    split
    · exact lx_inr
    · exact lx_none
  case return_ =>
    show lvX lv2 lv (match M.2.2.2.1, st with
      | none, [] => some (.inr (.inr none))
      | _, _ => none) (match M.2.2.2.1, st with
      | none, [] => some (.inr (.inr none))
      | _, _ => none)
    split
    · exact lx_inr
    · exact lx_none
  case ifnonnull off =>
    show lvX lv2 lv (match st with
      | .ref _ :: r => im_nx a lv2 r h
      | .null :: r => im_nx (pc + 3) lv2 r h
      | _ => none) (match st with
      | .ref _ :: r => im_nx a lv r h
      | .null :: r => im_nx (pc + 3) lv r h
      | _ => none)
    split
    · exact lx_nx hR
    · exact lx_nx hR
    · exact lx_none
  all_goals first
    | exact lx_none
    | exact lx_nx hR
    | exact lx_bind fun _ => lx_nx hR
    | exact lx_ite (lx_nx hR) lx_none
    | exact lx_bind fun _ => lx_ite (lx_nx hR) lx_none
    | exact lx_bind fun _ => lx_ite lx_none (lx_nx hR)
    | exact lx_bind fun _ => lx_bind fun _ => lx_nx hR
    | exact lx_bind fun _ => lx_bind fun _ => lx_bind fun _ => lx_nx hR
    | exact lx_bind fun _ => lx_bind fun _ => lx_ite (lx_nx hR) lx_none
    | exact lx_bind fun _ => lx_bind fun _ => lx_ite lx_none (lx_nx hR)
    | exact lx_bind fun _ => lx_bind fun _ => lx_bind fun _ => lx_ite (lx_nx hR) lx_none
    | exact lx_bind fun _ => lx_bind fun _ => lx_bind fun _ => lx_bind fun _ => lx_ite (lx_nx hR) lx_none
    | exact lx_bind fun _ => lx_bind fun _ => lx_bind fun _ => lx_bind fun _ => lx_bind fun _ => lx_ite (lx_nx hR) lx_none
    | exact lx_bind fun _ => lx_ite (lx_ite (lx_nx hR) lx_none) (lx_bind fun _ => lx_ite (lx_nx hR) lx_none)
end LX
theorem im_run_lv {K : im_K} {M : im_M} {call : Nat → List Value → im_H → Option (Option Value × im_H)} : ∀ (n : Nat) (pc : Nat) (lv2 lv : im_L) (st : List Value) (h : im_H) (r : Option Value × im_H), lvR lv2 lv → im_run K M call n (pc, lv2, st, h) = some r → im_run K M call n (pc, lv, st, h) = some r := by
  intro n
  induction n with
  | zero => intro pc lv2 lv st h r _ e; cases e
  | succ n ih =>
    intro pc lv2 lv st h r hR e
    simp only [im_run] at e ⊢
    cases hs : im_step K M (pc, lv2, st, h) with
    | none => rw [hs] at e; cases e
    | some o =>
      rw [hs] at e
      have hs2 : ∃ o2, im_step K M (pc, lv, st, h) = some o2 ∧ lvO o o2 := by
        unfold im_step at hs ⊢
        cases hq : im_at M pc with
        | none => simp only [hq] at hs; cases hs
        | some q =>
          simp only [hq] at hs ⊢
          exact im_lvx hR o hs
      obtain ⟨o2, ho, hO⟩ := hs2
      rw [ho]
      cases o with
      | inl c =>
        cases o2 with
        | inl c2 =>
          obtain ⟨p1, l1, s1, h1⟩ := c
          obtain ⟨p2, l2, s2, h2⟩ := c2
          obtain ⟨e1, e2, e3⟩ := hO
          simp only at e1 e2 e3
          cases e1
          cases e2
          exact ih _ _ _ _ _ _ e3 e
        | inr y => exact absurd hO id
      | inr y =>
        cases o2 with
        | inl c2 => exact absurd hO id
        | inr y2 =>
          cases (show y2 = y from hO)
          cases y with
          | inl u =>
            simp only at e ⊢
            cases hu : call u.1 u.2.1 h with
            | none => rw [hu] at e; cases e
            | some v =>
              rw [hu] at e
              exact ih _ _ _ _ _ _ hR e
          | inr v => exact e
theorem ev_lv {K : im_K} {d : Nat} {M : im_M} {pc : Nat} {lv : im_L} {st : List Value} {h : im_H} {r : Option Value × im_H} (lv2 : im_L) (h1 : lvN lv2 = true) (h2 : lvN lv = true) (hs : lvS lv2 lv) (k : Ev K d M (pc, lv2, st, h) r) : Ev K d M (pc, lv, st, h) r := by
  obtain ⟨f0, h0⟩ := k
  exact ⟨f0, fun f n hf hn => im_run_lv n _ _ _ _ _ _ ⟨lvS_lk hs, h1, h2⟩ (h0 f n hf hn)⟩
theorem te_lv {K : im_K} {d : Nat} {M : im_M} {pc : Nat} {lv : im_L} {st : List Value} {h : im_H} {Q : Option Value → im_H → Prop} (lv2 : im_L) (h1 : lvN lv2 = true) (h2 : lvN lv = true) (hs : lvS lv2 lv) (k : EvP K d M (pc, lv2, st, h) Q) : EvP K d M (pc, lv, st, h) Q := evp (fun r => ev_lv lv2 h1 h2 hs) k
end
section
/-! the heap behind the constructors meets the spec -/
def okB (t : tv) (v : Option Value) : Bool := match t, v with
  | .inl (lo, hi, ho), some (.int x) => decide (lo ≤ x.toInt) && decide (x.toInt ≤ hi) && decide (x.toInt ≠ ho)
  | .inr (.inl r), some (.ref q) => decide (q = r)
  | .inr (.inr _), some .null => true
  | .inr (.inr rs), some (.ref q) => decide (q ∈ rs)
  | _, _ => false
theorem okB_ok {t : tv} {v : Option Value} (h : okB t v = true) : ∃ w, v = some w ∧ okV t w := by
  rcases t with ⟨lo, hi, ho⟩ | r | rs
  · cases v with
    | none => cases h
    | some w =>
      cases w <;> first | (cases h; done) | skip
      rename_i x
      simp only [okB, Bool.and_eq_true, decide_eq_true_eq] at h
      exact ⟨_, rfl, x, rfl, h.1.1, h.1.2, h.2⟩
  · cases v with
    | none => cases h
    | some w =>
      cases w <;> first | (cases h; done) | skip
      simp only [okB, decide_eq_true_eq] at h
      exact ⟨_, rfl, by rw [h]; rfl⟩
  · cases v with
    | none => cases h
    | some w =>
      cases w <;> first | (cases h; done) | skip
      · exact ⟨_, rfl, Or.inl rfl⟩
      · simp only [okB, decide_eq_true_eq] at h
        exact ⟨_, rfl, Or.inr ⟨_, h, rfl⟩⟩
def chkT (h : im_H) : Bool := (List.range 200).all fun i => (tT.getD i []).all fun q => (List.range (q.2.1 + 1)).all fun k => decide (k < q.1) || okB q.2.2 (rd h i k)
theorem tI_of {h : im_H} (hs : im_shs h = tS) (hc : chkT h = true) (hO : tO h) : tI h := by
  refine ⟨hs, fun i k t ht => ?_, hO⟩
  unfold tq at ht
  obtain ⟨q, hq, rfl⟩ := Option.map_eq_some_iff.mp ht
  have hi : i < 200 := by
    by_cases h2 : i < 200
    · exact h2
    · have h3 : tT.getD i [] = [] := by
        rw [List.getD_eq_getElem?_getD, List.getElem?_eq_none (by show tT.length ≤ i; exact Nat.le_trans (show tT.length ≤ 200 by decide +kernel) (Nat.le_of_not_lt h2))]
        rfl
      rw [h3] at hq
      cases hq
  have hp := List.find?_some hq
  have hm := List.mem_of_find?_eq_some hq
  simp only [Bool.and_eq_true, decide_eq_true_eq] at hp
  have h1 := List.all_eq_true.mp (List.all_eq_true.mp (List.all_eq_true.mp hc i (List.mem_range.mpr hi)) q hm) k (List.mem_range.mpr (by omega))
  rw [Bool.or_eq_true] at h1
  rcases h1 with h1 | h1
  · rw [decide_eq_true_eq] at h1; omega
  · exact okB_ok h1
theorem tO_hh : tO hh := by
  have e : ∀ o ∈ [98, 105, 112, 119, 126, 133], ∀ l, l < 8 → rd hh (o + 3) l = some (.int 0) := by decide +kernel
  intro o l i c f ho hl hc hi h3 hf
  rw [e o ho l hl] at hc
  cases hc
  exact absurd hi (by rw [show Int32.toInt 0 = 0 from rfl]; omega)
theorem tI_hh : tI hh := tI_of (by decide +kernel) (by decide +kernel) tO_hh
end
section
/-! numbers with a name each; rows by the spec -/
theorem ls_nil {d k : Int} : Op.lookupswitch.offset [] d k = d := rfl
theorem ls_ne {a o k d z : Int} {r : List (Int × Int)} (h : ¬ a = k) (e : Op.lookupswitch.offset r d k = z) : Op.lookupswitch.offset ((a, o) :: r) d k = z := by
  rw [Op.lookupswitch.offset_cons, if_neg h]; exact e
theorem i32_lo (x : Int32) : -2147483648 ≤ x.toInt := Int32.le_toInt x
theorem i32_hi (x : Int32) : x.toInt ≤ 2147483647 := by have := Int32.toInt_lt x; omega
theorem i32_ho (x : Int32) : x.toInt ≠ 9999999999 := by have := Int32.toInt_lt x; omega
theorem rq_7 : ∀ k, k < 4 → tq tT 7 k = some (.inr (.inl (16 + (12 + 2 * k)))) := by
  intro k hk
  rcases (show k = 0 ∨ k = 1 ∨ k = 2 ∨ k = 3 by omega) with rfl | rfl | rfl | rfl
  · rfl
  · rfl
  · rfl
  · rfl
theorem rq_8 : ∀ k, k < 3 → tq tT 8 k = some (.inr (.inl (16 + (20 + 1 * k)))) := by
  intro k hk
  rcases (show k = 0 ∨ k = 1 ∨ k = 2 by omega) with rfl | rfl | rfl
  · rfl
  · rfl
  · rfl
theorem rq_67 : ∀ k, k < 6 → tq tT 67 k = some (.inr (.inl (16 + (98 + 7 * k)))) := by
  intro k hk
  rcases (show k = 0 ∨ k = 1 ∨ k = 2 ∨ k = 3 ∨ k = 4 ∨ k = 5 by omega) with rfl | rfl | rfl | rfl | rfl | rfl
  · rfl
  · rfl
  · rfl
  · rfl
  · rfl
  · rfl
theorem rq_78 : ∀ k, k < 8 → tq tT 78 k = some (.inr (.inl (16 + (79 + 1 * k)))) := by
  intro k hk
  rcases (show k = 0 ∨ k = 1 ∨ k = 2 ∨ k = 3 ∨ k = 4 ∨ k = 5 ∨ k = 6 ∨ k = 7 by omega) with rfl | rfl | rfl | rfl | rfl | rfl | rfl | rfl
  · rfl
  · rfl
  · rfl
  · rfl
  · rfl
  · rfl
  · rfl
  · rfl
theorem rq_97 : ∀ k, k < 4 → tq tT 97 k = some (.inr (.inl (16 + (140 + 2 * k)))) := by
  intro k hk
  rcases (show k = 0 ∨ k = 1 ∨ k = 2 ∨ k = 3 by omega) with rfl | rfl | rfl | rfl
  · rfl
  · rfl
  · rfl
  · rfl
/-- the CELL beside one on a side (-1: none) -/
def nbr (c s : Int32) : Int32 := if s.toInt = 0 then (if c.toInt < 90 then c + 10 else -1) else if s.toInt = 1 then (if c.toInt % 10 < 9 then c + 1 else -1) else if s.toInt = 2 then (if 10 ≤ c.toInt then c - 10 else -1) else (if 0 < c.toInt % 10 then c - 1 else -1)
section AR
variable {K : im_K} {d : Nat} {M : im_M} {pc p2 : Nat} {lv lv2 : im_L} {st : List Value} {h : im_H} {Q : Option Value → im_H → Prop}
theorem ar_add {x y : Int32} {a b : Int} (ha : im_at M pc = some (.iadd, [])) (hp : pc + 1 = p2) (hx : x.toInt = a) (hy : y.toInt = b) (h1 : -2147483648 ≤ a + b) (h2 : a + b ≤ 2147483647) (k : ∀ z : Int32, x + y = z → z.toInt = a + b → EvP K d M (p2, lv, .int z :: st, h) Q) : EvP K d M (pc, lv, .int y :: .int x :: st, h) Q :=
  te_iadd ha hp rfl (k _ rfl (by rw [i32_addE hy (by rw [hx]; exact h1) (by rw [hx]; exact h2), hx]))
theorem ar_sub {x y : Int32} {a b : Int} (ha : im_at M pc = some (.isub, [])) (hp : pc + 1 = p2) (hx : x.toInt = a) (hy : y.toInt = b) (h1 : -2147483648 ≤ a - b) (h2 : a - b ≤ 2147483647) (k : ∀ z : Int32, x - y = z → z.toInt = a - b → EvP K d M (p2, lv, .int z :: st, h) Q) : EvP K d M (pc, lv, .int y :: .int x :: st, h) Q :=
  te_isub ha hp rfl (k _ rfl (by rw [i32_subE hy (by rw [hx]; exact h1) (by rw [hx]; exact h2), hx]))
theorem i32_mulE {x y : Int32} {a b : Int} (hx : x.toInt = a) (hy : y.toInt = b) (h1 : -2147483648 ≤ a * b) (h2 : a * b ≤ 2147483647) : (x * y).toInt = a * b := by
  rw [Int32.toInt_mul, hx, hy, Int.bmod_def]
  generalize a * b = c at *
  omega
theorem ar_mul {x y : Int32} {a b : Int} (ha : im_at M pc = some (.imul, [])) (hp : pc + 1 = p2) (hx : x.toInt = a) (hy : y.toInt = b) (h1 : -2147483648 ≤ a * b) (h2 : a * b ≤ 2147483647) (k : ∀ z : Int32, x * y = z → z.toInt = a * b → EvP K d M (p2, lv, .int z :: st, h) Q) : EvP K d M (pc, lv, .int y :: .int x :: st, h) Q :=
  te_imul ha hp rfl (k _ rfl (i32_mulE hx hy h1 h2))
theorem au_add {x y : Int32} (ha : im_at M pc = some (.iadd, [])) (hp : pc + 1 = p2) (k : ∀ z : Int32, x + y = z → EvP K d M (p2, lv, .int z :: st, h) Q) : EvP K d M (pc, lv, .int y :: .int x :: st, h) Q := te_iadd ha hp rfl (k _ rfl)
theorem au_sub {x y : Int32} (ha : im_at M pc = some (.isub, [])) (hp : pc + 1 = p2) (k : ∀ z : Int32, x - y = z → EvP K d M (p2, lv, .int z :: st, h) Q) : EvP K d M (pc, lv, .int y :: .int x :: st, h) Q := te_isub ha hp rfl (k _ rfl)
theorem au_mul {x y : Int32} (ha : im_at M pc = some (.imul, [])) (hp : pc + 1 = p2) (k : ∀ z : Int32, x * y = z → EvP K d M (p2, lv, .int z :: st, h) Q) : EvP K d M (pc, lv, .int y :: .int x :: st, h) Q := te_imul ha hp rfl (k _ rfl)
theorem au_and {x y : Int32} (ha : im_at M pc = some (.iand, [])) (hp : pc + 1 = p2) (k : ∀ z : Int32, x &&& y = z → EvP K d M (p2, lv, .int z :: st, h) Q) : EvP K d M (pc, lv, .int y :: .int x :: st, h) Q := te_iand ha hp rfl (k _ rfl)
theorem au_or {x y : Int32} (ha : im_at M pc = some (.ior, [])) (hp : pc + 1 = p2) (k : ∀ z : Int32, x ||| y = z → EvP K d M (p2, lv, .int z :: st, h) Q) : EvP K d M (pc, lv, .int y :: .int x :: st, h) Q := te_ior ha hp rfl (k _ rfl)
theorem au_shl {x y : Int32} (ha : im_at M pc = some (.ishl, [])) (hp : pc + 1 = p2) (k : ∀ z : Int32, x <<< (y &&& 31) = z → EvP K d M (p2, lv, .int z :: st, h) Q) : EvP K d M (pc, lv, .int y :: .int x :: st, h) Q := te_ishl ha hp rfl (k _ rfl)
theorem au_shr {x y : Int32} (ha : im_at M pc = some (.ishr, [])) (hp : pc + 1 = p2) (k : ∀ z : Int32, x >>> (y &&& 31) = z → EvP K d M (p2, lv, .int z :: st, h) Q) : EvP K d M (pc, lv, .int y :: .int x :: st, h) Q := te_ishr ha hp rfl (k _ rfl)
theorem i32_ne0 {y : Int32} {b : Int} (hy : y.toInt = b) (h0 : b ≠ 0) : ¬ y = 0 := fun e => h0 (by rw [← hy, e]; rfl)
theorem au_div {x y : Int32} {b : Int} (ha : im_at M pc = some (.idiv, [])) (hp : pc + 1 = p2) (hy : y.toInt = b) (h0 : b ≠ 0) (k : ∀ z : Int32, x / y = z → EvP K d M (p2, lv, .int z :: st, h) Q) : EvP K d M (pc, lv, .int y :: .int x :: st, h) Q := te_idiv ha hp (i32_ne0 hy h0) rfl (k _ rfl)
theorem au_rem {x y : Int32} {b : Int} (ha : im_at M pc = some (.irem, [])) (hp : pc + 1 = p2) (hy : y.toInt = b) (h0 : b ≠ 0) (k : ∀ z : Int32, x - x / y * y = z → EvP K d M (p2, lv, .int z :: st, h) Q) : EvP K d M (pc, lv, .int y :: .int x :: st, h) Q := te_irem ha hp (i32_ne0 hy h0) rfl (k _ rfl)
theorem i32_divE {x y : Int32} {a b : Int} (hx : x.toInt = a) (hy : y.toInt = b) (ha : 0 ≤ a) (hb : 0 < b) : (x / y).toInt = a / b := by
  have hm : x.toInt < 2147483648 := Int32.toInt_lt x
  have h1 : 0 ≤ a / b := Int.ediv_nonneg ha (Int.le_of_lt hb)
  have h2 : a / b ≤ a := Int.ediv_le_self b ha
  rw [Int32.toInt_div, hx, hy, Int.tdiv_eq_ediv_of_nonneg ha, Int.bmod_def]
  generalize a / b = c at *
  omega
theorem i32_remE {x y : Int32} {a b : Int} (hx : x.toInt = a) (hy : y.toInt = b) (ha : 0 ≤ a) (hb : 0 < b) : (x - x / y * y).toInt = a % b := by
  have hm : x.toInt < 2147483648 := Int32.toInt_lt x
  have h1 : 0 ≤ a / b := Int.ediv_nonneg ha (Int.le_of_lt hb)
  have h3 : a / b * b ≤ a := Int.ediv_mul_le a (by omega)
  have h4 : a % b = a - a / b * b := by rw [Int.emod_def, Int.mul_comm]
  have h5 : 0 ≤ a / b * b := Int.mul_nonneg h1 (Int.le_of_lt hb)
  rw [Int32.toInt_sub, i32_mulE (i32_divE hx hy ha hb) hy (by omega) (by omega), hx, h4, Int.bmod_def]
  generalize a / b * b = c at *
  omega
theorem ar_div {x y : Int32} {a b : Int} (hi : im_at M pc = some (.idiv, [])) (hp : pc + 1 = p2) (hx : x.toInt = a) (hy : y.toInt = b) (ha : 0 ≤ a) (hb : 0 < b) (k : ∀ z : Int32, x / y = z → z.toInt = a / b → EvP K d M (p2, lv, .int z :: st, h) Q) : EvP K d M (pc, lv, .int y :: .int x :: st, h) Q := te_idiv hi hp (i32_ne0 hy (by omega)) rfl (k _ rfl (i32_divE hx hy ha hb))
theorem ar_rem {x y : Int32} {a b : Int} (hi : im_at M pc = some (.irem, [])) (hp : pc + 1 = p2) (hx : x.toInt = a) (hy : y.toInt = b) (ha : 0 ≤ a) (hb : 0 < b) (k : ∀ z : Int32, x - x / y * y = z → z.toInt = a % b → EvP K d M (p2, lv, .int z :: st, h) Q) : EvP K d M (pc, lv, .int y :: .int x :: st, h) Q := te_irem hi hp (i32_ne0 hy (by omega)) rfl (k _ rfl (i32_remE hx hy ha hb))
theorem ar_inc {k0 : Nat} {n : Int} {x : Int32} {a : Int} (ha : im_at M pc = some (.iinc k0 n, [])) (hp : pc + 3 = p2) (hk : k0 < M.2.2.1) (hx : im_lk lv k0 = some (.int x)) (hn : (Int32.ofInt n).toInt = n) (hv : x.toInt = a) (h1 : -2147483648 ≤ a + n) (h2 : a + n ≤ 2147483647) (k : ∀ z : Int32, x + Int32.ofInt n = z → z.toInt = a + n → EvP K d M (p2, im_pt lv k0 (.int z), st, h) Q) : EvP K d M (pc, lv, st, h) Q :=
  te_iinc ha hp hk hx rfl rfl (k _ rfl (by rw [i32_addE hn (by rw [hv]; exact h1) (by rw [hv]; exact h2), hv]))
theorem au_inc {k0 : Nat} {n : Int} {x : Int32} (ha : im_at M pc = some (.iinc k0 n, [])) (hp : pc + 3 = p2) (hk : k0 < M.2.2.1) (hx : im_lk lv k0 = some (.int x)) (k : ∀ z : Int32, x + Int32.ofInt n = z → EvP K d M (p2, im_pt lv k0 (.int z), st, h) Q) : EvP K d M (pc, lv, st, h) Q := te_iinc ha hp hk hx rfl rfl (k _ rfl)
theorem ar_max {idx x1 : Nat} {x y : Int32} {a b : Int} (ha : im_at M pc = some (.invokestatic idx, [0, 5, 2, 0, x1])) (hp : pc + 3 = p2) (hc : im_cat st = true) (hx : x.toInt = a) (hy : y.toInt = b) (k : ∀ z : Int32, (if x < y then y else x) = z → ((a < b ∧ z.toInt = b) ∨ (b ≤ a ∧ z.toInt = a)) → EvP K d M (p2, lv, .int z :: st, h) Q) : EvP K d M (pc, lv, .int y :: .int x :: st, h) Q := by
  refine te_max2 ha hp hc (k _ rfl ?_)
  by_cases hl : x < y
  · rw [if_pos hl]; exact Or.inl ⟨by rw [← hx, ← hy]; exact Int32.lt_iff_toInt_lt.mp hl, hy⟩
  · rw [if_neg hl]; exact Or.inr ⟨by have hn : ¬ _ := fun e => hl (Int32.lt_iff_toInt_lt.mpr e); omega, hx⟩
theorem ar_min {idx x1 : Nat} {x y : Int32} {a b : Int} (ha : im_at M pc = some (.invokestatic idx, [0, 6, 2, 0, x1])) (hp : pc + 3 = p2) (hc : im_cat st = true) (hx : x.toInt = a) (hy : y.toInt = b) (k : ∀ z : Int32, (if y < x then y else x) = z → ((b < a ∧ z.toInt = b) ∨ (a ≤ b ∧ z.toInt = a)) → EvP K d M (p2, lv, .int z :: st, h) Q) : EvP K d M (pc, lv, .int y :: .int x :: st, h) Q := by
  refine te_min2 ha hp hc (k _ rfl ?_)
  by_cases hl : y < x
  · rw [if_pos hl]; exact Or.inl ⟨by rw [← hx, ← hy]; exact Int32.lt_iff_toInt_lt.mp hl, hy⟩
  · rw [if_neg hl]; exact Or.inr ⟨by have hn : ¬ _ := fun e => hl (Int32.lt_iff_toInt_lt.mpr e); omega, hx⟩
theorem tp_i {idx a b x R i n : Nat} {ty : FieldType} {v : Int32} {lo hi ho : Int} (ha : im_at M pc = some (.putfield idx, [a, b, 0, 0, x])) (hp : pc + 3 = p2) (hI : tI h) (hR : R = 16 + i) (hs : tS[i]? = some (3, a, n)) (hb : b < n) (hK : ((K.2.1[a]?).bind fun t => t[b]?) = some ty) (hf : im_fit ty (.int v) = true) (ht : tq tT i b = some (.inl (lo, hi, ho))) (b0 : lo ≤ v.toInt) (b1 : v.toInt ≤ hi) (b2 : v.toInt ≠ ho) (hsp : spc i = false) (k : ∀ h2, tI h2 → up h h2 i b (.int v) → EvP K d M (p2, lv, st, h2) Q) : EvP K d M (pc, lv, .int v :: .ref R :: st, h) Q :=
  tp_f ha hp hI hR hs hb hK hf (fun t e => by rw [ht] at e; cases e; exact ⟨v, rfl, b0, b1, b2⟩) hsp k
theorem fit_b {v : Int32} (h : v.toInt = 0 ∨ v.toInt = 1) : im_fit .boolean (.int v) = true := by
  rcases h with h | h
  · have : v = 0 := i32_ext h
    subst this; rfl
  · have : v = 1 := i32_ext h
    subst this; rfl
theorem b01 {v : Int32} (h : v.toInt = 0 ∨ v.toInt = 1) : v = 0 ∨ v = 1 := by
  rcases h with h | h
  · exact Or.inl (i32_ext h)
  · exact Or.inr (i32_ext h)
theorem tp_n {idx a b x R i n r : Nat} {ty : FieldType} {rs : List Nat} (ha : im_at M pc = some (.putfield idx, [a, b, 0, 0, x])) (hp : pc + 3 = p2) (hI : tI h) (hR : R = 16 + i) (hs : tS[i]? = some (3, a, n)) (hb : b < n) (hK : ((K.2.1[a]?).bind fun t => t[b]?) = some ty) (hf : im_fit ty (.ref r) = true) (ht : tq tT i b = some (.inr (.inr rs))) (hr : r ∈ rs) (hsp : spc i = false) (k : ∀ h2, tI h2 → up h h2 i b (.ref r) → EvP K d M (p2, lv, st, h2) Q) : EvP K d M (pc, lv, .ref r :: .ref R :: st, h) Q :=
  tp_f ha hp hI hR hs hb hK hf (fun t e => by rw [ht] at e; cases e; exact Or.inr ⟨r, hr, rfl⟩) hsp k
theorem tp_0 {idx a b x R i n : Nat} {ty : FieldType} {rs : List Nat} (ha : im_at M pc = some (.putfield idx, [a, b, 0, 0, x])) (hp : pc + 3 = p2) (hI : tI h) (hR : R = 16 + i) (hs : tS[i]? = some (3, a, n)) (hb : b < n) (hK : ((K.2.1[a]?).bind fun t => t[b]?) = some ty) (hf : im_fit ty .null = true) (ht : tq tT i b = some (.inr (.inr rs))) (hsp : spc i = false) (k : ∀ h2, tI h2 → up h h2 i b .null → EvP K d M (p2, lv, st, h2) Q) : EvP K d M (pc, lv, .null :: .ref R :: st, h) Q :=
  tp_f ha hp hI hR hs hb hK hf (fun t e => by rw [ht] at e; cases e; exact Or.inl rfl) hsp k
theorem tl_f {R i n t c0 sp : Nat} {j : Int32} (ha : im_at M pc = some (.aaload, [])) (hp : pc + 1 = p2) (hI : tI h) (hR : R = 16 + i) (hs : tS[i]? = some (2, t, n)) (ht : 3 ≤ t ∧ t < 8) (hq : ∀ k, k < n → tq tT i k = some (.inr (.inl (16 + (c0 + sp * k))))) (h0 : 0 ≤ j.toInt) (h1 : j.toInt < n) (k : ∀ q, q = c0 + sp * j.toInt.toNat → EvP K d M (p2, lv, .ref (16 + q) :: st, h) Q) : EvP K d M (pc, lv, .int j :: .ref R :: st, h) Q :=
  tl_q (f := fun k => 16 + (c0 + sp * k)) ha hp hI hR hs ht hq h0 h1 (k _ rfl)
theorem te_len {R i n t : Nat} {x : Int32} (ht : t = 0 ∨ t = 1) (ha : im_at M pc = some (.arraylength, [])) (hp : pc + 1 = p2) (hI : tI h) (hR : R = 16 + i) (hs : tS[i]? = some (0, t, n)) (hx : Int32.ofNat n = x) (k : EvP K d M (p2, lv, .int x :: st, h) Q) : EvP K d M (pc, lv, .ref R :: st, h) Q := by
  subst hp; subst hR; subst hx
  obtain ⟨l, hl, hn⟩ := sh_ia (h := h) (by rw [hI.1]; exact hs)
  refine evp (fun r => ev_step (st_at ha ?_)) k
  obtain ⟨j, hj, hc⟩ := im_ia_eq hl
  have : j = i := by omega
  subst this
  show ((if 16 ≤ 16 + j then im_len h (16 + j) else (K.1[16 + j]?).map List.length).bind fun n => im_nx (pc + 1) lv (.int (Int32.ofNat n) :: st) h) = _
  rw [if_pos (by omega)]
  unfold im_len
  rw [if_pos (by omega), show 16 + j - 16 = j by omega, hc]
  rcases ht with rfl | rfl
  · simp only [show (0 : Nat) < 2 from by decide, if_true, Option.bind_some, hn]
    rfl
  · simp only [show (1 : Nat) < 2 from by decide, if_true, Option.bind_some, hn]
    rfl
theorem fr_st {F : List (Nat × Nat × Nat)} {h0 h h2 : im_H} {i k a b : Nat} {v : Value} (n : Nat) (hf : fr F h0 h) (hu : up h h2 i k v) (hm : F[n]? = some (i, a, b)) (ha : a ≤ k) (hb : k ≤ b) : fr F h0 h2 := fr_up hf hu (List.mem_of_getElem? hm) ha hb
end AR
end
section
/-! calls by what their end meets -/
abbrev pI (h : im_H) (R : Int32 → Prop) : Option Value → im_H → Prop := fun v h2 => h2 = h ∧ ∃ y : Int32, v = some (.int y) ∧ R y
abbrev pL (h : im_H) : Option Value → im_H → Prop := fun v h2 => h2 = h ∧ ∃ y : Int64, v = some (.long y)
abbrev mI (h : im_H) (F : List (Nat × Nat × Nat)) (R : Int32 → Prop) : Option Value → im_H → Prop := fun v h2 => tI h2 ∧ fr F h h2 ∧ ∃ y : Int32, v = some (.int y) ∧ R y
abbrev mL (h : im_H) (F : List (Nat × Nat × Nat)) : Option Value → im_H → Prop := fun v h2 => tI h2 ∧ fr F h h2 ∧ ∃ y : Int64, v = some (.long y)
abbrev mV (h : im_H) (F : List (Nat × Nat × Nat)) : Option Value → im_H → Prop := fun v h2 => tI h2 ∧ fr F h h2 ∧ v = none
section CC
variable {K : im_K} {d : Nat} {M : im_M} {pc p2 : Nat} {lv lv2 : im_L} {st : List Value} {h : im_H} {Q : Option Value → im_H → Prop} {F : List (Nat × Nat × Nat)} {R : Int32 → Prop}
theorem cS_pI {idx j w z x d1 : Nat} {q : List Value × List Value} (ha : im_at M pc = some (.invokestatic idx, [j, 0, w, z, x])) (hp : pc + 3 = p2) (ht : im_take w st = some q) (hc : im_cat q.2 = true) (hC : CaP d1 j q.1 h (pI h R)) (hd : d1 ≤ d) (k : ∀ y, R y → EvP K d M (p2, lv, .int y :: q.2, h) Q) : EvP K d M (pc, lv, st, h) Q :=
  tc_S ha hp ht hc hC hd (fun v h2 hq => by obtain ⟨e, y, rfl, r⟩ := hq; rw [e]; exact k y r)
theorem cS_mI {idx j w z x d1 : Nat} {q : List Value × List Value} (ha : im_at M pc = some (.invokestatic idx, [j, 0, w, z, x])) (hp : pc + 3 = p2) (ht : im_take w st = some q) (hc : im_cat q.2 = true) (hC : CaP d1 j q.1 h (mI h F R)) (hd : d1 ≤ d) (k : ∀ y h2, tI h2 → fr F h h2 → R y → EvP K d M (p2, lv, .int y :: q.2, h2) Q) : EvP K d M (pc, lv, st, h) Q :=
  tc_S ha hp ht hc hC hd (fun v h2 hq => by obtain ⟨e, f, y, rfl, r⟩ := hq; exact k y h2 e f r)
theorem cS_mV {idx j w z x d1 : Nat} {q : List Value × List Value} (ha : im_at M pc = some (.invokestatic idx, [j, 0, w, z, x])) (hp : pc + 3 = p2) (ht : im_take w st = some q) (hc : im_cat q.2 = true) (hC : CaP d1 j q.1 h (mV h F)) (hd : d1 ≤ d) (k : ∀ h2, tI h2 → fr F h h2 → EvP K d M (p2, lv, q.2, h2) Q) : EvP K d M (pc, lv, st, h) Q :=
  tc_S ha hp ht hc hC hd (fun v h2 hq => by obtain ⟨e, f, rfl⟩ := hq; exact k h2 e f)
variable {i n Rf : Nat}
theorem cV_pI {idx j w z x d1 : Nat} {q : List Value × List Value} {rest : List Value} (ha : im_at M pc = some (.invokevirtual idx, [j, 0, w, z, x])) (hp : pc + 3 = p2) (ht : im_take w st = some q) (hq : q.2 = .ref Rf :: rest) (hI : tI h) (hR : Rf = 16 + i) (hs : tS[i]? = some (3, z, n)) (hc : im_cat rest = true) (hC : CaP d1 j (.ref Rf :: q.1) h (pI h R)) (hd : d1 ≤ d) (k : ∀ y, R y → EvP K d M (p2, lv, .int y :: rest, h) Q) : EvP K d M (pc, lv, st, h) Q :=
  tc_V ha hp ht hq hI hR hs hc hC hd (fun v h2 hq => by obtain ⟨e, y, rfl, r⟩ := hq; rw [e]; exact k y r)
theorem cV_pL {idx j w z x d1 : Nat} {q : List Value × List Value} {rest : List Value} (ha : im_at M pc = some (.invokevirtual idx, [j, 0, w, z, x])) (hp : pc + 3 = p2) (ht : im_take w st = some q) (hq : q.2 = .ref Rf :: rest) (hI : tI h) (hR : Rf = 16 + i) (hs : tS[i]? = some (3, z, n)) (hc : im_cat rest = true) (hC : CaP d1 j (.ref Rf :: q.1) h (pL h)) (hd : d1 ≤ d) (k : ∀ y, EvP K d M (p2, lv, .long y :: rest, h) Q) : EvP K d M (pc, lv, st, h) Q :=
  tc_V ha hp ht hq hI hR hs hc hC hd (fun v h2 hq => by obtain ⟨e, y, rfl⟩ := hq; rw [e]; exact k y)
theorem cV_mI {idx j w z x d1 : Nat} {q : List Value × List Value} {rest : List Value} (ha : im_at M pc = some (.invokevirtual idx, [j, 0, w, z, x])) (hp : pc + 3 = p2) (ht : im_take w st = some q) (hq : q.2 = .ref Rf :: rest) (hI : tI h) (hR : Rf = 16 + i) (hs : tS[i]? = some (3, z, n)) (hc : im_cat rest = true) (hC : CaP d1 j (.ref Rf :: q.1) h (mI h F R)) (hd : d1 ≤ d) (k : ∀ y h2, tI h2 → fr F h h2 → R y → EvP K d M (p2, lv, .int y :: rest, h2) Q) : EvP K d M (pc, lv, st, h) Q :=
  tc_V ha hp ht hq hI hR hs hc hC hd (fun v h2 hq => by obtain ⟨e, f, y, rfl, r⟩ := hq; exact k y h2 e f r)
theorem cV_mV {idx j w z x d1 : Nat} {q : List Value × List Value} {rest : List Value} (ha : im_at M pc = some (.invokevirtual idx, [j, 0, w, z, x])) (hp : pc + 3 = p2) (ht : im_take w st = some q) (hq : q.2 = .ref Rf :: rest) (hI : tI h) (hR : Rf = 16 + i) (hs : tS[i]? = some (3, z, n)) (hc : im_cat rest = true) (hC : CaP d1 j (.ref Rf :: q.1) h (mV h F)) (hd : d1 ≤ d) (k : ∀ h2, tI h2 → fr F h h2 → EvP K d M (p2, lv, rest, h2) Q) : EvP K d M (pc, lv, st, h) Q :=
  tc_V ha hp ht hq hI hR hs hc hC hd (fun v h2 hq => by obtain ⟨e, f, rfl⟩ := hq; exact k h2 e f)
end CC
end
section
set_option maxRecDepth 20000 in
set_option maxHeartbeats 4000000 in
theorem t_X11_within {n : Int32} {b : Int32} {h : im_H} (hI : tI h)  : CaP 1 110 [.int n, .int b] h (pI h (fun y => (y = 1 ∧ 0 ≤ n.toInt ∧ n.toInt < b.toInt) ∨ (y = 0 ∧ ¬ (0 ≤ n.toInt ∧ n.toInt < b.toInt)))) := by
  refine cap_of (d := 0) (M := mX11_within) rfl (Nat.le_of_ble_eq_true rfl) ?_
  show EvP im_K0 0 mX11_within (0, [(0, .int n), (1, .int b)], [], h) _
  refine te_iload_n (p2 := 1) rfl rfl rfl ?_
  refine tz_lt (p2 := 4) rfl rfl rfl (fun c1 => ?_) (fun c1 => ?_)
  · refine te_iconst (p2 := 14) (x := 0) rfl rfl (by decide) ?_
    exact te_zret rfl rfl (by decide) ⟨rfl, _, rfl, Or.inr ⟨rfl, by omega⟩⟩
  · refine te_iload_n (p2 := 5) rfl rfl rfl ?_
    refine te_iload_n (p2 := 6) rfl rfl rfl ?_
    refine tb_ge (p2 := 9) rfl rfl rfl rfl (fun c2 => ?_) (fun c2 => ?_)
    · refine te_iconst (p2 := 14) (x := 0) rfl rfl (by decide) ?_
      exact te_zret rfl rfl (by decide) ⟨rfl, _, rfl, Or.inr ⟨rfl, by omega⟩⟩
    · refine te_iconst (p2 := 10) (x := 1) rfl rfl (by decide) ?_
      refine te_goto rfl ?_
      exact te_zret rfl rfl (by decide) ⟨rfl, _, rfl, Or.inl ⟨rfl, by omega⟩⟩
set_option maxRecDepth 20000 in
set_option maxHeartbeats 4000000 in
theorem t_X11_between {n : Int32} {a : Int32} {b : Int32} {h : im_H} (hI : tI h)  : CaP 1 111 [.int n, .int a, .int b] h (pI h (fun y => (y = 1 ∧ a.toInt ≤ n.toInt ∧ n.toInt ≤ b.toInt) ∨ (y = 0 ∧ ¬ (a.toInt ≤ n.toInt ∧ n.toInt ≤ b.toInt)))) := by
  refine cap_of (d := 0) (M := mX11_between) rfl (Nat.le_of_ble_eq_true rfl) ?_
  show EvP im_K0 0 mX11_between (0, [(0, .int n), (1, .int a), (2, .int b)], [], h) _
  refine te_iload_n (p2 := 1) rfl rfl rfl ?_
  refine te_iload_n (p2 := 2) rfl rfl rfl ?_
  refine tb_lt (p2 := 5) rfl rfl rfl rfl (fun c1 => ?_) (fun c1 => ?_)
  · refine te_iconst (p2 := 15) (x := 0) rfl rfl (by decide) ?_
    exact te_zret rfl rfl (by decide) ⟨rfl, _, rfl, Or.inr ⟨rfl, by omega⟩⟩
  · refine te_iload_n (p2 := 6) rfl rfl rfl ?_
    refine te_iload_n (p2 := 7) rfl rfl rfl ?_
    refine tb_gt (p2 := 10) rfl rfl rfl rfl (fun c2 => ?_) (fun c2 => ?_)
    · refine te_iconst (p2 := 15) (x := 0) rfl rfl (by decide) ?_
      exact te_zret rfl rfl (by decide) ⟨rfl, _, rfl, Or.inr ⟨rfl, by omega⟩⟩
    · refine te_iconst (p2 := 11) (x := 1) rfl rfl (by decide) ?_
      refine te_goto rfl ?_
      exact te_zret rfl rfl (by decide) ⟨rfl, _, rfl, Or.inl ⟨rfl, by omega⟩⟩
set_option maxRecDepth 20000 in
set_option maxHeartbeats 4000000 in
theorem t_X12_in {n : Int32} {a : Int32} {b : Int32} {h : im_H} (hI : tI h)  : CaP 1 117 [.int n, .int a, .int b] h (pI h (fun y => (y = 1 ∧ a.toInt ≤ n.toInt ∧ n.toInt ≤ b.toInt) ∨ (y = 0 ∧ ¬ (a.toInt ≤ n.toInt ∧ n.toInt ≤ b.toInt)))) := by
  refine cap_of (d := 0) (M := mX12_in) rfl (Nat.le_of_ble_eq_true rfl) ?_
  show EvP im_K0 0 mX12_in (0, [(0, .int n), (1, .int a), (2, .int b)], [], h) _
  refine te_iload_n (p2 := 1) rfl rfl rfl ?_
  refine te_iload_n (p2 := 2) rfl rfl rfl ?_
  refine tb_lt (p2 := 5) rfl rfl rfl rfl (fun c1 => ?_) (fun c1 => ?_)
  · refine te_iconst (p2 := 15) (x := 0) rfl rfl (by decide) ?_
    exact te_zret rfl rfl (by decide) ⟨rfl, _, rfl, Or.inr ⟨rfl, by omega⟩⟩
  · refine te_iload_n (p2 := 6) rfl rfl rfl ?_
    refine te_iload_n (p2 := 7) rfl rfl rfl ?_
    refine tb_gt (p2 := 10) rfl rfl rfl rfl (fun c2 => ?_) (fun c2 => ?_)
    · refine te_iconst (p2 := 15) (x := 0) rfl rfl (by decide) ?_
      exact te_zret rfl rfl (by decide) ⟨rfl, _, rfl, Or.inr ⟨rfl, by omega⟩⟩
    · refine te_iconst (p2 := 11) (x := 1) rfl rfl (by decide) ?_
      refine te_goto rfl ?_
      exact te_zret rfl rfl (by decide) ⟨rfl, _, rfl, Or.inl ⟨rfl, by omega⟩⟩
set_option maxRecDepth 20000 in
set_option maxHeartbeats 4000000 in
theorem t_X12_isCell {n : Int32} {h : im_H} (hI : tI h)  : CaP 2 118 [.int n] h (pI h (fun y => (y = 1 ∧ 0 ≤ n.toInt ∧ n.toInt ≤ 99) ∨ (y = 0 ∧ ¬ (0 ≤ n.toInt ∧ n.toInt ≤ 99)))) := by
  refine cap_of (d := 1) (M := mX12_isCell) rfl (Nat.le_of_ble_eq_true rfl) ?_
  show EvP im_K0 1 mX12_isCell (0, [(0, .int n)], [], h) _
  refine te_iload_n (p2 := 1) rfl rfl rfl ?_
  refine te_iconst (p2 := 2) (x := 0) rfl rfl (by decide) ?_
  refine te_bipush (p2 := 4) (x := 99) rfl rfl (by decide) ?_
  refine cS_pI (p2 := 7) rfl rfl rfl rfl (t_X12_in (n := n) (a := 0) (b := 99) hI ) (by decide) (fun y1 r1 => ?_)
  rcases r1 with ⟨w1, c1⟩ | ⟨w1, c1⟩
  · subst w1
    have cc1_1 := (show Int32.toInt 0 = 0 from rfl)
    have cc1_2 := (show Int32.toInt 99 = 99 from rfl)
    exact te_zret rfl rfl (by decide) ⟨rfl, _, rfl, Or.inl ⟨rfl, by omega⟩⟩
  · subst w1
    have cc1_1 := (show Int32.toInt 0 = 0 from rfl)
    have cc1_2 := (show Int32.toInt 99 = 99 from rfl)
    exact te_zret rfl rfl (by decide) ⟨rfl, _, rfl, Or.inr ⟨rfl, by omega⟩⟩
set_option maxRecDepth 20000 in
set_option maxHeartbeats 4000000 in
theorem t_X12_isPerson {k : Int32} {h : im_H} (hI : tI h)  : CaP 2 119 [.ref 164, .int k] h (pI h (fun y => ∃ p : Int32, rd h 148 10 = some (.int p) ∧ 0 ≤ p.toInt ∧ p.toInt ≤ 24 ∧ ((y = 1 ∧ 0 ≤ k.toInt ∧ k.toInt < p.toInt) ∨ (y = 0 ∧ ¬ (0 ≤ k.toInt ∧ k.toInt < p.toInt))))) := by
  refine cap_of (d := 1) (M := mX12_isPerson) rfl (Nat.le_of_ble_eq_true rfl) ?_
  show EvP im_K0 1 mX12_isPerson (0, [(0, .ref 164), (1, .int k)], [], h) _
  refine te_iload_n (p2 := 1) rfl rfl rfl ?_
  refine te_iconst (p2 := 2) (x := 0) rfl rfl (by decide) ?_
  refine te_aload_n (p2 := 3) rfl rfl rfl ?_
  refine tg_i (p2 := 6) (i := 148) rfl rfl hI rfl rfl rfl (fun y1 a1 b1 e1 => ?_)
  refine te_iconst (p2 := 7) (x := 1) rfl rfl (by decide) ?_
  refine ar_sub (p2 := 8) rfl rfl rfl (show Int32.toInt 1 = 1 from rfl) (by omega) (by omega) (fun z2 e2 f2 => ?_)
  refine cS_pI (p2 := 11) rfl rfl rfl rfl (t_X12_in (n := k) (a := 0) (b := z2) hI ) (by decide) (fun y3 r3 => ?_)
  rcases r3 with ⟨w3, c3⟩ | ⟨w3, c3⟩
  · subst w3
    have cc3_1 := (show Int32.toInt 0 = 0 from rfl)
    exact te_zret rfl rfl (by decide) ⟨rfl, _, rfl, y1, e1, by omega, by omega, Or.inl ⟨rfl, by omega⟩⟩
  · subst w3
    have cc3_1 := (show Int32.toInt 0 = 0 from rfl)
    exact te_zret rfl rfl (by decide) ⟨rfl, _, rfl, y1, e1, by omega, by omega, Or.inr ⟨rfl, by omega⟩⟩
set_option maxRecDepth 20000 in
set_option maxHeartbeats 4000000 in
theorem t_X12_isWall {k : Int32} {h : im_H} (hI : tI h)  : CaP 2 161 [.ref 164, .int k] h (pI h (fun y => ∃ p : Int32, rd h 148 21 = some (.int p) ∧ 0 ≤ p.toInt ∧ p.toInt ≤ 16 ∧ ((y = 1 ∧ 0 ≤ k.toInt ∧ k.toInt < p.toInt) ∨ (y = 0 ∧ ¬ (0 ≤ k.toInt ∧ k.toInt < p.toInt))))) := by
  refine cap_of (d := 1) (M := mX12_isWall) rfl (Nat.le_of_ble_eq_true rfl) ?_
  show EvP im_K0 1 mX12_isWall (0, [(0, .ref 164), (1, .int k)], [], h) _
  refine te_iload_n (p2 := 1) rfl rfl rfl ?_
  refine te_iconst (p2 := 2) (x := 0) rfl rfl (by decide) ?_
  refine te_aload_n (p2 := 3) rfl rfl rfl ?_
  refine tg_i (p2 := 6) (i := 148) rfl rfl hI rfl rfl rfl (fun y1 a1 b1 e1 => ?_)
  refine te_iconst (p2 := 7) (x := 1) rfl rfl (by decide) ?_
  refine ar_sub (p2 := 8) rfl rfl rfl (show Int32.toInt 1 = 1 from rfl) (by omega) (by omega) (fun z2 e2 f2 => ?_)
  refine cS_pI (p2 := 11) rfl rfl rfl rfl (t_X12_in (n := k) (a := 0) (b := z2) hI ) (by decide) (fun y3 r3 => ?_)
  rcases r3 with ⟨w3, c3⟩ | ⟨w3, c3⟩
  · subst w3
    have cc3_1 := (show Int32.toInt 0 = 0 from rfl)
    exact te_zret rfl rfl (by decide) ⟨rfl, _, rfl, y1, e1, by omega, by omega, Or.inl ⟨rfl, by omega⟩⟩
  · subst w3
    have cc3_1 := (show Int32.toInt 0 = 0 from rfl)
    exact te_zret rfl rfl (by decide) ⟨rfl, _, rfl, y1, e1, by omega, by omega, Or.inr ⟨rfl, by omega⟩⟩
set_option maxRecDepth 20000 in
set_option maxHeartbeats 4000000 in
theorem t_X12_isRoom {k : Int32} {h : im_H} (hI : tI h)  : CaP 2 172 [.ref 164, .int k] h (pI h (fun y => ∃ p : Int32, rd h 148 24 = some (.int p) ∧ 0 ≤ p.toInt ∧ p.toInt ≤ 12 ∧ ((y = 1 ∧ 0 ≤ k.toInt ∧ k.toInt < p.toInt) ∨ (y = 0 ∧ ¬ (0 ≤ k.toInt ∧ k.toInt < p.toInt))))) := by
  refine cap_of (d := 1) (M := mX12_isRoom) rfl (Nat.le_of_ble_eq_true rfl) ?_
  show EvP im_K0 1 mX12_isRoom (0, [(0, .ref 164), (1, .int k)], [], h) _
  refine te_iload_n (p2 := 1) rfl rfl rfl ?_
  refine te_iconst (p2 := 2) (x := 0) rfl rfl (by decide) ?_
  refine te_aload_n (p2 := 3) rfl rfl rfl ?_
  refine tg_i (p2 := 6) (i := 148) rfl rfl hI rfl rfl rfl (fun y1 a1 b1 e1 => ?_)
  refine te_iconst (p2 := 7) (x := 1) rfl rfl (by decide) ?_
  refine ar_sub (p2 := 8) rfl rfl rfl (show Int32.toInt 1 = 1 from rfl) (by omega) (by omega) (fun z2 e2 f2 => ?_)
  refine cS_pI (p2 := 11) rfl rfl rfl rfl (t_X12_in (n := k) (a := 0) (b := z2) hI ) (by decide) (fun y3 r3 => ?_)
  rcases r3 with ⟨w3, c3⟩ | ⟨w3, c3⟩
  · subst w3
    have cc3_1 := (show Int32.toInt 0 = 0 from rfl)
    exact te_zret rfl rfl (by decide) ⟨rfl, _, rfl, y1, e1, by omega, by omega, Or.inl ⟨rfl, by omega⟩⟩
  · subst w3
    have cc3_1 := (show Int32.toInt 0 = 0 from rfl)
    exact te_zret rfl rfl (by decide) ⟨rfl, _, rfl, y1, e1, by omega, by omega, Or.inr ⟨rfl, by omega⟩⟩
set_option maxRecDepth 20000 in
set_option maxHeartbeats 4000000 in
theorem t_X12_nextTo {c : Int32} {side : Int32} {h : im_H} (hI : tI h) (p_c0 : 0 ≤ c.toInt) (p_c1 : c.toInt ≤ 99) : CaP 1 120 [.int c, .int side] h (pI h (fun y => -1 ≤ y.toInt ∧ y.toInt ≤ 99 ∧ y = nbr c side)) := by
  refine cap_of (d := 0) (M := mX12_nextTo) rfl (Nat.le_of_ble_eq_true rfl) ?_
  show EvP im_K0 0 mX12_nextTo (0, [(0, .int c), (1, .int side)], [], h) _
  refine te_iload_n (p2 := 1) rfl rfl rfl ?_
  by_cases c1 : side.toInt = 0
  · refine te_tsIn (k := 0) (p2 := 28) rfl c1 (by decide) (by decide) rfl (by decide) ?_
    refine te_iload_n (p2 := 29) rfl rfl rfl ?_
    refine te_bipush (p2 := 31) (x := 90) rfl rfl (by decide) ?_
    refine tb_ge (p2 := 34) rfl rfl rfl (show Int32.toInt 90 = 90 from rfl) (fun c2 => ?_) (fun c2 => ?_)
    · refine te_iconst (p2 := 42) (x := (-1)) rfl rfl (by decide) ?_
      exact te_iret rfl rfl ⟨rfl, _, rfl, by decide, by decide, by (unfold nbr; (repeat' split) <;> first | (exfalso; omega) | rfl | (subst_vars; rfl))⟩
    · refine te_iload_n (p2 := 35) rfl rfl rfl ?_
      refine te_bipush (p2 := 37) (x := 10) rfl rfl (by decide) ?_
      refine ar_add (p2 := 38) rfl rfl rfl (show Int32.toInt 10 = 10 from rfl) (by omega) (by omega) (fun z3 e3 f3 => ?_)
      refine te_goto rfl ?_
      exact te_iret rfl rfl ⟨rfl, _, rfl, by omega, by omega, by (unfold nbr; (repeat' split) <;> first | (exfalso; omega) | rfl | (subst_vars; rfl))⟩
  · by_cases c4 : side.toInt = 1
    · refine te_tsIn (k := 1) (p2 := 43) rfl c4 (by decide) (by decide) rfl (by decide) ?_
      refine te_iload_n (p2 := 44) rfl rfl rfl ?_
      refine te_bipush (p2 := 46) (x := 10) rfl rfl (by decide) ?_
      refine ar_rem (p2 := 47) rfl rfl rfl (show Int32.toInt 10 = 10 from rfl) (by omega) (by decide) (fun z5 e5 f5 => ?_)
      refine te_bipush (p2 := 49) (x := 9) rfl rfl (by decide) ?_
      refine tb_ge (p2 := 52) rfl rfl rfl (show Int32.toInt 9 = 9 from rfl) (fun c6 => ?_) (fun c6 => ?_)
      · refine te_iconst (p2 := 59) (x := (-1)) rfl rfl (by decide) ?_
        exact te_iret rfl rfl ⟨rfl, _, rfl, by decide, by decide, by (unfold nbr; (repeat' split) <;> first | (exfalso; omega) | rfl | (subst_vars; rfl))⟩
      · refine te_iload_n (p2 := 53) rfl rfl rfl ?_
        refine te_iconst (p2 := 54) (x := 1) rfl rfl (by decide) ?_
        refine ar_add (p2 := 55) rfl rfl rfl (show Int32.toInt 1 = 1 from rfl) (by omega) (by omega) (fun z7 e7 f7 => ?_)
        refine te_goto rfl ?_
        exact te_iret rfl rfl ⟨rfl, _, rfl, by omega, by omega, by (unfold nbr; (repeat' split) <;> first | (exfalso; omega) | rfl | (subst_vars; rfl))⟩
    · by_cases c8 : side.toInt = 2
      · refine te_tsIn (k := 2) (p2 := 60) rfl c8 (by decide) (by decide) rfl (by decide) ?_
        refine te_iload_n (p2 := 61) rfl rfl rfl ?_
        refine te_bipush (p2 := 63) (x := 10) rfl rfl (by decide) ?_
        refine tb_lt (p2 := 66) rfl rfl rfl (show Int32.toInt 10 = 10 from rfl) (fun c9 => ?_) (fun c9 => ?_)
        · refine te_iconst (p2 := 74) (x := (-1)) rfl rfl (by decide) ?_
          exact te_iret rfl rfl ⟨rfl, _, rfl, by decide, by decide, by (unfold nbr; (repeat' split) <;> first | (exfalso; omega) | rfl | (subst_vars; rfl))⟩
        · refine te_iload_n (p2 := 67) rfl rfl rfl ?_
          refine te_bipush (p2 := 69) (x := 10) rfl rfl (by decide) ?_
          refine ar_sub (p2 := 70) rfl rfl rfl (show Int32.toInt 10 = 10 from rfl) (by omega) (by omega) (fun z10 e10 f10 => ?_)
          refine te_goto rfl ?_
          exact te_iret rfl rfl ⟨rfl, _, rfl, by omega, by omega, by (unfold nbr; (repeat' split) <;> first | (exfalso; omega) | rfl | (subst_vars; rfl))⟩
      · refine te_tsOut (p2 := 75) rfl (by omega) (by decide) ?_
        refine te_iload_n (p2 := 76) rfl rfl rfl ?_
        refine te_bipush (p2 := 78) (x := 10) rfl rfl (by decide) ?_
        refine ar_rem (p2 := 79) rfl rfl rfl (show Int32.toInt 10 = 10 from rfl) (by omega) (by decide) (fun z11 e11 f11 => ?_)
        refine tz_le (p2 := 82) rfl rfl rfl (fun c12 => ?_) (fun c12 => ?_)
        · refine te_iconst (p2 := 89) (x := (-1)) rfl rfl (by decide) ?_
          exact te_iret rfl rfl ⟨rfl, _, rfl, by decide, by decide, by (unfold nbr; (repeat' split) <;> first | (exfalso; omega) | rfl | (subst_vars; rfl))⟩
        · refine te_iload_n (p2 := 83) rfl rfl rfl ?_
          refine te_iconst (p2 := 84) (x := 1) rfl rfl (by decide) ?_
          refine ar_sub (p2 := 85) rfl rfl rfl (show Int32.toInt 1 = 1 from rfl) (by omega) (by omega) (fun z13 e13 f13 => ?_)
          refine te_goto rfl ?_
          exact te_iret rfl rfl ⟨rfl, _, rfl, by omega, by omega, by (unfold nbr; (repeat' split) <;> first | (exfalso; omega) | rfl | (subst_vars; rfl))⟩
set_option maxRecDepth 20000 in
set_option maxHeartbeats 4000000 in
theorem t_X11_cellOnSide {c : Int32} {side : Int32} {h : im_H} (hI : tI h) (p_c0 : 0 ≤ c.toInt) (p_c1 : c.toInt ≤ 99) : CaP 1 112 [.int c, .int side] h (pI h (fun y => -1 ≤ y.toInt ∧ y.toInt ≤ 99 ∧ y = nbr c side)) := by
  refine cap_of (d := 0) (M := mX11_cellOnSide) rfl (Nat.le_of_ble_eq_true rfl) ?_
  show EvP im_K0 0 mX11_cellOnSide (0, [(0, .int c), (1, .int side)], [], h) _
  refine te_iload_n (p2 := 1) rfl rfl rfl ?_
  refine te_bipush (p2 := 3) (x := 10) rfl rfl (by decide) ?_
  refine ar_rem (p2 := 4) rfl rfl rfl (show Int32.toInt 10 = 10 from rfl) (by omega) (by decide) (fun z1 e1 f1 => ?_)
  refine te_istore_n (p2 := 5) (lv2 := [(2, .int z1), (0, .int c), (1, .int side)]) rfl rfl (by decide) rfl ?_
  refine te_iload_n (p2 := 6) rfl rfl rfl ?_
  refine te_bipush (p2 := 8) (x := 10) rfl rfl (by decide) ?_
  refine ar_div (p2 := 9) rfl rfl rfl (show Int32.toInt 10 = 10 from rfl) (by omega) (by decide) (fun z2 e2 f2 => ?_)
  refine te_istore_n (p2 := 10) (lv2 := [(3, .int z2), (2, .int z1), (0, .int c), (1, .int side)]) rfl rfl (by decide) rfl ?_
  refine te_iload_n (p2 := 11) rfl rfl rfl ?_
  by_cases c3 : side.toInt = 0
  · refine te_tsIn (k := 0) (p2 := 36) rfl c3 (by decide) (by decide) rfl (by decide) ?_
    refine te_iload_n (p2 := 37) rfl rfl rfl ?_
    refine te_bipush (p2 := 39) (x := 9) rfl rfl (by decide) ?_
    refine tb_ge (p2 := 42) rfl rfl rfl (show Int32.toInt 9 = 9 from rfl) (fun c4 => ?_) (fun c4 => ?_)
    · refine te_iconst (p2 := 50) (x := (-1)) rfl rfl (by decide) ?_
      exact te_iret rfl rfl ⟨rfl, _, rfl, by decide, by decide, by (unfold nbr; (repeat' split) <;> first | (exfalso; omega) | rfl | (subst_vars; rfl))⟩
    · refine te_iload_n (p2 := 43) rfl rfl rfl ?_
      refine te_bipush (p2 := 45) (x := 10) rfl rfl (by decide) ?_
      refine ar_add (p2 := 46) rfl rfl rfl (show Int32.toInt 10 = 10 from rfl) (by omega) (by omega) (fun z5 e5 f5 => ?_)
      refine te_goto rfl ?_
      exact te_iret rfl rfl ⟨rfl, _, rfl, by omega, by omega, by (unfold nbr; (repeat' split) <;> first | (exfalso; omega) | rfl | (subst_vars; rfl))⟩
  · by_cases c6 : side.toInt = 1
    · refine te_tsIn (k := 1) (p2 := 51) rfl c6 (by decide) (by decide) rfl (by decide) ?_
      refine te_iload_n (p2 := 52) rfl rfl rfl ?_
      refine te_bipush (p2 := 54) (x := 9) rfl rfl (by decide) ?_
      refine tb_ge (p2 := 57) rfl rfl rfl (show Int32.toInt 9 = 9 from rfl) (fun c7 => ?_) (fun c7 => ?_)
      · refine te_iconst (p2 := 64) (x := (-1)) rfl rfl (by decide) ?_
        exact te_iret rfl rfl ⟨rfl, _, rfl, by decide, by decide, by (unfold nbr; (repeat' split) <;> first | (exfalso; omega) | rfl | (subst_vars; rfl))⟩
      · refine te_iload_n (p2 := 58) rfl rfl rfl ?_
        refine te_iconst (p2 := 59) (x := 1) rfl rfl (by decide) ?_
        refine ar_add (p2 := 60) rfl rfl rfl (show Int32.toInt 1 = 1 from rfl) (by omega) (by omega) (fun z8 e8 f8 => ?_)
        refine te_goto rfl ?_
        exact te_iret rfl rfl ⟨rfl, _, rfl, by omega, by omega, by (unfold nbr; (repeat' split) <;> first | (exfalso; omega) | rfl | (subst_vars; rfl))⟩
    · by_cases c9 : side.toInt = 2
      · refine te_tsIn (k := 2) (p2 := 65) rfl c9 (by decide) (by decide) rfl (by decide) ?_
        refine te_iload_n (p2 := 66) rfl rfl rfl ?_
        refine tz_le (p2 := 69) rfl rfl rfl (fun c10 => ?_) (fun c10 => ?_)
        · refine te_iconst (p2 := 77) (x := (-1)) rfl rfl (by decide) ?_
          exact te_iret rfl rfl ⟨rfl, _, rfl, by decide, by decide, by (unfold nbr; (repeat' split) <;> first | (exfalso; omega) | rfl | (subst_vars; rfl))⟩
        · refine te_iload_n (p2 := 70) rfl rfl rfl ?_
          refine te_bipush (p2 := 72) (x := 10) rfl rfl (by decide) ?_
          refine ar_sub (p2 := 73) rfl rfl rfl (show Int32.toInt 10 = 10 from rfl) (by omega) (by omega) (fun z11 e11 f11 => ?_)
          refine te_goto rfl ?_
          exact te_iret rfl rfl ⟨rfl, _, rfl, by omega, by omega, by (unfold nbr; (repeat' split) <;> first | (exfalso; omega) | rfl | (subst_vars; rfl))⟩
      · refine te_tsOut (p2 := 78) rfl (by omega) (by decide) ?_
        refine te_iload_n (p2 := 79) rfl rfl rfl ?_
        refine tz_le (p2 := 82) rfl rfl rfl (fun c12 => ?_) (fun c12 => ?_)
        · refine te_iconst (p2 := 89) (x := (-1)) rfl rfl (by decide) ?_
          exact te_iret rfl rfl ⟨rfl, _, rfl, by decide, by decide, by (unfold nbr; (repeat' split) <;> first | (exfalso; omega) | rfl | (subst_vars; rfl))⟩
        · refine te_iload_n (p2 := 83) rfl rfl rfl ?_
          refine te_iconst (p2 := 84) (x := 1) rfl rfl (by decide) ?_
          refine ar_sub (p2 := 85) rfl rfl rfl (show Int32.toInt 1 = 1 from rfl) (by omega) (by omega) (fun z13 e13 f13 => ?_)
          refine te_goto rfl ?_
          exact te_iret rfl rfl ⟨rfl, _, rfl, by omega, by omega, by (unfold nbr; (repeat' split) <;> first | (exfalso; omega) | rfl | (subst_vars; rfl))⟩
set_option maxRecDepth 20000 in
set_option maxHeartbeats 4000000 in
theorem t_X12_weakOf {c : Int32} {h : im_H} (hI : tI h) (p_c0 : 0 ≤ c.toInt) (p_c1 : c.toInt ≤ 99) : CaP 1 122 [.ref 164, .int c] h (pI h (fun y => 0 ≤ y.toInt ∧ y.toInt ≤ 70)) := by
  refine cap_of (d := 0) (M := mX12_weakOf) rfl (Nat.le_of_ble_eq_true rfl) ?_
  show EvP im_K0 0 mX12_weakOf (0, [(0, .ref 164), (1, .int c)], [], h) _
  refine te_aload_n (p2 := 1) rfl rfl rfl ?_
  refine tg_r (p2 := 4) (i := 148) (r := 168) rfl rfl hI rfl rfl rfl ?_
  refine te_iload_n (p2 := 5) rfl rfl rfl ?_
  refine tl_i (p2 := 6) (i := 152) (n := 100) rfl rfl hI rfl rfl rfl rfl (by omega) (by omega) (fun y1 a1 b1 g1 e1 => ?_)
  refine te_iconst (p2 := 7) (x := (-1)) rfl rfl (by decide) ?_
  refine tb_ne (p2 := 10) rfl rfl rfl (show Int32.toInt (-1) = (-1) from rfl) (fun c2 => ?_) (fun c2 => ?_)
  · refine te_aload_n (p2 := 15) rfl rfl rfl ?_
    refine tg_r (p2 := 18) (i := 148) (r := 172) rfl rfl hI rfl rfl rfl ?_
    refine te_aload_n (p2 := 19) rfl rfl rfl ?_
    refine tg_r (p2 := 22) (i := 148) (r := 168) rfl rfl hI rfl rfl rfl ?_
    refine te_iload_n (p2 := 23) rfl rfl rfl ?_
    refine tl_e (p2 := 24) (i := 152) (n := 100) (t := 0) (Or.inl rfl) rfl rfl hI rfl rfl (by omega) (by omega) e1 ?_
    refine tl_i (p2 := 25) (i := 156) (n := 6) rfl rfl hI rfl rfl rfl rfl (by omega) (by omega) (fun y4 a4 b4 g4 e4 => ?_)
    exact te_iret rfl rfl ⟨rfl, _, rfl, by omega, by omega⟩
  · refine te_iconst (p2 := 11) (x := 3) rfl rfl (by decide) ?_
    refine te_goto rfl ?_
    exact te_iret rfl rfl ⟨rfl, _, rfl, by decide, by decide⟩
set_option maxRecDepth 20000 in
set_option maxHeartbeats 4000000 in
theorem t_X0_weakOf {c : Int32} {h : im_H} (hI : tI h) (p_c0 : 0 ≤ c.toInt) (p_c1 : c.toInt ≤ 99) : CaP 1 2 [.ref 17, .int c] h (pI h (fun y => 2 ≤ y.toInt ∧ y.toInt ≤ 7)) := by
  refine cap_of (d := 0) (M := mX0_weakOf) rfl (Nat.le_of_ble_eq_true rfl) ?_
  show EvP im_K0 0 mX0_weakOf (0, [(0, .ref 17), (1, .int c)], [], h) _
  refine te_aload_n (p2 := 1) rfl rfl rfl ?_
  refine tg_r (p2 := 4) (i := 1) (r := 18) rfl rfl hI rfl rfl rfl ?_
  refine te_iload_n (p2 := 5) rfl rfl rfl ?_
  refine tl_i (p2 := 6) (i := 2) (n := 100) rfl rfl hI rfl rfl rfl rfl (by omega) (by omega) (fun y1 a1 b1 g1 e1 => ?_)
  refine te_iconst (p2 := 7) (x := (-1)) rfl rfl (by decide) ?_
  refine tb_ne (p2 := 10) rfl rfl rfl (show Int32.toInt (-1) = (-1) from rfl) (fun c2 => ?_) (fun c2 => ?_)
  · refine te_gst (p2 := 17) rfl rfl (by decide) ?_
    refine te_aload_n (p2 := 18) rfl rfl rfl ?_
    refine tg_r (p2 := 21) (i := 1) (r := 18) rfl rfl hI rfl rfl rfl ?_
    refine te_iload_n (p2 := 22) rfl rfl rfl ?_
    refine tl_e (p2 := 23) (i := 2) (n := 100) (t := 0) (Or.inl rfl) rfl rfl hI rfl rfl (by omega) (by omega) e1 ?_
    refine tl_s (p2 := 24) (R := 3) (l := [3, 3, 2, 7, 2, 6]) (n := 6) (lo := 2) (hi := 7) rfl rfl (by decide) rfl rfl (by decide) (by omega) (by omega) (fun y4 a4 b4 e4 => ?_)
    exact te_iret rfl rfl ⟨rfl, _, rfl, by omega, by omega⟩
  · refine te_iconst (p2 := 11) (x := 3) rfl rfl (by decide) ?_
    refine te_goto rfl ?_
    exact te_iret rfl rfl ⟨rfl, _, rfl, by decide, by decide⟩
end
section
abbrev F_X11_ruin : List (Nat × Nat × Nat) := [(2, 0, 99), (25, 0, 99)]
set_option maxRecDepth 20000 in
set_option maxHeartbeats 4000000 in
theorem t_X11_ruin {x1 : Int32} {x2 : Int32} {x3 : Int32} {h : im_H} (hI : tI h)  : CaP 8 61 [.ref 16, .int x1, .int x2, .int x3] h (mI h F_X11_ruin (fun _ => True)) := by
  refine cap_of (d := 7) (M := mX11_ruin) rfl (Nat.le_of_ble_eq_true rfl) ?_
  show EvP im_K0 7 mX11_ruin (0, [(0, .ref 16), (1, .int x1), (2, .int x2), (3, .int x3)], [], h) _
  have f0 : fr F_X11_ruin h h := fr_rf
  refine te_iload_n (p2 := 1) rfl rfl rfl ?_
  refine te_bipush (p2 := 3) (x := 100) rfl rfl (by decide) ?_
  refine cS_pI (p2 := 6) rfl rfl rfl rfl (t_X11_within (n := x1) (b := 100) hI ) (by decide) (fun y1 r1 => ?_)
  rcases r1 with ⟨w1, c1⟩ | ⟨w1, c1⟩
  · subst w1
    have cc1_1 := (show Int32.toInt 100 = 100 from rfl)
    refine tz_ne (p2 := 9) rfl rfl (show Int32.toInt 1 = 1 from rfl) (fun c2 => ?_) (fun c2 => absurd c2 (by omega))
    refine te_iload_n (p2 := 12) rfl rfl rfl ?_
    refine te_bipush (p2 := 14) (x := 6) rfl rfl (by decide) ?_
    refine cS_pI (p2 := 17) rfl rfl rfl rfl (t_X11_within (n := x2) (b := 6) hI ) (by decide) (fun y3 r3 => ?_)
    rcases r3 with ⟨w3, c3⟩ | ⟨w3, c3⟩
    · subst w3
      have cc3_1 := (show Int32.toInt 6 = 6 from rfl)
      refine tz_eq (p2 := 20) rfl rfl (show Int32.toInt 1 = 1 from rfl) (fun c4 => absurd c4 (by omega)) (fun c4 => ?_)
      refine te_iload_n (p2 := 21) rfl rfl rfl ?_
      refine te_iconst (p2 := 22) (x := 0) rfl rfl (by decide) ?_
      refine te_sipush (p2 := 25) (x := 9999) rfl rfl (by decide) ?_
      refine cS_pI (p2 := 28) rfl rfl rfl rfl (t_X11_between (n := x3) (a := 0) (b := 9999) hI ) (by decide) (fun y5 r5 => ?_)
      rcases r5 with ⟨w5, c5⟩ | ⟨w5, c5⟩
      · subst w5
        have cc5_1 := (show Int32.toInt 0 = 0 from rfl)
        have cc5_2 := (show Int32.toInt 9999 = 9999 from rfl)
        refine tz_ne (p2 := 31) rfl rfl (show Int32.toInt 1 = 1 from rfl) (fun c6 => ?_) (fun c6 => absurd c6 (by omega))
        refine te_aload_n (p2 := 35) rfl rfl rfl ?_
        refine tg_r (p2 := 38) (i := 0) (r := 39) rfl rfl hI rfl rfl rfl ?_
        refine tg_r (p2 := 41) (i := 23) (r := 41) rfl rfl hI rfl rfl rfl ?_
        refine te_iload_n (p2 := 42) rfl rfl rfl ?_
        refine tl_i (p2 := 43) (i := 25) (n := 100) rfl rfl hI rfl rfl rfl rfl (by omega) (by omega) (fun y7 a7 b7 g7 e7 => ?_)
        refine te_istore (p2 := 45) (lv2 := [(4, .int y7), (0, .ref 16), (1, .int x1), (2, .int x2), (3, .int x3)]) rfl rfl (by decide) rfl ?_
        refine te_aload_n (p2 := 46) rfl rfl rfl ?_
        refine tg_r (p2 := 49) (i := 0) (r := 17) rfl rfl hI rfl rfl rfl ?_
        refine tg_r (p2 := 52) (i := 1) (r := 18) rfl rfl hI rfl rfl rfl ?_
        refine te_iload_n (p2 := 53) rfl rfl rfl ?_
        refine te_iload_n (p2 := 54) rfl rfl rfl ?_
        refine ts_i (p2 := 55) (i := 2) (n := 100) rfl rfl hI rfl rfl rfl rfl (by omega) (by omega) (by omega) (by omega) (by omega) rfl (fun h8 I8 u8 => ?_)
        have f8 := fr_st (F := F_X11_ruin) 0 f0 u8 rfl (by omega) (by omega)
        refine te_aload_n (p2 := 56) rfl rfl rfl ?_
        refine tg_r (p2 := 59) (i := 0) (r := 39) rfl rfl I8 rfl rfl rfl ?_
        refine tg_r (p2 := 62) (i := 23) (r := 41) rfl rfl I8 rfl rfl rfl ?_
        refine te_iload_n (p2 := 63) rfl rfl rfl ?_
        refine te_iload_n (p2 := 64) rfl rfl rfl ?_
        refine ts_i (p2 := 65) (i := 25) (n := 100) rfl rfl I8 rfl rfl rfl rfl (by omega) (by omega) (i32_lo _) (i32_hi _) (i32_ho _) rfl (fun h9 I9 u9 => ?_)
        have f9 := fr_st (F := F_X11_ruin) 1 f8 u9 rfl (by omega) (by omega)
        refine te_iload (p2 := 67) rfl rfl rfl ?_
        exact te_iret rfl rfl ⟨I9, f9, _, rfl, trivial⟩
      · subst w5
        have cc5_1 := (show Int32.toInt 0 = 0 from rfl)
        have cc5_2 := (show Int32.toInt 9999 = 9999 from rfl)
        refine tz_ne (p2 := 31) rfl rfl (show Int32.toInt 0 = 0 from rfl) (fun c10 => absurd c10 (by omega)) (fun c10 => ?_)
        refine te_bipush (p2 := 33) (x := (-2)) rfl rfl (by decide) ?_
        exact te_iret rfl rfl ⟨hI, f0, _, rfl, trivial⟩
    · subst w3
      have cc3_1 := (show Int32.toInt 6 = 6 from rfl)
      refine tz_eq (p2 := 20) rfl rfl (show Int32.toInt 0 = 0 from rfl) (fun c11 => ?_) (fun c11 => absurd c11 (by omega))
      refine te_bipush (p2 := 33) (x := (-2)) rfl rfl (by decide) ?_
      exact te_iret rfl rfl ⟨hI, f0, _, rfl, trivial⟩
  · subst w1
    have cc1_1 := (show Int32.toInt 100 = 100 from rfl)
    refine tz_ne (p2 := 9) rfl rfl (show Int32.toInt 0 = 0 from rfl) (fun c12 => absurd c12 (by omega)) (fun c12 => ?_)
    refine te_iconst (p2 := 10) (x := (-1)) rfl rfl (by decide) ?_
    exact te_iret rfl rfl ⟨hI, f0, _, rfl, trivial⟩
abbrev F_X12_ruin : List (Nat × Nat × Nat) := [(149, 0, 99), (152, 0, 99)]
set_option maxRecDepth 20000 in
set_option maxHeartbeats 4000000 in
theorem t_X12_ruin {x1 : Int32} {x2 : Int32} {x3 : Int32} {h : im_H} (hI : tI h)  : CaP 8 123 [.ref 164, .int x1, .int x2, .int x3] h (mI h F_X12_ruin (fun _ => True)) := by
  refine cap_of (d := 7) (M := mX12_ruin) rfl (Nat.le_of_ble_eq_true rfl) ?_
  show EvP im_K0 7 mX12_ruin (0, [(0, .ref 164), (1, .int x1), (2, .int x2), (3, .int x3)], [], h) _
  have f0 : fr F_X12_ruin h h := fr_rf
  refine te_iload_n (p2 := 1) rfl rfl rfl ?_
  refine cS_pI (p2 := 4) rfl rfl rfl rfl (t_X12_isCell (n := x1) hI ) (by decide) (fun y1 r1 => ?_)
  rcases r1 with ⟨w1, c1⟩ | ⟨w1, c1⟩
  · subst w1
    refine tz_ne (p2 := 7) rfl rfl (show Int32.toInt 1 = 1 from rfl) (fun c2 => ?_) (fun c2 => absurd c2 (by omega))
    refine te_iload_n (p2 := 10) rfl rfl rfl ?_
    refine te_iconst (p2 := 11) (x := 0) rfl rfl (by decide) ?_
    refine te_iconst (p2 := 12) (x := 5) rfl rfl (by decide) ?_
    refine cS_pI (p2 := 15) rfl rfl rfl rfl (t_X12_in (n := x2) (a := 0) (b := 5) hI ) (by decide) (fun y3 r3 => ?_)
    rcases r3 with ⟨w3, c3⟩ | ⟨w3, c3⟩
    · subst w3
      have cc3_1 := (show Int32.toInt 0 = 0 from rfl)
      have cc3_2 := (show Int32.toInt 5 = 5 from rfl)
      refine tz_eq (p2 := 18) rfl rfl (show Int32.toInt 1 = 1 from rfl) (fun c4 => absurd c4 (by omega)) (fun c4 => ?_)
      refine te_iload_n (p2 := 19) rfl rfl rfl ?_
      refine te_iconst (p2 := 20) (x := 0) rfl rfl (by decide) ?_
      refine te_sipush (p2 := 23) (x := 9999) rfl rfl (by decide) ?_
      refine cS_pI (p2 := 26) rfl rfl rfl rfl (t_X12_in (n := x3) (a := 0) (b := 9999) hI ) (by decide) (fun y5 r5 => ?_)
      rcases r5 with ⟨w5, c5⟩ | ⟨w5, c5⟩
      · subst w5
        have cc5_1 := (show Int32.toInt 0 = 0 from rfl)
        have cc5_2 := (show Int32.toInt 9999 = 9999 from rfl)
        refine tz_ne (p2 := 29) rfl rfl (show Int32.toInt 1 = 1 from rfl) (fun c6 => ?_) (fun c6 => absurd c6 (by omega))
        refine te_aload_n (p2 := 33) rfl rfl rfl ?_
        refine tg_r (p2 := 36) (i := 148) (r := 165) rfl rfl hI rfl rfl rfl ?_
        refine te_iload_n (p2 := 37) rfl rfl rfl ?_
        refine tl_i (p2 := 38) (i := 149) (n := 283) rfl rfl hI rfl rfl rfl rfl (by omega) (by omega) (fun y7 a7 b7 g7 e7 => ?_)
        refine te_istore (p2 := 40) (lv2 := [(4, .int y7), (0, .ref 164), (1, .int x1), (2, .int x2), (3, .int x3)]) rfl rfl (by decide) rfl ?_
        refine te_aload_n (p2 := 41) rfl rfl rfl ?_
        refine tg_r (p2 := 44) (i := 148) (r := 165) rfl rfl hI rfl rfl rfl ?_
        refine te_iload_n (p2 := 45) rfl rfl rfl ?_
        refine te_iload_n (p2 := 46) rfl rfl rfl ?_
        refine ts_i (p2 := 47) (i := 149) (n := 283) rfl rfl hI rfl rfl rfl rfl (by omega) (by omega) (i32_lo _) (i32_hi _) (i32_ho _) rfl (fun h8 I8 u8 => ?_)
        have f8 := fr_st (F := F_X12_ruin) 0 f0 u8 rfl (by omega) (by omega)
        refine te_aload_n (p2 := 48) rfl rfl rfl ?_
        refine tg_r (p2 := 51) (i := 148) (r := 168) rfl rfl I8 rfl rfl rfl ?_
        refine te_iload_n (p2 := 52) rfl rfl rfl ?_
        refine te_iload_n (p2 := 53) rfl rfl rfl ?_
        refine ts_i (p2 := 54) (i := 152) (n := 100) rfl rfl I8 rfl rfl rfl rfl (by omega) (by omega) (by omega) (by omega) (by omega) rfl (fun h9 I9 u9 => ?_)
        have f9 := fr_st (F := F_X12_ruin) 1 f8 u9 rfl (by omega) (by omega)
        refine te_iload (p2 := 56) rfl rfl rfl ?_
        exact te_iret rfl rfl ⟨I9, f9, _, rfl, trivial⟩
      · subst w5
        have cc5_1 := (show Int32.toInt 0 = 0 from rfl)
        have cc5_2 := (show Int32.toInt 9999 = 9999 from rfl)
        refine tz_ne (p2 := 29) rfl rfl (show Int32.toInt 0 = 0 from rfl) (fun c10 => absurd c10 (by omega)) (fun c10 => ?_)
        refine te_bipush (p2 := 31) (x := (-2)) rfl rfl (by decide) ?_
        exact te_iret rfl rfl ⟨hI, f0, _, rfl, trivial⟩
    · subst w3
      have cc3_1 := (show Int32.toInt 0 = 0 from rfl)
      have cc3_2 := (show Int32.toInt 5 = 5 from rfl)
      refine tz_eq (p2 := 18) rfl rfl (show Int32.toInt 0 = 0 from rfl) (fun c11 => ?_) (fun c11 => absurd c11 (by omega))
      refine te_bipush (p2 := 31) (x := (-2)) rfl rfl (by decide) ?_
      exact te_iret rfl rfl ⟨hI, f0, _, rfl, trivial⟩
  · subst w1
    refine tz_ne (p2 := 7) rfl rfl (show Int32.toInt 0 = 0 from rfl) (fun c12 => absurd c12 (by omega)) (fun c12 => ?_)
    refine te_iconst (p2 := 8) (x := (-1)) rfl rfl (by decide) ?_
    exact te_iret rfl rfl ⟨hI, f0, _, rfl, trivial⟩
abbrev F_X11_person : List (Nat × Nat × Nat) := [(1, 2, 2), (26, 0, 23), (3, 0, 23), (4, 0, 23), (5, 0, 23)]
set_option maxRecDepth 20000 in
set_option maxHeartbeats 4000000 in
theorem t_X11_person {x1 : Int32} {x2 : Int32} {x3 : Int32} {x4 : Int32} {h : im_H} (hI : tI h)  : CaP 8 62 [.ref 16, .int x1, .int x2, .int x3, .int x4] h (mI h F_X11_person (fun _ => True)) := by
  refine cap_of (d := 7) (M := mX11_person) rfl (Nat.le_of_ble_eq_true rfl) ?_
  show EvP im_K0 7 mX11_person (0, [(0, .ref 16), (1, .int x1), (2, .int x2), (3, .int x3), (4, .int x4)], [], h) _
  have f0 : fr F_X11_person h h := fr_rf
  refine te_iload_n (p2 := 1) rfl rfl rfl ?_
  refine te_bipush (p2 := 3) (x := 100) rfl rfl (by decide) ?_
  refine cS_pI (p2 := 6) rfl rfl rfl rfl (t_X11_within (n := x1) (b := 100) hI ) (by decide) (fun y1 r1 => ?_)
  rcases r1 with ⟨w1, c1⟩ | ⟨w1, c1⟩
  · subst w1
    have cc1_1 := (show Int32.toInt 100 = 100 from rfl)
    refine tz_ne (p2 := 9) rfl rfl (show Int32.toInt 1 = 1 from rfl) (fun c2 => ?_) (fun c2 => absurd c2 (by omega))
    refine te_iload_n (p2 := 12) rfl rfl rfl ?_
    refine te_iconst (p2 := 13) (x := 1) rfl rfl (by decide) ?_
    refine te_bipush (p2 := 15) (x := 9) rfl rfl (by decide) ?_
    refine cS_pI (p2 := 18) rfl rfl rfl rfl (t_X11_between (n := x2) (a := 1) (b := 9) hI ) (by decide) (fun y3 r3 => ?_)
    rcases r3 with ⟨w3, c3⟩ | ⟨w3, c3⟩
    · subst w3
      have cc3_1 := (show Int32.toInt 1 = 1 from rfl)
      have cc3_2 := (show Int32.toInt 9 = 9 from rfl)
      refine tz_eq (p2 := 21) rfl rfl (show Int32.toInt 1 = 1 from rfl) (fun c4 => absurd c4 (by omega)) (fun c4 => ?_)
      refine te_iload_n (p2 := 22) rfl rfl rfl ?_
      refine te_iconst (p2 := 23) (x := 0) rfl rfl (by decide) ?_
      refine te_bipush (p2 := 25) (x := 99) rfl rfl (by decide) ?_
      refine cS_pI (p2 := 28) rfl rfl rfl rfl (t_X11_between (n := x3) (a := 0) (b := 99) hI ) (by decide) (fun y5 r5 => ?_)
      rcases r5 with ⟨w5, c5⟩ | ⟨w5, c5⟩
      · subst w5
        have cc5_1 := (show Int32.toInt 0 = 0 from rfl)
        have cc5_2 := (show Int32.toInt 99 = 99 from rfl)
        refine tz_eq (p2 := 31) rfl rfl (show Int32.toInt 1 = 1 from rfl) (fun c6 => absurd c6 (by omega)) (fun c6 => ?_)
        refine te_iload (p2 := 33) rfl rfl rfl ?_
        refine te_iconst (p2 := 34) (x := 0) rfl rfl (by decide) ?_
        refine te_bipush (p2 := 36) (x := 9) rfl rfl (by decide) ?_
        refine cS_pI (p2 := 39) rfl rfl rfl rfl (t_X11_between (n := x4) (a := 0) (b := 9) hI ) (by decide) (fun y7 r7 => ?_)
        rcases r7 with ⟨w7, c7⟩ | ⟨w7, c7⟩
        · subst w7
          have cc7_1 := (show Int32.toInt 0 = 0 from rfl)
          have cc7_2 := (show Int32.toInt 9 = 9 from rfl)
          refine tz_ne (p2 := 42) rfl rfl (show Int32.toInt 1 = 1 from rfl) (fun c8 => ?_) (fun c8 => absurd c8 (by omega))
          refine te_aload_n (p2 := 46) rfl rfl rfl ?_
          refine tg_r (p2 := 49) (i := 0) (r := 17) rfl rfl hI rfl rfl rfl ?_
          refine tg_i (p2 := 52) (i := 1) rfl rfl hI rfl rfl rfl (fun y9 a9 b9 e9 => ?_)
          refine te_bipush (p2 := 54) (x := 24) rfl rfl (by decide) ?_
          refine tb_lt (p2 := 57) rfl rfl rfl (show Int32.toInt 24 = 24 from rfl) (fun c10 => ?_) (fun c10 => ?_)
          · refine te_aload_n (p2 := 61) rfl rfl rfl ?_
            refine tg_r (p2 := 64) (i := 0) (r := 17) rfl rfl hI rfl rfl rfl ?_
            refine tg_e (p2 := 67) (i := 1) (v := .int y9) rfl rfl hI rfl rfl e9 ?_
            refine te_istore (p2 := 69) (lv2 := [(5, .int y9), (0, .ref 16), (1, .int x1), (2, .int x2), (3, .int x3), (4, .int x4)]) rfl rfl (by decide) rfl ?_
            refine te_aload_n (p2 := 70) rfl rfl rfl ?_
            refine tg_r (p2 := 73) (i := 0) (r := 17) rfl rfl hI rfl rfl rfl ?_
            refine tg_r (p2 := 76) (i := 1) (r := 19) rfl rfl hI rfl rfl rfl ?_
            refine te_iload (p2 := 78) rfl rfl rfl ?_
            refine te_iload_n (p2 := 79) rfl rfl rfl ?_
            refine ts_i (p2 := 80) (i := 3) (n := 24) rfl rfl hI rfl rfl rfl rfl (by omega) (by omega) (i32_lo _) (i32_hi _) (i32_ho _) rfl (fun h11 I11 u11 => ?_)
            have f11 := fr_st (F := F_X11_person) 2 f0 u11 rfl (by omega) (by omega)
            refine te_aload_n (p2 := 81) rfl rfl rfl ?_
            refine tg_r (p2 := 84) (i := 0) (r := 17) rfl rfl I11 rfl rfl rfl ?_
            refine tg_r (p2 := 87) (i := 1) (r := 20) rfl rfl I11 rfl rfl rfl ?_
            refine te_iload (p2 := 89) rfl rfl rfl ?_
            refine te_iload_n (p2 := 90) rfl rfl rfl ?_
            refine ts_i (p2 := 91) (i := 4) (n := 24) rfl rfl I11 rfl rfl rfl rfl (by omega) (by omega) (i32_lo _) (i32_hi _) (i32_ho _) rfl (fun h12 I12 u12 => ?_)
            have f12 := fr_st (F := F_X11_person) 3 f11 u12 rfl (by omega) (by omega)
            refine te_aload_n (p2 := 92) rfl rfl rfl ?_
            refine tg_r (p2 := 95) (i := 0) (r := 17) rfl rfl I12 rfl rfl rfl ?_
            refine tg_r (p2 := 98) (i := 1) (r := 21) rfl rfl I12 rfl rfl rfl ?_
            refine te_iload (p2 := 100) rfl rfl rfl ?_
            refine te_iload (p2 := 102) rfl rfl rfl ?_
            refine ts_i (p2 := 103) (i := 5) (n := 24) rfl rfl I12 rfl rfl rfl rfl (by omega) (by omega) (i32_lo _) (i32_hi _) (i32_ho _) rfl (fun h13 I13 u13 => ?_)
            have f13 := fr_st (F := F_X11_person) 4 f12 u13 rfl (by omega) (by omega)
            refine te_aload_n (p2 := 104) rfl rfl rfl ?_
            refine tg_r (p2 := 107) (i := 0) (r := 39) rfl rfl I13 rfl rfl rfl ?_
            refine tg_r (p2 := 110) (i := 23) (r := 42) rfl rfl I13 rfl rfl rfl ?_
            refine te_iload (p2 := 112) rfl rfl rfl ?_
            refine te_iload_n (p2 := 113) rfl rfl rfl ?_
            refine ts_i (p2 := 114) (i := 26) (n := 24) rfl rfl I13 rfl rfl rfl rfl (by omega) (by omega) (i32_lo _) (i32_hi _) (i32_ho _) rfl (fun h14 I14 u14 => ?_)
            have f14 := fr_st (F := F_X11_person) 1 f13 u14 rfl (by omega) (by omega)
            refine te_aload_n (p2 := 115) rfl rfl rfl ?_
            refine tg_r (p2 := 118) (i := 0) (r := 17) rfl rfl I14 rfl rfl rfl ?_
            refine te_dup (p2 := 119) rfl rfl rfl ?_
            refine tg_e (p2 := 122) (i := 1) (v := .int y9) rfl rfl I14 rfl rfl ((u14.2 _ _ (Or.inl (by decide))).trans ((u13.2 _ _ (Or.inl (by decide))).trans ((u12.2 _ _ (Or.inl (by decide))).trans ((u11.2 _ _ (Or.inl (by decide))).trans e9)))) ?_
            refine te_iconst (p2 := 123) (x := 1) rfl rfl (by decide) ?_
            refine ar_add (p2 := 124) rfl rfl rfl (show Int32.toInt 1 = 1 from rfl) (by omega) (by omega) (fun z15 e15 f15 => ?_)
            refine tp_i (p2 := 127) (i := 1) rfl rfl I14 rfl rfl (by decide) rfl rfl rfl (by omega) (by omega) (by omega) rfl (fun h16 I16 u16 => ?_)
            have f16 := fr_st (F := F_X11_person) 0 f14 u16 rfl (by decide) (by decide)
            refine te_iload (p2 := 129) rfl rfl rfl ?_
            exact te_iret rfl rfl ⟨I16, f16, _, rfl, trivial⟩
          · refine te_bipush (p2 := 59) (x := (-4)) rfl rfl (by decide) ?_
            exact te_iret rfl rfl ⟨hI, f0, _, rfl, trivial⟩
        · subst w7
          have cc7_1 := (show Int32.toInt 0 = 0 from rfl)
          have cc7_2 := (show Int32.toInt 9 = 9 from rfl)
          refine tz_ne (p2 := 42) rfl rfl (show Int32.toInt 0 = 0 from rfl) (fun c17 => absurd c17 (by omega)) (fun c17 => ?_)
          refine te_bipush (p2 := 44) (x := (-2)) rfl rfl (by decide) ?_
          exact te_iret rfl rfl ⟨hI, f0, _, rfl, trivial⟩
      · subst w5
        have cc5_1 := (show Int32.toInt 0 = 0 from rfl)
        have cc5_2 := (show Int32.toInt 99 = 99 from rfl)
        refine tz_eq (p2 := 31) rfl rfl (show Int32.toInt 0 = 0 from rfl) (fun c18 => ?_) (fun c18 => absurd c18 (by omega))
        refine te_bipush (p2 := 44) (x := (-2)) rfl rfl (by decide) ?_
        exact te_iret rfl rfl ⟨hI, f0, _, rfl, trivial⟩
    · subst w3
      have cc3_1 := (show Int32.toInt 1 = 1 from rfl)
      have cc3_2 := (show Int32.toInt 9 = 9 from rfl)
      refine tz_eq (p2 := 21) rfl rfl (show Int32.toInt 0 = 0 from rfl) (fun c19 => ?_) (fun c19 => absurd c19 (by omega))
      refine te_bipush (p2 := 44) (x := (-2)) rfl rfl (by decide) ?_
      exact te_iret rfl rfl ⟨hI, f0, _, rfl, trivial⟩
  · subst w1
    have cc1_1 := (show Int32.toInt 100 = 100 from rfl)
    refine tz_ne (p2 := 9) rfl rfl (show Int32.toInt 0 = 0 from rfl) (fun c20 => absurd c20 (by omega)) (fun c20 => ?_)
    refine te_iconst (p2 := 10) (x := (-1)) rfl rfl (by decide) ?_
    exact te_iret rfl rfl ⟨hI, f0, _, rfl, trivial⟩
abbrev F_X12_person : List (Nat × Nat × Nat) := [(148, 10, 10), (149, 140, 163), (157, 0, 23), (158, 0, 23), (159, 0, 23)]
set_option maxRecDepth 20000 in
set_option maxHeartbeats 4000000 in
theorem t_X12_person {x1 : Int32} {x2 : Int32} {x3 : Int32} {x4 : Int32} {h : im_H} (hI : tI h)  : CaP 8 124 [.ref 164, .int x1, .int x2, .int x3, .int x4] h (mI h F_X12_person (fun _ => True)) := by
  refine cap_of (d := 7) (M := mX12_person) rfl (Nat.le_of_ble_eq_true rfl) ?_
  show EvP im_K0 7 mX12_person (0, [(0, .ref 164), (1, .int x1), (2, .int x2), (3, .int x3), (4, .int x4)], [], h) _
  have f0 : fr F_X12_person h h := fr_rf
  refine te_iload_n (p2 := 1) rfl rfl rfl ?_
  refine cS_pI (p2 := 4) rfl rfl rfl rfl (t_X12_isCell (n := x1) hI ) (by decide) (fun y1 r1 => ?_)
  rcases r1 with ⟨w1, c1⟩ | ⟨w1, c1⟩
  · subst w1
    refine tz_ne (p2 := 7) rfl rfl (show Int32.toInt 1 = 1 from rfl) (fun c2 => ?_) (fun c2 => absurd c2 (by omega))
    refine te_iload_n (p2 := 10) rfl rfl rfl ?_
    refine te_iconst (p2 := 11) (x := 1) rfl rfl (by decide) ?_
    refine te_bipush (p2 := 13) (x := 9) rfl rfl (by decide) ?_
    refine cS_pI (p2 := 16) rfl rfl rfl rfl (t_X12_in (n := x2) (a := 1) (b := 9) hI ) (by decide) (fun y3 r3 => ?_)
    rcases r3 with ⟨w3, c3⟩ | ⟨w3, c3⟩
    · subst w3
      have cc3_1 := (show Int32.toInt 1 = 1 from rfl)
      have cc3_2 := (show Int32.toInt 9 = 9 from rfl)
      refine tz_eq (p2 := 19) rfl rfl (show Int32.toInt 1 = 1 from rfl) (fun c4 => absurd c4 (by omega)) (fun c4 => ?_)
      refine te_iload_n (p2 := 20) rfl rfl rfl ?_
      refine te_iconst (p2 := 21) (x := 0) rfl rfl (by decide) ?_
      refine te_bipush (p2 := 23) (x := 99) rfl rfl (by decide) ?_
      refine cS_pI (p2 := 26) rfl rfl rfl rfl (t_X12_in (n := x3) (a := 0) (b := 99) hI ) (by decide) (fun y5 r5 => ?_)
      rcases r5 with ⟨w5, c5⟩ | ⟨w5, c5⟩
      · subst w5
        have cc5_1 := (show Int32.toInt 0 = 0 from rfl)
        have cc5_2 := (show Int32.toInt 99 = 99 from rfl)
        refine tz_eq (p2 := 29) rfl rfl (show Int32.toInt 1 = 1 from rfl) (fun c6 => absurd c6 (by omega)) (fun c6 => ?_)
        refine te_iload (p2 := 31) rfl rfl rfl ?_
        refine te_iconst (p2 := 32) (x := 0) rfl rfl (by decide) ?_
        refine te_bipush (p2 := 34) (x := 9) rfl rfl (by decide) ?_
        refine cS_pI (p2 := 37) rfl rfl rfl rfl (t_X12_in (n := x4) (a := 0) (b := 9) hI ) (by decide) (fun y7 r7 => ?_)
        rcases r7 with ⟨w7, c7⟩ | ⟨w7, c7⟩
        · subst w7
          have cc7_1 := (show Int32.toInt 0 = 0 from rfl)
          have cc7_2 := (show Int32.toInt 9 = 9 from rfl)
          refine tz_ne (p2 := 40) rfl rfl (show Int32.toInt 1 = 1 from rfl) (fun c8 => ?_) (fun c8 => absurd c8 (by omega))
          refine te_aload_n (p2 := 44) rfl rfl rfl ?_
          refine tg_i (p2 := 47) (i := 148) rfl rfl hI rfl rfl rfl (fun y9 a9 b9 e9 => ?_)
          refine te_bipush (p2 := 49) (x := 24) rfl rfl (by decide) ?_
          refine tb_ne (p2 := 52) rfl rfl rfl (show Int32.toInt 24 = 24 from rfl) (fun c10 => ?_) (fun c10 => ?_)
          · refine te_aload_n (p2 := 56) rfl rfl rfl ?_
            refine tg_r (p2 := 59) (i := 148) (r := 173) rfl rfl hI rfl rfl rfl ?_
            refine te_aload_n (p2 := 60) rfl rfl rfl ?_
            refine tg_e (p2 := 63) (i := 148) (v := .int y9) rfl rfl hI rfl rfl e9 ?_
            refine te_iload_n (p2 := 64) rfl rfl rfl ?_
            refine ts_i (p2 := 65) (i := 157) (n := 24) rfl rfl hI rfl rfl rfl rfl (by omega) (by omega) (i32_lo _) (i32_hi _) (i32_ho _) rfl (fun h11 I11 u11 => ?_)
            have f11 := fr_st (F := F_X12_person) 2 f0 u11 rfl (by omega) (by omega)
            refine te_aload_n (p2 := 66) rfl rfl rfl ?_
            refine tg_r (p2 := 69) (i := 148) (r := 174) rfl rfl I11 rfl rfl rfl ?_
            refine te_aload_n (p2 := 70) rfl rfl rfl ?_
            refine tg_e (p2 := 73) (i := 148) (v := .int y9) rfl rfl I11 rfl rfl ((u11.2 _ _ (Or.inl (by decide))).trans e9) ?_
            refine te_iload_n (p2 := 74) rfl rfl rfl ?_
            refine ts_i (p2 := 75) (i := 158) (n := 24) rfl rfl I11 rfl rfl rfl rfl (by omega) (by omega) (i32_lo _) (i32_hi _) (i32_ho _) rfl (fun h12 I12 u12 => ?_)
            have f12 := fr_st (F := F_X12_person) 3 f11 u12 rfl (by omega) (by omega)
            refine te_aload_n (p2 := 76) rfl rfl rfl ?_
            refine tg_r (p2 := 79) (i := 148) (r := 175) rfl rfl I12 rfl rfl rfl ?_
            refine te_aload_n (p2 := 80) rfl rfl rfl ?_
            refine tg_e (p2 := 83) (i := 148) (v := .int y9) rfl rfl I12 rfl rfl ((u12.2 _ _ (Or.inl (by decide))).trans ((u11.2 _ _ (Or.inl (by decide))).trans e9)) ?_
            refine te_iload (p2 := 85) rfl rfl rfl ?_
            refine ts_i (p2 := 86) (i := 159) (n := 24) rfl rfl I12 rfl rfl rfl rfl (by omega) (by omega) (i32_lo _) (i32_hi _) (i32_ho _) rfl (fun h13 I13 u13 => ?_)
            have f13 := fr_st (F := F_X12_person) 4 f12 u13 rfl (by omega) (by omega)
            refine te_aload_n (p2 := 87) rfl rfl rfl ?_
            refine tg_r (p2 := 90) (i := 148) (r := 165) rfl rfl I13 rfl rfl rfl ?_
            refine te_sipush (p2 := 93) (x := 140) rfl rfl (by decide) ?_
            refine te_aload_n (p2 := 94) rfl rfl rfl ?_
            refine tg_e (p2 := 97) (i := 148) (v := .int y9) rfl rfl I13 rfl rfl ((u13.2 _ _ (Or.inl (by decide))).trans ((u12.2 _ _ (Or.inl (by decide))).trans ((u11.2 _ _ (Or.inl (by decide))).trans e9))) ?_
            refine ar_add (p2 := 98) rfl rfl (show Int32.toInt 140 = 140 from rfl) rfl (by omega) (by omega) (fun z14 e14 f14 => ?_)
            refine te_iload_n (p2 := 99) rfl rfl rfl ?_
            refine ts_i (p2 := 100) (i := 149) (n := 283) rfl rfl I13 rfl rfl rfl rfl (by omega) (by omega) (i32_lo _) (i32_hi _) (i32_ho _) rfl (fun h15 I15 u15 => ?_)
            have f15 := fr_st (F := F_X12_person) 1 f13 u15 rfl (by omega) (by omega)
            refine te_aload_n (p2 := 101) rfl rfl rfl ?_
            refine te_dup (p2 := 102) rfl rfl rfl ?_
            refine tg_e (p2 := 105) (i := 148) (v := .int y9) rfl rfl I15 rfl rfl ((u15.2 _ _ (Or.inl (by decide))).trans ((u13.2 _ _ (Or.inl (by decide))).trans ((u12.2 _ _ (Or.inl (by decide))).trans ((u11.2 _ _ (Or.inl (by decide))).trans e9)))) ?_
            refine te_iconst (p2 := 106) (x := 1) rfl rfl (by decide) ?_
            refine ar_add (p2 := 107) rfl rfl rfl (show Int32.toInt 1 = 1 from rfl) (by omega) (by omega) (fun z16 e16 f16 => ?_)
            refine tp_i (p2 := 110) (i := 148) rfl rfl I15 rfl rfl (by decide) rfl rfl rfl (by omega) (by omega) (by omega) rfl (fun h17 I17 u17 => ?_)
            have f17 := fr_st (F := F_X12_person) 0 f15 u17 rfl (by decide) (by decide)
            refine te_aload_n (p2 := 111) rfl rfl rfl ?_
            refine tg_e (p2 := 114) (i := 148) (v := .int z16) rfl rfl I17 rfl rfl u17.1 ?_
            refine te_iconst (p2 := 115) (x := 1) rfl rfl (by decide) ?_
            refine ar_sub (p2 := 116) rfl rfl rfl (show Int32.toInt 1 = 1 from rfl) (by omega) (by omega) (fun z18 e18 f18 => ?_)
            exact te_iret rfl rfl ⟨I17, f17, _, rfl, trivial⟩
          · refine te_bipush (p2 := 54) (x := (-4)) rfl rfl (by decide) ?_
            exact te_iret rfl rfl ⟨hI, f0, _, rfl, trivial⟩
        · subst w7
          have cc7_1 := (show Int32.toInt 0 = 0 from rfl)
          have cc7_2 := (show Int32.toInt 9 = 9 from rfl)
          refine tz_ne (p2 := 40) rfl rfl (show Int32.toInt 0 = 0 from rfl) (fun c19 => absurd c19 (by omega)) (fun c19 => ?_)
          refine te_bipush (p2 := 42) (x := (-2)) rfl rfl (by decide) ?_
          exact te_iret rfl rfl ⟨hI, f0, _, rfl, trivial⟩
      · subst w5
        have cc5_1 := (show Int32.toInt 0 = 0 from rfl)
        have cc5_2 := (show Int32.toInt 99 = 99 from rfl)
        refine tz_eq (p2 := 29) rfl rfl (show Int32.toInt 0 = 0 from rfl) (fun c20 => ?_) (fun c20 => absurd c20 (by omega))
        refine te_bipush (p2 := 42) (x := (-2)) rfl rfl (by decide) ?_
        exact te_iret rfl rfl ⟨hI, f0, _, rfl, trivial⟩
    · subst w3
      have cc3_1 := (show Int32.toInt 1 = 1 from rfl)
      have cc3_2 := (show Int32.toInt 9 = 9 from rfl)
      refine tz_eq (p2 := 19) rfl rfl (show Int32.toInt 0 = 0 from rfl) (fun c21 => ?_) (fun c21 => absurd c21 (by omega))
      refine te_bipush (p2 := 42) (x := (-2)) rfl rfl (by decide) ?_
      exact te_iret rfl rfl ⟨hI, f0, _, rfl, trivial⟩
  · subst w1
    refine tz_ne (p2 := 7) rfl rfl (show Int32.toInt 0 = 0 from rfl) (fun c22 => absurd c22 (by omega)) (fun c22 => ?_)
    refine te_iconst (p2 := 8) (x := (-1)) rfl rfl (by decide) ?_
    exact te_iret rfl rfl ⟨hI, f0, _, rfl, trivial⟩
abbrev F_X11_moves : List (Nat × Nat × Nat) := [(26, 0, 23)]
set_option maxRecDepth 20000 in
set_option maxHeartbeats 4000000 in
theorem t_X11_moves {x1 : Int32} {x2 : Int32} {h : im_H} (hI : tI h)  : CaP 8 63 [.ref 16, .int x1, .int x2] h (mI h F_X11_moves (fun _ => True)) := by
  refine cap_of (d := 7) (M := mX11_moves) rfl (Nat.le_of_ble_eq_true rfl) ?_
  show EvP im_K0 7 mX11_moves (0, [(0, .ref 16), (1, .int x1), (2, .int x2)], [], h) _
  have f0 : fr F_X11_moves h h := fr_rf
  refine te_iload_n (p2 := 1) rfl rfl rfl ?_
  refine te_aload_n (p2 := 2) rfl rfl rfl ?_
  refine tg_r (p2 := 5) (i := 0) (r := 17) rfl rfl hI rfl rfl rfl ?_
  refine tg_i (p2 := 8) (i := 1) rfl rfl hI rfl rfl rfl (fun y1 a1 b1 e1 => ?_)
  refine cS_pI (p2 := 11) rfl rfl rfl rfl (t_X11_within (n := x1) (b := y1) hI ) (by decide) (fun y2 r2 => ?_)
  rcases r2 with ⟨w2, c2⟩ | ⟨w2, c2⟩
  · subst w2
    refine tz_eq (p2 := 14) rfl rfl (show Int32.toInt 1 = 1 from rfl) (fun c3 => absurd c3 (by omega)) (fun c3 => ?_)
    refine te_iload_n (p2 := 15) rfl rfl rfl ?_
    refine te_bipush (p2 := 17) (x := 100) rfl rfl (by decide) ?_
    refine cS_pI (p2 := 20) rfl rfl rfl rfl (t_X11_within (n := x2) (b := 100) hI ) (by decide) (fun y4 r4 => ?_)
    rcases r4 with ⟨w4, c4⟩ | ⟨w4, c4⟩
    · subst w4
      have cc4_1 := (show Int32.toInt 100 = 100 from rfl)
      refine tz_ne (p2 := 23) rfl rfl (show Int32.toInt 1 = 1 from rfl) (fun c5 => ?_) (fun c5 => absurd c5 (by omega))
      refine te_aload_n (p2 := 26) rfl rfl rfl ?_
      refine tg_r (p2 := 29) (i := 0) (r := 39) rfl rfl hI rfl rfl rfl ?_
      refine tg_r (p2 := 32) (i := 23) (r := 46) rfl rfl hI rfl rfl rfl ?_
      refine te_iload_n (p2 := 33) rfl rfl rfl ?_
      refine tl_b (p2 := 34) (i := 30) (n := 24) rfl rfl hI rfl rfl rfl rfl (by omega) (by omega) (fun y6 a6 e6 => ?_)
      refine tz_eq (p2 := 37) rfl rfl rfl (fun c7 => ?_) (fun c7 => ?_)
      · refine te_aload_n (p2 := 41) rfl rfl rfl ?_
        refine tg_r (p2 := 44) (i := 0) (r := 39) rfl rfl hI rfl rfl rfl ?_
        refine tg_r (p2 := 47) (i := 23) (r := 42) rfl rfl hI rfl rfl rfl ?_
        refine te_iload_n (p2 := 48) rfl rfl rfl ?_
        refine tl_i (p2 := 49) (i := 26) (n := 24) rfl rfl hI rfl rfl rfl rfl (by omega) (by omega) (fun y8 a8 b8 g8 e8 => ?_)
        refine te_istore_n (p2 := 50) (lv2 := [(3, .int y8), (0, .ref 16), (1, .int x1), (2, .int x2)]) rfl rfl (by decide) rfl ?_
        refine te_aload_n (p2 := 51) rfl rfl rfl ?_
        refine tg_r (p2 := 54) (i := 0) (r := 39) rfl rfl hI rfl rfl rfl ?_
        refine tg_r (p2 := 57) (i := 23) (r := 42) rfl rfl hI rfl rfl rfl ?_
        refine te_iload_n (p2 := 58) rfl rfl rfl ?_
        refine te_iload_n (p2 := 59) rfl rfl rfl ?_
        refine ts_i (p2 := 60) (i := 26) (n := 24) rfl rfl hI rfl rfl rfl rfl (by omega) (by omega) (i32_lo _) (i32_hi _) (i32_ho _) rfl (fun h9 I9 u9 => ?_)
        have f9 := fr_st (F := F_X11_moves) 0 f0 u9 rfl (by omega) (by omega)
        refine te_iload_n (p2 := 61) rfl rfl rfl ?_
        exact te_iret rfl rfl ⟨I9, f9, _, rfl, trivial⟩
      · refine te_bipush (p2 := 39) (x := (-3)) rfl rfl (by decide) ?_
        exact te_iret rfl rfl ⟨hI, f0, _, rfl, trivial⟩
    · subst w4
      have cc4_1 := (show Int32.toInt 100 = 100 from rfl)
      refine tz_ne (p2 := 23) rfl rfl (show Int32.toInt 0 = 0 from rfl) (fun c10 => absurd c10 (by omega)) (fun c10 => ?_)
      refine te_iconst (p2 := 24) (x := (-1)) rfl rfl (by decide) ?_
      exact te_iret rfl rfl ⟨hI, f0, _, rfl, trivial⟩
  · subst w2
    refine tz_eq (p2 := 14) rfl rfl (show Int32.toInt 0 = 0 from rfl) (fun c11 => ?_) (fun c11 => absurd c11 (by omega))
    refine te_iconst (p2 := 24) (x := (-1)) rfl rfl (by decide) ?_
    exact te_iret rfl rfl ⟨hI, f0, _, rfl, trivial⟩
abbrev F_X12_moves : List (Nat × Nat × Nat) := [(149, 140, 163)]
set_option maxRecDepth 20000 in
set_option maxHeartbeats 4000000 in
theorem t_X12_moves {x1 : Int32} {x2 : Int32} {h : im_H} (hI : tI h)  : CaP 8 125 [.ref 164, .int x1, .int x2] h (mI h F_X12_moves (fun _ => True)) := by
  refine cap_of (d := 7) (M := mX12_moves) rfl (Nat.le_of_ble_eq_true rfl) ?_
  show EvP im_K0 7 mX12_moves (0, [(0, .ref 164), (1, .int x1), (2, .int x2)], [], h) _
  have f0 : fr F_X12_moves h h := fr_rf
  refine te_aload_n (p2 := 1) rfl rfl rfl ?_
  refine te_iload_n (p2 := 2) rfl rfl rfl ?_
  refine cV_pI (p2 := 5) (i := 148) rfl rfl rfl rfl hI rfl rfl rfl (t_X12_isPerson (k := x1) hI) (by decide) (fun y1 r1 => ?_)
  obtain ⟨p1, e1, a1, b1, r1⟩ := r1
  rcases r1 with ⟨w1, c1⟩ | ⟨w1, c1⟩
  · subst w1
    refine tz_eq (p2 := 8) rfl rfl (show Int32.toInt 1 = 1 from rfl) (fun c2 => absurd c2 (by omega)) (fun c2 => ?_)
    refine te_iload_n (p2 := 9) rfl rfl rfl ?_
    refine cS_pI (p2 := 12) rfl rfl rfl rfl (t_X12_isCell (n := x2) hI ) (by decide) (fun y3 r3 => ?_)
    rcases r3 with ⟨w3, c3⟩ | ⟨w3, c3⟩
    · subst w3
      refine tz_ne (p2 := 15) rfl rfl (show Int32.toInt 1 = 1 from rfl) (fun c4 => ?_) (fun c4 => absurd c4 (by omega))
      refine te_aload_n (p2 := 18) rfl rfl rfl ?_
      refine tg_r (p2 := 21) (i := 148) (r := 165) rfl rfl hI rfl rfl rfl ?_
      refine te_sipush (p2 := 24) (x := 236) rfl rfl (by decide) ?_
      refine te_iload_n (p2 := 25) rfl rfl rfl ?_
      refine ar_add (p2 := 26) rfl rfl (show Int32.toInt 236 = 236 from rfl) rfl (by omega) (by omega) (fun z5 e5 f5 => ?_)
      refine tl_i (p2 := 27) (i := 149) (n := 283) rfl rfl hI rfl rfl rfl rfl (by omega) (by omega) (fun y6 a6 b6 g6 e6 => ?_)
      refine te_iconst (p2 := 28) (x := 1) rfl rfl (by decide) ?_
      refine tb_ne (p2 := 31) rfl rfl rfl (show Int32.toInt 1 = 1 from rfl) (fun c7 => ?_) (fun c7 => ?_)
      · refine te_aload_n (p2 := 35) rfl rfl rfl ?_
        refine tg_r (p2 := 38) (i := 148) (r := 165) rfl rfl hI rfl rfl rfl ?_
        refine te_sipush (p2 := 41) (x := 140) rfl rfl (by decide) ?_
        refine te_iload_n (p2 := 42) rfl rfl rfl ?_
        refine ar_add (p2 := 43) rfl rfl (show Int32.toInt 140 = 140 from rfl) rfl (by omega) (by omega) (fun z8 e8 f8 => ?_)
        refine tl_i (p2 := 44) (i := 149) (n := 283) rfl rfl hI rfl rfl rfl rfl (by omega) (by omega) (fun y9 a9 b9 g9 e9 => ?_)
        refine te_istore_n (p2 := 45) (lv2 := [(3, .int y9), (0, .ref 164), (1, .int x1), (2, .int x2)]) rfl rfl (by decide) rfl ?_
        refine te_aload_n (p2 := 46) rfl rfl rfl ?_
        refine tg_r (p2 := 49) (i := 148) (r := 165) rfl rfl hI rfl rfl rfl ?_
        refine te_sipush (p2 := 52) (x := 140) rfl rfl (by decide) ?_
        refine te_iload_n (p2 := 53) rfl rfl rfl ?_
        refine ar_add (p2 := 54) rfl rfl (show Int32.toInt 140 = 140 from rfl) rfl (by omega) (by omega) (fun z10 e10 f10 => ?_)
        refine te_iload_n (p2 := 55) rfl rfl rfl ?_
        refine ts_i (p2 := 56) (i := 149) (n := 283) rfl rfl hI rfl rfl rfl rfl (by omega) (by omega) (i32_lo _) (i32_hi _) (i32_ho _) rfl (fun h11 I11 u11 => ?_)
        have f11 := fr_st (F := F_X12_moves) 0 f0 u11 rfl (by omega) (by omega)
        refine te_iload_n (p2 := 57) rfl rfl rfl ?_
        exact te_iret rfl rfl ⟨I11, f11, _, rfl, trivial⟩
      · refine te_bipush (p2 := 33) (x := (-3)) rfl rfl (by decide) ?_
        exact te_iret rfl rfl ⟨hI, f0, _, rfl, trivial⟩
    · subst w3
      refine tz_ne (p2 := 15) rfl rfl (show Int32.toInt 0 = 0 from rfl) (fun c12 => absurd c12 (by omega)) (fun c12 => ?_)
      refine te_iconst (p2 := 16) (x := (-1)) rfl rfl (by decide) ?_
      exact te_iret rfl rfl ⟨hI, f0, _, rfl, trivial⟩
  · subst w1
    refine tz_eq (p2 := 8) rfl rfl (show Int32.toInt 0 = 0 from rfl) (fun c13 => ?_) (fun c13 => absurd c13 (by omega))
    refine te_iconst (p2 := 16) (x := (-1)) rfl rfl (by decide) ?_
    exact te_iret rfl rfl ⟨hI, f0, _, rfl, trivial⟩
abbrev F_X11_wall : List (Nat × Nat × Nat) := [(1, 9, 9), (10, 0, 15), (31, 0, 15), (32, 0, 15), (9, 0, 15)]
set_option maxRecDepth 20000 in
set_option maxHeartbeats 4000000 in
theorem t_X11_wall {x1 : Int32} {x2 : Int32} {x3 : Int32} {h : im_H} (hI : tI h)  : CaP 8 64 [.ref 16, .int x1, .int x2, .int x3] h (mI h F_X11_wall (fun _ => True)) := by
  refine cap_of (d := 7) (M := mX11_wall) rfl (Nat.le_of_ble_eq_true rfl) ?_
  show EvP im_K0 7 mX11_wall (0, [(0, .ref 16), (1, .int x1), (2, .int x2), (3, .int x3)], [], h) _
  have f0 : fr F_X11_wall h h := fr_rf
  refine te_iload_n (p2 := 1) rfl rfl rfl ?_
  refine te_bipush (p2 := 3) (x := 100) rfl rfl (by decide) ?_
  refine cS_pI (p2 := 6) rfl rfl rfl rfl (t_X11_within (n := x1) (b := 100) hI ) (by decide) (fun y1 r1 => ?_)
  rcases r1 with ⟨w1, c1⟩ | ⟨w1, c1⟩
  · subst w1
    have cc1_1 := (show Int32.toInt 100 = 100 from rfl)
    refine tz_ne (p2 := 9) rfl rfl (show Int32.toInt 1 = 1 from rfl) (fun c2 => ?_) (fun c2 => absurd c2 (by omega))
    refine te_iload_n (p2 := 12) rfl rfl rfl ?_
    refine te_iconst (p2 := 13) (x := 4) rfl rfl (by decide) ?_
    refine cS_pI (p2 := 16) rfl rfl rfl rfl (t_X11_within (n := x2) (b := 4) hI ) (by decide) (fun y3 r3 => ?_)
    rcases r3 with ⟨w3, c3⟩ | ⟨w3, c3⟩
    · subst w3
      have cc3_1 := (show Int32.toInt 4 = 4 from rfl)
      refine tz_eq (p2 := 19) rfl rfl (show Int32.toInt 1 = 1 from rfl) (fun c4 => absurd c4 (by omega)) (fun c4 => ?_)
      refine te_iload_n (p2 := 20) rfl rfl rfl ?_
      refine te_iconst (p2 := 21) (x := 1) rfl rfl (by decide) ?_
      refine te_bipush (p2 := 23) (x := 99) rfl rfl (by decide) ?_
      refine cS_pI (p2 := 26) rfl rfl rfl rfl (t_X11_between (n := x3) (a := 1) (b := 99) hI ) (by decide) (fun y5 r5 => ?_)
      rcases r5 with ⟨w5, c5⟩ | ⟨w5, c5⟩
      · subst w5
        have cc5_1 := (show Int32.toInt 1 = 1 from rfl)
        have cc5_2 := (show Int32.toInt 99 = 99 from rfl)
        refine tz_ne (p2 := 29) rfl rfl (show Int32.toInt 1 = 1 from rfl) (fun c6 => ?_) (fun c6 => absurd c6 (by omega))
        refine te_iload_n (p2 := 33) rfl rfl rfl ?_
        refine te_iload_n (p2 := 34) rfl rfl rfl ?_
        refine cS_pI (p2 := 37) rfl rfl rfl rfl (t_X11_cellOnSide (c := x1) (side := x2) hI (by omega) (by omega)) (by decide) (fun y7 r7 => ?_)
        obtain ⟨a7, b7, e7⟩ := r7
        refine te_istore (p2 := 39) (lv2 := [(4, .int y7), (0, .ref 16), (1, .int x1), (2, .int x2), (3, .int x3)]) rfl rfl (by decide) rfl ?_
        refine te_iload (p2 := 41) rfl rfl rfl ?_
        refine te_iconst (p2 := 42) (x := (-1)) rfl rfl (by decide) ?_
        refine tb_ne (p2 := 45) rfl rfl rfl (show Int32.toInt (-1) = (-1) from rfl) (fun c8 => ?_) (fun c8 => ?_)
        · refine te_aload_n (p2 := 49) rfl rfl rfl ?_
          refine tg_r (p2 := 52) (i := 0) (r := 17) rfl rfl hI rfl rfl rfl ?_
          refine tg_i (p2 := 55) (i := 1) rfl rfl hI rfl rfl rfl (fun y9 a9 b9 e9 => ?_)
          refine te_bipush (p2 := 57) (x := 16) rfl rfl (by decide) ?_
          refine tb_lt (p2 := 60) rfl rfl rfl (show Int32.toInt 16 = 16 from rfl) (fun c10 => ?_) (fun c10 => ?_)
          · refine te_aload_n (p2 := 64) rfl rfl rfl ?_
            refine tg_r (p2 := 67) (i := 0) (r := 17) rfl rfl hI rfl rfl rfl ?_
            refine tg_e (p2 := 70) (i := 1) (v := .int y9) rfl rfl hI rfl rfl e9 ?_
            refine te_istore (p2 := 72) (lv2 := [(5, .int y9), (4, .int y7), (0, .ref 16), (1, .int x1), (2, .int x2), (3, .int x3)]) rfl rfl (by decide) rfl ?_
            refine te_aload_n (p2 := 73) rfl rfl rfl ?_
            refine tg_r (p2 := 76) (i := 0) (r := 17) rfl rfl hI rfl rfl rfl ?_
            refine tg_r (p2 := 79) (i := 1) (r := 25) rfl rfl hI rfl rfl rfl ?_
            refine te_iload (p2 := 81) rfl rfl rfl ?_
            refine te_iload_n (p2 := 82) rfl rfl rfl ?_
            refine ts_i (p2 := 83) (i := 9) (n := 16) rfl rfl hI rfl rfl rfl rfl (by omega) (by omega) (by omega) (by omega) (by omega) rfl (fun h11 I11 u11 => ?_)
            have f11 := fr_st (F := F_X11_wall) 4 f0 u11 rfl (by omega) (by omega)
            refine te_aload_n (p2 := 84) rfl rfl rfl ?_
            refine tg_r (p2 := 87) (i := 0) (r := 17) rfl rfl I11 rfl rfl rfl ?_
            refine tg_r (p2 := 90) (i := 1) (r := 26) rfl rfl I11 rfl rfl rfl ?_
            refine te_iload (p2 := 92) rfl rfl rfl ?_
            refine te_iload (p2 := 94) rfl rfl rfl ?_
            refine ts_i (p2 := 95) (i := 10) (n := 16) rfl rfl I11 rfl rfl rfl rfl (by omega) (by omega) (by omega) (by omega) (by omega) rfl (fun h12 I12 u12 => ?_)
            have f12 := fr_st (F := F_X11_wall) 1 f11 u12 rfl (by omega) (by omega)
            refine te_aload_n (p2 := 96) rfl rfl rfl ?_
            refine tg_r (p2 := 99) (i := 0) (r := 39) rfl rfl I12 rfl rfl rfl ?_
            refine tg_r (p2 := 102) (i := 23) (r := 47) rfl rfl I12 rfl rfl rfl ?_
            refine te_iload (p2 := 104) rfl rfl rfl ?_
            refine te_iload_n (p2 := 105) rfl rfl rfl ?_
            refine ts_i (p2 := 106) (i := 31) (n := 16) rfl rfl I12 rfl rfl rfl rfl (by omega) (by omega) (i32_lo _) (i32_hi _) (i32_ho _) rfl (fun h13 I13 u13 => ?_)
            have f13 := fr_st (F := F_X11_wall) 2 f12 u13 rfl (by omega) (by omega)
            refine te_aload_n (p2 := 107) rfl rfl rfl ?_
            refine tg_r (p2 := 110) (i := 0) (r := 39) rfl rfl I13 rfl rfl rfl ?_
            refine tg_r (p2 := 113) (i := 23) (r := 48) rfl rfl I13 rfl rfl rfl ?_
            refine te_iload (p2 := 115) rfl rfl rfl ?_
            refine te_iconst (p2 := 116) (x := 1) rfl rfl (by decide) ?_
            refine ts_b (p2 := 117) (i := 32) (n := 16) rfl rfl I13 rfl rfl rfl rfl (by omega) (by omega) (by decide) (by decide) rfl (fun h14 I14 u14 => ?_)
            have f14 := fr_st (F := F_X11_wall) 3 f13 u14 rfl (by omega) (by omega)
            refine te_aload_n (p2 := 118) rfl rfl rfl ?_
            refine tg_r (p2 := 121) (i := 0) (r := 17) rfl rfl I14 rfl rfl rfl ?_
            refine te_dup (p2 := 122) rfl rfl rfl ?_
            refine tg_e (p2 := 125) (i := 1) (v := .int y9) rfl rfl I14 rfl rfl ((u14.2 _ _ (Or.inl (by decide))).trans ((u13.2 _ _ (Or.inl (by decide))).trans ((u12.2 _ _ (Or.inl (by decide))).trans ((u11.2 _ _ (Or.inl (by decide))).trans e9)))) ?_
            refine te_iconst (p2 := 126) (x := 1) rfl rfl (by decide) ?_
            refine ar_add (p2 := 127) rfl rfl rfl (show Int32.toInt 1 = 1 from rfl) (by omega) (by omega) (fun z15 e15 f15 => ?_)
            refine tp_i (p2 := 130) (i := 1) rfl rfl I14 rfl rfl (by decide) rfl rfl rfl (by omega) (by omega) (by omega) rfl (fun h16 I16 u16 => ?_)
            have f16 := fr_st (F := F_X11_wall) 0 f14 u16 rfl (by decide) (by decide)
            refine te_iload (p2 := 132) rfl rfl rfl ?_
            exact te_iret rfl rfl ⟨I16, f16, _, rfl, trivial⟩
          · refine te_bipush (p2 := 62) (x := (-4)) rfl rfl (by decide) ?_
            exact te_iret rfl rfl ⟨hI, f0, _, rfl, trivial⟩
        · refine te_bipush (p2 := 47) (x := (-3)) rfl rfl (by decide) ?_
          exact te_iret rfl rfl ⟨hI, f0, _, rfl, trivial⟩
      · subst w5
        have cc5_1 := (show Int32.toInt 1 = 1 from rfl)
        have cc5_2 := (show Int32.toInt 99 = 99 from rfl)
        refine tz_ne (p2 := 29) rfl rfl (show Int32.toInt 0 = 0 from rfl) (fun c17 => absurd c17 (by omega)) (fun c17 => ?_)
        refine te_bipush (p2 := 31) (x := (-2)) rfl rfl (by decide) ?_
        exact te_iret rfl rfl ⟨hI, f0, _, rfl, trivial⟩
    · subst w3
      have cc3_1 := (show Int32.toInt 4 = 4 from rfl)
      refine tz_eq (p2 := 19) rfl rfl (show Int32.toInt 0 = 0 from rfl) (fun c18 => ?_) (fun c18 => absurd c18 (by omega))
      refine te_bipush (p2 := 31) (x := (-2)) rfl rfl (by decide) ?_
      exact te_iret rfl rfl ⟨hI, f0, _, rfl, trivial⟩
  · subst w1
    have cc1_1 := (show Int32.toInt 100 = 100 from rfl)
    refine tz_ne (p2 := 9) rfl rfl (show Int32.toInt 0 = 0 from rfl) (fun c19 => absurd c19 (by omega)) (fun c19 => ?_)
    refine te_iconst (p2 := 10) (x := (-1)) rfl rfl (by decide) ?_
    exact te_iret rfl rfl ⟨hI, f0, _, rfl, trivial⟩
abbrev F_X12_wall : List (Nat × Nat × Nat) := [(148, 21, 21), (149, 108, 139), (167, 0, 15), (168, 0, 15)]
set_option maxRecDepth 20000 in
set_option maxHeartbeats 4000000 in
theorem t_X12_wall {x1 : Int32} {x2 : Int32} {x3 : Int32} {h : im_H} (hI : tI h)  : CaP 8 126 [.ref 164, .int x1, .int x2, .int x3] h (mI h F_X12_wall (fun _ => True)) := by
  refine cap_of (d := 7) (M := mX12_wall) rfl (Nat.le_of_ble_eq_true rfl) ?_
  show EvP im_K0 7 mX12_wall (0, [(0, .ref 164), (1, .int x1), (2, .int x2), (3, .int x3)], [], h) _
  have f0 : fr F_X12_wall h h := fr_rf
  refine te_iload_n (p2 := 1) rfl rfl rfl ?_
  refine cS_pI (p2 := 4) rfl rfl rfl rfl (t_X12_isCell (n := x1) hI ) (by decide) (fun y1 r1 => ?_)
  rcases r1 with ⟨w1, c1⟩ | ⟨w1, c1⟩
  · subst w1
    refine tz_ne (p2 := 7) rfl rfl (show Int32.toInt 1 = 1 from rfl) (fun c2 => ?_) (fun c2 => absurd c2 (by omega))
    refine te_iload_n (p2 := 10) rfl rfl rfl ?_
    refine te_iconst (p2 := 11) (x := 0) rfl rfl (by decide) ?_
    refine te_iconst (p2 := 12) (x := 3) rfl rfl (by decide) ?_
    refine cS_pI (p2 := 15) rfl rfl rfl rfl (t_X12_in (n := x2) (a := 0) (b := 3) hI ) (by decide) (fun y3 r3 => ?_)
    rcases r3 with ⟨w3, c3⟩ | ⟨w3, c3⟩
    · subst w3
      have cc3_1 := (show Int32.toInt 0 = 0 from rfl)
      have cc3_2 := (show Int32.toInt 3 = 3 from rfl)
      refine tz_eq (p2 := 18) rfl rfl (show Int32.toInt 1 = 1 from rfl) (fun c4 => absurd c4 (by omega)) (fun c4 => ?_)
      refine te_iload_n (p2 := 19) rfl rfl rfl ?_
      refine te_iconst (p2 := 20) (x := 1) rfl rfl (by decide) ?_
      refine te_bipush (p2 := 22) (x := 99) rfl rfl (by decide) ?_
      refine cS_pI (p2 := 25) rfl rfl rfl rfl (t_X12_in (n := x3) (a := 1) (b := 99) hI ) (by decide) (fun y5 r5 => ?_)
      rcases r5 with ⟨w5, c5⟩ | ⟨w5, c5⟩
      · subst w5
        have cc5_1 := (show Int32.toInt 1 = 1 from rfl)
        have cc5_2 := (show Int32.toInt 99 = 99 from rfl)
        refine tz_ne (p2 := 28) rfl rfl (show Int32.toInt 1 = 1 from rfl) (fun c6 => ?_) (fun c6 => absurd c6 (by omega))
        refine te_iload_n (p2 := 32) rfl rfl rfl ?_
        refine te_iload_n (p2 := 33) rfl rfl rfl ?_
        refine cS_pI (p2 := 36) rfl rfl rfl rfl (t_X12_nextTo (c := x1) (side := x2) hI (by omega) (by omega)) (by decide) (fun y7 r7 => ?_)
        obtain ⟨a7, b7, e7⟩ := r7
        refine te_iconst (p2 := 37) (x := (-1)) rfl rfl (by decide) ?_
        refine tb_ne (p2 := 40) rfl rfl rfl (show Int32.toInt (-1) = (-1) from rfl) (fun c8 => ?_) (fun c8 => ?_)
        · refine te_aload_n (p2 := 44) rfl rfl rfl ?_
          refine tg_i (p2 := 47) (i := 148) rfl rfl hI rfl rfl rfl (fun y9 a9 b9 e9 => ?_)
          refine te_bipush (p2 := 49) (x := 16) rfl rfl (by decide) ?_
          refine tb_ne (p2 := 52) rfl rfl rfl (show Int32.toInt 16 = 16 from rfl) (fun c10 => ?_) (fun c10 => ?_)
          · refine te_aload_n (p2 := 56) rfl rfl rfl ?_
            refine tg_r (p2 := 59) (i := 148) (r := 183) rfl rfl hI rfl rfl rfl ?_
            refine te_aload_n (p2 := 60) rfl rfl rfl ?_
            refine tg_e (p2 := 63) (i := 148) (v := .int y9) rfl rfl hI rfl rfl e9 ?_
            refine te_iload_n (p2 := 64) rfl rfl rfl ?_
            refine ts_i (p2 := 65) (i := 167) (n := 16) rfl rfl hI rfl rfl rfl rfl (by omega) (by omega) (by omega) (by omega) (by omega) rfl (fun h11 I11 u11 => ?_)
            have f11 := fr_st (F := F_X12_wall) 2 f0 u11 rfl (by omega) (by omega)
            refine te_aload_n (p2 := 66) rfl rfl rfl ?_
            refine tg_r (p2 := 69) (i := 148) (r := 184) rfl rfl I11 rfl rfl rfl ?_
            refine te_aload_n (p2 := 70) rfl rfl rfl ?_
            refine tg_e (p2 := 73) (i := 148) (v := .int y9) rfl rfl I11 rfl rfl ((u11.2 _ _ (Or.inl (by decide))).trans e9) ?_
            refine te_iload_n (p2 := 74) rfl rfl rfl ?_
            refine te_iload_n (p2 := 75) rfl rfl rfl ?_
            refine cS_pI (p2 := 78) rfl rfl rfl rfl (t_X12_nextTo (c := x1) (side := x2) I11 (by omega) (by omega)) (by decide) (fun y12 r12 => ?_)
            obtain ⟨a12, b12, e12⟩ := r12
            have w12 : y12 = y7 := e12.trans e7.symm
            subst w12
            refine ts_i (p2 := 79) (i := 168) (n := 16) rfl rfl I11 rfl rfl rfl rfl (by omega) (by omega) (by omega) (by omega) (by omega) rfl (fun h13 I13 u13 => ?_)
            have f13 := fr_st (F := F_X12_wall) 3 f11 u13 rfl (by omega) (by omega)
            refine te_aload_n (p2 := 80) rfl rfl rfl ?_
            refine tg_r (p2 := 83) (i := 148) (r := 165) rfl rfl I13 rfl rfl rfl ?_
            refine te_bipush (p2 := 85) (x := 108) rfl rfl (by decide) ?_
            refine te_aload_n (p2 := 86) rfl rfl rfl ?_
            refine tg_e (p2 := 89) (i := 148) (v := .int y9) rfl rfl I13 rfl rfl ((u13.2 _ _ (Or.inl (by decide))).trans ((u11.2 _ _ (Or.inl (by decide))).trans e9)) ?_
            refine ar_add (p2 := 90) rfl rfl (show Int32.toInt 108 = 108 from rfl) rfl (by omega) (by omega) (fun z14 e14 f14 => ?_)
            refine te_iconst (p2 := 91) (x := 1) rfl rfl (by decide) ?_
            refine ts_i (p2 := 92) (i := 149) (n := 283) rfl rfl I13 rfl rfl rfl rfl (by omega) (by omega) (i32_lo _) (i32_hi _) (i32_ho _) rfl (fun h15 I15 u15 => ?_)
            have f15 := fr_st (F := F_X12_wall) 1 f13 u15 rfl (by omega) (by omega)
            refine te_aload_n (p2 := 93) rfl rfl rfl ?_
            refine tg_r (p2 := 96) (i := 148) (r := 165) rfl rfl I15 rfl rfl rfl ?_
            refine te_bipush (p2 := 98) (x := 124) rfl rfl (by decide) ?_
            refine te_aload_n (p2 := 99) rfl rfl rfl ?_
            refine tg_e (p2 := 102) (i := 148) (v := .int y9) rfl rfl I15 rfl rfl ((u15.2 _ _ (Or.inl (by decide))).trans ((u13.2 _ _ (Or.inl (by decide))).trans ((u11.2 _ _ (Or.inl (by decide))).trans e9))) ?_
            refine ar_add (p2 := 103) rfl rfl (show Int32.toInt 124 = 124 from rfl) rfl (by omega) (by omega) (fun z16 e16 f16 => ?_)
            refine te_iload_n (p2 := 104) rfl rfl rfl ?_
            refine ts_i (p2 := 105) (i := 149) (n := 283) rfl rfl I15 rfl rfl rfl rfl (by omega) (by omega) (i32_lo _) (i32_hi _) (i32_ho _) rfl (fun h17 I17 u17 => ?_)
            have f17 := fr_st (F := F_X12_wall) 1 f15 u17 rfl (by omega) (by omega)
            refine te_aload_n (p2 := 106) rfl rfl rfl ?_
            refine te_dup (p2 := 107) rfl rfl rfl ?_
            refine tg_e (p2 := 110) (i := 148) (v := .int y9) rfl rfl I17 rfl rfl ((u17.2 _ _ (Or.inl (by decide))).trans ((u15.2 _ _ (Or.inl (by decide))).trans ((u13.2 _ _ (Or.inl (by decide))).trans ((u11.2 _ _ (Or.inl (by decide))).trans e9)))) ?_
            refine te_iconst (p2 := 111) (x := 1) rfl rfl (by decide) ?_
            refine ar_add (p2 := 112) rfl rfl rfl (show Int32.toInt 1 = 1 from rfl) (by omega) (by omega) (fun z18 e18 f18 => ?_)
            refine tp_i (p2 := 115) (i := 148) rfl rfl I17 rfl rfl (by decide) rfl rfl rfl (by omega) (by omega) (by omega) rfl (fun h19 I19 u19 => ?_)
            have f19 := fr_st (F := F_X12_wall) 0 f17 u19 rfl (by decide) (by decide)
            refine te_aload_n (p2 := 116) rfl rfl rfl ?_
            refine tg_e (p2 := 119) (i := 148) (v := .int z18) rfl rfl I19 rfl rfl u19.1 ?_
            refine te_iconst (p2 := 120) (x := 1) rfl rfl (by decide) ?_
            refine ar_sub (p2 := 121) rfl rfl rfl (show Int32.toInt 1 = 1 from rfl) (by omega) (by omega) (fun z20 e20 f20 => ?_)
            exact te_iret rfl rfl ⟨I19, f19, _, rfl, trivial⟩
          · refine te_bipush (p2 := 54) (x := (-4)) rfl rfl (by decide) ?_
            exact te_iret rfl rfl ⟨hI, f0, _, rfl, trivial⟩
        · refine te_bipush (p2 := 42) (x := (-3)) rfl rfl (by decide) ?_
          exact te_iret rfl rfl ⟨hI, f0, _, rfl, trivial⟩
      · subst w5
        have cc5_1 := (show Int32.toInt 1 = 1 from rfl)
        have cc5_2 := (show Int32.toInt 99 = 99 from rfl)
        refine tz_ne (p2 := 28) rfl rfl (show Int32.toInt 0 = 0 from rfl) (fun c21 => absurd c21 (by omega)) (fun c21 => ?_)
        refine te_bipush (p2 := 30) (x := (-2)) rfl rfl (by decide) ?_
        exact te_iret rfl rfl ⟨hI, f0, _, rfl, trivial⟩
    · subst w3
      have cc3_1 := (show Int32.toInt 0 = 0 from rfl)
      have cc3_2 := (show Int32.toInt 3 = 3 from rfl)
      refine tz_eq (p2 := 18) rfl rfl (show Int32.toInt 0 = 0 from rfl) (fun c22 => ?_) (fun c22 => absurd c22 (by omega))
      refine te_bipush (p2 := 30) (x := (-2)) rfl rfl (by decide) ?_
      exact te_iret rfl rfl ⟨hI, f0, _, rfl, trivial⟩
  · subst w1
    refine tz_ne (p2 := 7) rfl rfl (show Int32.toInt 0 = 0 from rfl) (fun c23 => absurd c23 (by omega)) (fun c23 => ?_)
    refine te_iconst (p2 := 8) (x := (-1)) rfl rfl (by decide) ?_
    exact te_iret rfl rfl ⟨hI, f0, _, rfl, trivial⟩
abbrev F_X11_weather : List (Nat × Nat × Nat) := [(23, 1, 2)]
set_option maxRecDepth 20000 in
set_option maxHeartbeats 4000000 in
theorem t_X11_weather {x1 : Int32} {x2 : Int32} {h : im_H} (hI : tI h)  : CaP 8 65 [.ref 16, .int x1, .int x2] h (mI h F_X11_weather (fun _ => True)) := by
  refine cap_of (d := 7) (M := mX11_weather) rfl (Nat.le_of_ble_eq_true rfl) ?_
  show EvP im_K0 7 mX11_weather (0, [(0, .ref 16), (1, .int x1), (2, .int x2)], [], h) _
  have f0 : fr F_X11_weather h h := fr_rf
  refine te_iload_n (p2 := 1) rfl rfl rfl ?_
  refine te_bipush (p2 := 3) (x := 10) rfl rfl (by decide) ?_
  refine cS_pI (p2 := 6) rfl rfl rfl rfl (t_X11_within (n := x1) (b := 10) hI ) (by decide) (fun y1 r1 => ?_)
  rcases r1 with ⟨w1, c1⟩ | ⟨w1, c1⟩
  · subst w1
    have cc1_1 := (show Int32.toInt 10 = 10 from rfl)
    refine tz_eq (p2 := 9) rfl rfl (show Int32.toInt 1 = 1 from rfl) (fun c2 => absurd c2 (by omega)) (fun c2 => ?_)
    refine te_iload_n (p2 := 10) rfl rfl rfl ?_
    refine te_bipush (p2 := 12) (x := 10) rfl rfl (by decide) ?_
    refine cS_pI (p2 := 15) rfl rfl rfl rfl (t_X11_within (n := x2) (b := 10) hI ) (by decide) (fun y3 r3 => ?_)
    rcases r3 with ⟨w3, c3⟩ | ⟨w3, c3⟩
    · subst w3
      have cc3_1 := (show Int32.toInt 10 = 10 from rfl)
      refine tz_ne (p2 := 18) rfl rfl (show Int32.toInt 1 = 1 from rfl) (fun c4 => ?_) (fun c4 => absurd c4 (by omega))
      refine te_bipush (p2 := 23) (x := 10) rfl rfl (by decide) ?_
      refine te_aload_n (p2 := 24) rfl rfl rfl ?_
      refine tg_r (p2 := 27) (i := 0) (r := 39) rfl rfl hI rfl rfl rfl ?_
      refine tg_i (p2 := 30) (i := 23) rfl rfl hI rfl rfl rfl (fun y5 a5 b5 e5 => ?_)
      refine au_mul (p2 := 31) rfl rfl (fun z6 e6 => ?_)
      refine te_aload_n (p2 := 32) rfl rfl rfl ?_
      refine tg_r (p2 := 35) (i := 0) (r := 39) rfl rfl hI rfl rfl rfl ?_
      refine tg_i (p2 := 38) (i := 23) rfl rfl hI rfl rfl rfl (fun y7 a7 b7 e7 => ?_)
      refine au_add (p2 := 39) rfl rfl (fun z8 e8 => ?_)
      refine te_istore_n (p2 := 40) (lv2 := [(3, .int z8), (0, .ref 16), (1, .int x1), (2, .int x2)]) rfl rfl (by decide) rfl ?_
      refine te_aload_n (p2 := 41) rfl rfl rfl ?_
      refine tg_r (p2 := 44) (i := 0) (r := 39) rfl rfl hI rfl rfl rfl ?_
      refine te_iload_n (p2 := 45) rfl rfl rfl ?_
      refine tp_i (p2 := 48) (i := 23) rfl rfl hI rfl rfl (by decide) rfl rfl rfl (i32_lo _) (i32_hi _) (i32_ho _) rfl (fun h9 I9 u9 => ?_)
      have f9 := fr_st (F := F_X11_weather) 0 f0 u9 rfl (by decide) (by decide)
      refine te_aload_n (p2 := 49) rfl rfl rfl ?_
      refine tg_r (p2 := 52) (i := 0) (r := 39) rfl rfl I9 rfl rfl rfl ?_
      refine te_iload_n (p2 := 53) rfl rfl rfl ?_
      refine tp_i (p2 := 56) (i := 23) rfl rfl I9 rfl rfl (by decide) rfl rfl rfl (i32_lo _) (i32_hi _) (i32_ho _) rfl (fun h10 I10 u10 => ?_)
      have f10 := fr_st (F := F_X11_weather) 0 f9 u10 rfl (by decide) (by decide)
      refine te_iload_n (p2 := 57) rfl rfl rfl ?_
      exact te_iret rfl rfl ⟨I10, f10, _, rfl, trivial⟩
    · subst w3
      have cc3_1 := (show Int32.toInt 10 = 10 from rfl)
      refine tz_ne (p2 := 18) rfl rfl (show Int32.toInt 0 = 0 from rfl) (fun c11 => absurd c11 (by omega)) (fun c11 => ?_)
      refine te_bipush (p2 := 20) (x := (-2)) rfl rfl (by decide) ?_
      exact te_iret rfl rfl ⟨hI, f0, _, rfl, trivial⟩
  · subst w1
    have cc1_1 := (show Int32.toInt 10 = 10 from rfl)
    refine tz_eq (p2 := 9) rfl rfl (show Int32.toInt 0 = 0 from rfl) (fun c12 => ?_) (fun c12 => absurd c12 (by omega))
    refine te_bipush (p2 := 20) (x := (-2)) rfl rfl (by decide) ?_
    exact te_iret rfl rfl ⟨hI, f0, _, rfl, trivial⟩
abbrev F_X12_weather : List (Nat × Nat × Nat) := [(149, 106, 107)]
set_option maxRecDepth 20000 in
set_option maxHeartbeats 4000000 in
theorem t_X12_weather {x1 : Int32} {x2 : Int32} {h : im_H} (hI : tI h)  : CaP 8 127 [.ref 164, .int x1, .int x2] h (mI h F_X12_weather (fun _ => True)) := by
  refine cap_of (d := 7) (M := mX12_weather) rfl (Nat.le_of_ble_eq_true rfl) ?_
  show EvP im_K0 7 mX12_weather (0, [(0, .ref 164), (1, .int x1), (2, .int x2)], [], h) _
  have f0 : fr F_X12_weather h h := fr_rf
  refine te_iload_n (p2 := 1) rfl rfl rfl ?_
  refine te_iconst (p2 := 2) (x := 0) rfl rfl (by decide) ?_
  refine te_bipush (p2 := 4) (x := 9) rfl rfl (by decide) ?_
  refine cS_pI (p2 := 7) rfl rfl rfl rfl (t_X12_in (n := x1) (a := 0) (b := 9) hI ) (by decide) (fun y1 r1 => ?_)
  rcases r1 with ⟨w1, c1⟩ | ⟨w1, c1⟩
  · subst w1
    have cc1_1 := (show Int32.toInt 0 = 0 from rfl)
    have cc1_2 := (show Int32.toInt 9 = 9 from rfl)
    refine tz_eq (p2 := 10) rfl rfl (show Int32.toInt 1 = 1 from rfl) (fun c2 => absurd c2 (by omega)) (fun c2 => ?_)
    refine te_iload_n (p2 := 11) rfl rfl rfl ?_
    refine te_iconst (p2 := 12) (x := 0) rfl rfl (by decide) ?_
    refine te_bipush (p2 := 14) (x := 9) rfl rfl (by decide) ?_
    refine cS_pI (p2 := 17) rfl rfl rfl rfl (t_X12_in (n := x2) (a := 0) (b := 9) hI ) (by decide) (fun y3 r3 => ?_)
    rcases r3 with ⟨w3, c3⟩ | ⟨w3, c3⟩
    · subst w3
      have cc3_1 := (show Int32.toInt 0 = 0 from rfl)
      have cc3_2 := (show Int32.toInt 9 = 9 from rfl)
      refine tz_ne (p2 := 20) rfl rfl (show Int32.toInt 1 = 1 from rfl) (fun c4 => ?_) (fun c4 => absurd c4 (by omega))
      refine te_bipush (p2 := 25) (x := 10) rfl rfl (by decide) ?_
      refine te_aload_n (p2 := 26) rfl rfl rfl ?_
      refine tg_r (p2 := 29) (i := 148) (r := 165) rfl rfl hI rfl rfl rfl ?_
      refine te_bipush (p2 := 31) (x := 106) rfl rfl (by decide) ?_
      refine tl_i (p2 := 32) (i := 149) (n := 283) rfl rfl hI rfl rfl rfl rfl (by decide) (by decide) (fun y5 a5 b5 g5 e5 => ?_)
      refine au_mul (p2 := 33) rfl rfl (fun z6 e6 => ?_)
      refine te_aload_n (p2 := 34) rfl rfl rfl ?_
      refine tg_r (p2 := 37) (i := 148) (r := 165) rfl rfl hI rfl rfl rfl ?_
      refine te_bipush (p2 := 39) (x := 107) rfl rfl (by decide) ?_
      refine tl_i (p2 := 40) (i := 149) (n := 283) rfl rfl hI rfl rfl rfl rfl (by decide) (by decide) (fun y7 a7 b7 g7 e7 => ?_)
      refine au_add (p2 := 41) rfl rfl (fun z8 e8 => ?_)
      refine te_istore_n (p2 := 42) (lv2 := [(3, .int z8), (0, .ref 164), (1, .int x1), (2, .int x2)]) rfl rfl (by decide) rfl ?_
      refine te_aload_n (p2 := 43) rfl rfl rfl ?_
      refine tg_r (p2 := 46) (i := 148) (r := 165) rfl rfl hI rfl rfl rfl ?_
      refine te_bipush (p2 := 48) (x := 106) rfl rfl (by decide) ?_
      refine te_iload_n (p2 := 49) rfl rfl rfl ?_
      refine ts_i (p2 := 50) (i := 149) (n := 283) rfl rfl hI rfl rfl rfl rfl (by decide) (by decide) (i32_lo _) (i32_hi _) (i32_ho _) rfl (fun h9 I9 u9 => ?_)
      have f9 := fr_st (F := F_X12_weather) 0 f0 u9 rfl (by decide) (by decide)
      refine te_aload_n (p2 := 51) rfl rfl rfl ?_
      refine tg_r (p2 := 54) (i := 148) (r := 165) rfl rfl I9 rfl rfl rfl ?_
      refine te_bipush (p2 := 56) (x := 107) rfl rfl (by decide) ?_
      refine te_iload_n (p2 := 57) rfl rfl rfl ?_
      refine ts_i (p2 := 58) (i := 149) (n := 283) rfl rfl I9 rfl rfl rfl rfl (by decide) (by decide) (i32_lo _) (i32_hi _) (i32_ho _) rfl (fun h10 I10 u10 => ?_)
      have f10 := fr_st (F := F_X12_weather) 0 f9 u10 rfl (by decide) (by decide)
      refine te_iload_n (p2 := 59) rfl rfl rfl ?_
      exact te_iret rfl rfl ⟨I10, f10, _, rfl, trivial⟩
    · subst w3
      have cc3_1 := (show Int32.toInt 0 = 0 from rfl)
      have cc3_2 := (show Int32.toInt 9 = 9 from rfl)
      refine tz_ne (p2 := 20) rfl rfl (show Int32.toInt 0 = 0 from rfl) (fun c11 => absurd c11 (by omega)) (fun c11 => ?_)
      refine te_bipush (p2 := 22) (x := (-2)) rfl rfl (by decide) ?_
      exact te_iret rfl rfl ⟨hI, f0, _, rfl, trivial⟩
  · subst w1
    have cc1_1 := (show Int32.toInt 0 = 0 from rfl)
    have cc1_2 := (show Int32.toInt 9 = 9 from rfl)
    refine tz_eq (p2 := 10) rfl rfl (show Int32.toInt 0 = 0 from rfl) (fun c12 => ?_) (fun c12 => absurd c12 (by omega))
    refine te_bipush (p2 := 22) (x := (-2)) rfl rfl (by decide) ?_
    exact te_iret rfl rfl ⟨hI, f0, _, rfl, trivial⟩
abbrev F_X11_tip : List (Nat × Nat × Nat) := [(1, 1, 1)]
set_option maxRecDepth 20000 in
set_option maxHeartbeats 4000000 in
theorem t_X11_tip {x1 : Int32} {h : im_H} (hI : tI h)  : CaP 8 66 [.ref 16, .int x1] h (mI h F_X11_tip (fun _ => True)) := by
  refine cap_of (d := 7) (M := mX11_tip) rfl (Nat.le_of_ble_eq_true rfl) ?_
  show EvP im_K0 7 mX11_tip (0, [(0, .ref 16), (1, .int x1)], [], h) _
  have f0 : fr F_X11_tip h h := fr_rf
  refine te_iload_n (p2 := 1) rfl rfl rfl ?_
  refine te_iconst (p2 := 2) (x := (-1)) rfl rfl (by decide) ?_
  refine tb_eq (p2 := 5) rfl rfl rfl (show Int32.toInt (-1) = (-1) from rfl) (fun c1 => ?_) (fun c1 => ?_)
  · refine te_aload_n (p2 := 18) rfl rfl rfl ?_
    refine tg_r (p2 := 21) (i := 0) (r := 17) rfl rfl hI rfl rfl rfl ?_
    refine tg_i (p2 := 24) (i := 1) rfl rfl hI rfl rfl rfl (fun y2 a2 b2 e2 => ?_)
    refine te_istore_n (p2 := 25) (lv2 := [(2, .int y2), (0, .ref 16), (1, .int x1)]) rfl rfl (by decide) rfl ?_
    refine te_aload_n (p2 := 26) rfl rfl rfl ?_
    refine tg_r (p2 := 29) (i := 0) (r := 17) rfl rfl hI rfl rfl rfl ?_
    refine te_iload_n (p2 := 30) rfl rfl rfl ?_
    refine tp_i (p2 := 33) (i := 1) rfl rfl hI rfl rfl (by decide) rfl rfl rfl (by omega) (by omega) (by omega) rfl (fun h3 I3 u3 => ?_)
    have f3 := fr_st (F := F_X11_tip) 0 f0 u3 rfl (by decide) (by decide)
    refine te_iload_n (p2 := 34) rfl rfl rfl ?_
    exact te_iret rfl rfl ⟨I3, f3, _, rfl, trivial⟩
  · refine te_iload_n (p2 := 6) rfl rfl rfl ?_
    refine te_bipush (p2 := 8) (x := 100) rfl rfl (by decide) ?_
    refine cS_pI (p2 := 11) rfl rfl rfl rfl (t_X11_within (n := x1) (b := 100) hI ) (by decide) (fun y4 r4 => ?_)
    rcases r4 with ⟨w4, c4⟩ | ⟨w4, c4⟩
    · subst w4
      have cc4_1 := (show Int32.toInt 100 = 100 from rfl)
      refine tz_ne (p2 := 14) rfl rfl (show Int32.toInt 1 = 1 from rfl) (fun c5 => ?_) (fun c5 => absurd c5 (by omega))
      refine te_aload_n (p2 := 18) rfl rfl rfl ?_
      refine tg_r (p2 := 21) (i := 0) (r := 17) rfl rfl hI rfl rfl rfl ?_
      refine tg_i (p2 := 24) (i := 1) rfl rfl hI rfl rfl rfl (fun y6 a6 b6 e6 => ?_)
      refine te_istore_n (p2 := 25) (lv2 := [(2, .int y6), (0, .ref 16), (1, .int x1)]) rfl rfl (by decide) rfl ?_
      refine te_aload_n (p2 := 26) rfl rfl rfl ?_
      refine tg_r (p2 := 29) (i := 0) (r := 17) rfl rfl hI rfl rfl rfl ?_
      refine te_iload_n (p2 := 30) rfl rfl rfl ?_
      refine tp_i (p2 := 33) (i := 1) rfl rfl hI rfl rfl (by decide) rfl rfl rfl (by omega) (by omega) (by omega) rfl (fun h7 I7 u7 => ?_)
      have f7 := fr_st (F := F_X11_tip) 0 f0 u7 rfl (by decide) (by decide)
      refine te_iload_n (p2 := 34) rfl rfl rfl ?_
      exact te_iret rfl rfl ⟨I7, f7, _, rfl, trivial⟩
    · subst w4
      have cc4_1 := (show Int32.toInt 100 = 100 from rfl)
      refine tz_ne (p2 := 14) rfl rfl (show Int32.toInt 0 = 0 from rfl) (fun c8 => absurd c8 (by omega)) (fun c8 => ?_)
      refine te_bipush (p2 := 16) (x := (-5)) rfl rfl (by decide) ?_
      exact te_iret rfl rfl ⟨hI, f0, _, rfl, trivial⟩
abbrev F_X12_tip : List (Nat × Nat × Nat) := [(148, 9, 9)]
set_option maxRecDepth 20000 in
set_option maxHeartbeats 4000000 in
theorem t_X12_tip {x1 : Int32} {h : im_H} (hI : tI h)  : CaP 8 128 [.ref 164, .int x1] h (mI h F_X12_tip (fun _ => True)) := by
  refine cap_of (d := 7) (M := mX12_tip) rfl (Nat.le_of_ble_eq_true rfl) ?_
  show EvP im_K0 7 mX12_tip (0, [(0, .ref 164), (1, .int x1)], [], h) _
  have f0 : fr F_X12_tip h h := fr_rf
  refine te_iload_n (p2 := 1) rfl rfl rfl ?_
  refine te_iconst (p2 := 2) (x := (-1)) rfl rfl (by decide) ?_
  refine te_bipush (p2 := 4) (x := 99) rfl rfl (by decide) ?_
  refine cS_pI (p2 := 7) rfl rfl rfl rfl (t_X12_in (n := x1) (a := (-1)) (b := 99) hI ) (by decide) (fun y1 r1 => ?_)
  rcases r1 with ⟨w1, c1⟩ | ⟨w1, c1⟩
  · subst w1
    have cc1_1 := (show Int32.toInt (-1) = (-1) from rfl)
    have cc1_2 := (show Int32.toInt 99 = 99 from rfl)
    refine tz_ne (p2 := 10) rfl rfl (show Int32.toInt 1 = 1 from rfl) (fun c2 => ?_) (fun c2 => absurd c2 (by omega))
    refine te_aload_n (p2 := 14) rfl rfl rfl ?_
    refine tg_i (p2 := 17) (i := 148) rfl rfl hI rfl rfl rfl (fun y3 a3 b3 e3 => ?_)
    refine te_istore_n (p2 := 18) (lv2 := [(2, .int y3), (0, .ref 164), (1, .int x1)]) rfl rfl (by decide) rfl ?_
    refine te_aload_n (p2 := 19) rfl rfl rfl ?_
    refine te_iload_n (p2 := 20) rfl rfl rfl ?_
    refine tp_i (p2 := 23) (i := 148) rfl rfl hI rfl rfl (by decide) rfl rfl rfl (by omega) (by omega) (by omega) rfl (fun h4 I4 u4 => ?_)
    have f4 := fr_st (F := F_X12_tip) 0 f0 u4 rfl (by decide) (by decide)
    refine te_iload_n (p2 := 24) rfl rfl rfl ?_
    exact te_iret rfl rfl ⟨I4, f4, _, rfl, trivial⟩
  · subst w1
    have cc1_1 := (show Int32.toInt (-1) = (-1) from rfl)
    have cc1_2 := (show Int32.toInt 99 = 99 from rfl)
    refine tz_ne (p2 := 10) rfl rfl (show Int32.toInt 0 = 0 from rfl) (fun c5 => absurd c5 (by omega)) (fun c5 => ?_)
    refine te_bipush (p2 := 12) (x := (-5)) rfl rfl (by decide) ?_
    exact te_iret rfl rfl ⟨hI, f0, _, rfl, trivial⟩
abbrev F_X11_room : List (Nat × Nat × Nat) := [(72, 0, 0), (73, 0, 11), (74, 0, 11), (75, 0, 11), (76, 0, 11)]
set_option maxRecDepth 20000 in
set_option maxHeartbeats 4000000 in
theorem t_X11_room {x1 : Int32} {x2 : Int32} {x3 : Int32} {x4 : Int32} {h : im_H} (hI : tI h)  : CaP 8 71 [.ref 16, .int x1, .int x2, .int x3, .int x4] h (mI h F_X11_room (fun _ => True)) := by
  refine cap_of (d := 7) (M := mX11_room) rfl (Nat.le_of_ble_eq_true rfl) ?_
  show EvP im_K0 7 mX11_room (0, [(0, .ref 16), (1, .int x1), (2, .int x2), (3, .int x3), (4, .int x4)], [], h) _
  have f0 : fr F_X11_room h h := fr_rf
  refine te_iload_n (p2 := 1) rfl rfl rfl ?_
  refine te_bipush (p2 := 3) (x := 100) rfl rfl (by decide) ?_
  refine cS_pI (p2 := 6) rfl rfl rfl rfl (t_X11_within (n := x1) (b := 100) hI ) (by decide) (fun y1 r1 => ?_)
  rcases r1 with ⟨w1, c1⟩ | ⟨w1, c1⟩
  · subst w1
    have cc1_1 := (show Int32.toInt 100 = 100 from rfl)
    refine tz_ne (p2 := 9) rfl rfl (show Int32.toInt 1 = 1 from rfl) (fun c2 => ?_) (fun c2 => absurd c2 (by omega))
    refine te_iload_n (p2 := 12) rfl rfl rfl ?_
    refine te_iconst (p2 := 13) (x := 0) rfl rfl (by decide) ?_
    refine te_sipush (p2 := 16) (x := 9999) rfl rfl (by decide) ?_
    refine cS_pI (p2 := 19) rfl rfl rfl rfl (t_X11_between (n := x2) (a := 0) (b := 9999) hI ) (by decide) (fun y3 r3 => ?_)
    rcases r3 with ⟨w3, c3⟩ | ⟨w3, c3⟩
    · subst w3
      have cc3_1 := (show Int32.toInt 0 = 0 from rfl)
      have cc3_2 := (show Int32.toInt 9999 = 9999 from rfl)
      refine tz_eq (p2 := 22) rfl rfl (show Int32.toInt 1 = 1 from rfl) (fun c4 => absurd c4 (by omega)) (fun c4 => ?_)
      refine te_iload_n (p2 := 23) rfl rfl rfl ?_
      refine te_iconst (p2 := 24) (x := 0) rfl rfl (by decide) ?_
      refine te_sipush (p2 := 27) (x := 999) rfl rfl (by decide) ?_
      refine cS_pI (p2 := 30) rfl rfl rfl rfl (t_X11_between (n := x3) (a := 0) (b := 999) hI ) (by decide) (fun y5 r5 => ?_)
      rcases r5 with ⟨w5, c5⟩ | ⟨w5, c5⟩
      · subst w5
        have cc5_1 := (show Int32.toInt 0 = 0 from rfl)
        have cc5_2 := (show Int32.toInt 999 = 999 from rfl)
        refine tz_eq (p2 := 33) rfl rfl (show Int32.toInt 1 = 1 from rfl) (fun c6 => absurd c6 (by omega)) (fun c6 => ?_)
        refine te_iload (p2 := 35) rfl rfl rfl ?_
        refine te_iconst (p2 := 36) (x := 1) rfl rfl (by decide) ?_
        refine te_bipush (p2 := 38) (x := 99) rfl rfl (by decide) ?_
        refine cS_pI (p2 := 41) rfl rfl rfl rfl (t_X11_between (n := x4) (a := 1) (b := 99) hI ) (by decide) (fun y7 r7 => ?_)
        rcases r7 with ⟨w7, c7⟩ | ⟨w7, c7⟩
        · subst w7
          have cc7_1 := (show Int32.toInt 1 = 1 from rfl)
          have cc7_2 := (show Int32.toInt 99 = 99 from rfl)
          refine tz_ne (p2 := 44) rfl rfl (show Int32.toInt 1 = 1 from rfl) (fun c8 => ?_) (fun c8 => absurd c8 (by omega))
          refine te_aload_n (p2 := 48) rfl rfl rfl ?_
          refine tg_r (p2 := 51) (i := 0) (r := 88) rfl rfl hI rfl rfl rfl ?_
          refine tg_i (p2 := 54) (i := 72) rfl rfl hI rfl rfl rfl (fun y9 a9 b9 e9 => ?_)
          refine te_bipush (p2 := 56) (x := 12) rfl rfl (by decide) ?_
          refine tb_lt (p2 := 59) rfl rfl rfl (show Int32.toInt 12 = 12 from rfl) (fun c10 => ?_) (fun c10 => ?_)
          · refine te_aload_n (p2 := 63) rfl rfl rfl ?_
            refine tg_r (p2 := 66) (i := 0) (r := 88) rfl rfl hI rfl rfl rfl ?_
            refine tg_e (p2 := 69) (i := 72) (v := .int y9) rfl rfl hI rfl rfl e9 ?_
            refine te_istore (p2 := 71) (lv2 := [(5, .int y9), (0, .ref 16), (1, .int x1), (2, .int x2), (3, .int x3), (4, .int x4)]) rfl rfl (by decide) rfl ?_
            refine te_aload_n (p2 := 72) rfl rfl rfl ?_
            refine tg_r (p2 := 75) (i := 0) (r := 88) rfl rfl hI rfl rfl rfl ?_
            refine tg_r (p2 := 78) (i := 72) (r := 89) rfl rfl hI rfl rfl rfl ?_
            refine te_iload (p2 := 80) rfl rfl rfl ?_
            refine te_iload_n (p2 := 81) rfl rfl rfl ?_
            refine ts_i (p2 := 82) (i := 73) (n := 12) rfl rfl hI rfl rfl rfl rfl (by omega) (by omega) (i32_lo _) (i32_hi _) (i32_ho _) rfl (fun h11 I11 u11 => ?_)
            have f11 := fr_st (F := F_X11_room) 1 f0 u11 rfl (by omega) (by omega)
            refine te_aload_n (p2 := 83) rfl rfl rfl ?_
            refine tg_r (p2 := 86) (i := 0) (r := 88) rfl rfl I11 rfl rfl rfl ?_
            refine tg_r (p2 := 89) (i := 72) (r := 90) rfl rfl I11 rfl rfl rfl ?_
            refine te_iload (p2 := 91) rfl rfl rfl ?_
            refine te_iload_n (p2 := 92) rfl rfl rfl ?_
            refine ts_i (p2 := 93) (i := 74) (n := 12) rfl rfl I11 rfl rfl rfl rfl (by omega) (by omega) (i32_lo _) (i32_hi _) (i32_ho _) rfl (fun h12 I12 u12 => ?_)
            have f12 := fr_st (F := F_X11_room) 2 f11 u12 rfl (by omega) (by omega)
            refine te_aload_n (p2 := 94) rfl rfl rfl ?_
            refine tg_r (p2 := 97) (i := 0) (r := 88) rfl rfl I12 rfl rfl rfl ?_
            refine tg_r (p2 := 100) (i := 72) (r := 91) rfl rfl I12 rfl rfl rfl ?_
            refine te_iload (p2 := 102) rfl rfl rfl ?_
            refine te_iload_n (p2 := 103) rfl rfl rfl ?_
            refine ts_i (p2 := 104) (i := 75) (n := 12) rfl rfl I12 rfl rfl rfl rfl (by omega) (by omega) (i32_lo _) (i32_hi _) (i32_ho _) rfl (fun h13 I13 u13 => ?_)
            have f13 := fr_st (F := F_X11_room) 3 f12 u13 rfl (by omega) (by omega)
            refine te_aload_n (p2 := 105) rfl rfl rfl ?_
            refine tg_r (p2 := 108) (i := 0) (r := 88) rfl rfl I13 rfl rfl rfl ?_
            refine tg_r (p2 := 111) (i := 72) (r := 92) rfl rfl I13 rfl rfl rfl ?_
            refine te_iload (p2 := 113) rfl rfl rfl ?_
            refine te_iload (p2 := 115) rfl rfl rfl ?_
            refine ts_i (p2 := 116) (i := 76) (n := 12) rfl rfl I13 rfl rfl rfl rfl (by omega) (by omega) (i32_lo _) (i32_hi _) (i32_ho _) rfl (fun h14 I14 u14 => ?_)
            have f14 := fr_st (F := F_X11_room) 4 f13 u14 rfl (by omega) (by omega)
            refine te_aload_n (p2 := 117) rfl rfl rfl ?_
            refine tg_r (p2 := 120) (i := 0) (r := 88) rfl rfl I14 rfl rfl rfl ?_
            refine te_dup (p2 := 121) rfl rfl rfl ?_
            refine tg_e (p2 := 124) (i := 72) (v := .int y9) rfl rfl I14 rfl rfl ((u14.2 _ _ (Or.inl (by decide))).trans ((u13.2 _ _ (Or.inl (by decide))).trans ((u12.2 _ _ (Or.inl (by decide))).trans ((u11.2 _ _ (Or.inl (by decide))).trans e9)))) ?_
            refine te_iconst (p2 := 125) (x := 1) rfl rfl (by decide) ?_
            refine ar_add (p2 := 126) rfl rfl rfl (show Int32.toInt 1 = 1 from rfl) (by omega) (by omega) (fun z15 e15 f15 => ?_)
            refine tp_i (p2 := 129) (i := 72) rfl rfl I14 rfl rfl (by decide) rfl rfl rfl (by omega) (by omega) (by omega) rfl (fun h16 I16 u16 => ?_)
            have f16 := fr_st (F := F_X11_room) 0 f14 u16 rfl (by decide) (by decide)
            refine te_iload (p2 := 131) rfl rfl rfl ?_
            exact te_iret rfl rfl ⟨I16, f16, _, rfl, trivial⟩
          · refine te_bipush (p2 := 61) (x := (-4)) rfl rfl (by decide) ?_
            exact te_iret rfl rfl ⟨hI, f0, _, rfl, trivial⟩
        · subst w7
          have cc7_1 := (show Int32.toInt 1 = 1 from rfl)
          have cc7_2 := (show Int32.toInt 99 = 99 from rfl)
          refine tz_ne (p2 := 44) rfl rfl (show Int32.toInt 0 = 0 from rfl) (fun c17 => absurd c17 (by omega)) (fun c17 => ?_)
          refine te_bipush (p2 := 46) (x := (-2)) rfl rfl (by decide) ?_
          exact te_iret rfl rfl ⟨hI, f0, _, rfl, trivial⟩
      · subst w5
        have cc5_1 := (show Int32.toInt 0 = 0 from rfl)
        have cc5_2 := (show Int32.toInt 999 = 999 from rfl)
        refine tz_eq (p2 := 33) rfl rfl (show Int32.toInt 0 = 0 from rfl) (fun c18 => ?_) (fun c18 => absurd c18 (by omega))
        refine te_bipush (p2 := 46) (x := (-2)) rfl rfl (by decide) ?_
        exact te_iret rfl rfl ⟨hI, f0, _, rfl, trivial⟩
    · subst w3
      have cc3_1 := (show Int32.toInt 0 = 0 from rfl)
      have cc3_2 := (show Int32.toInt 9999 = 9999 from rfl)
      refine tz_eq (p2 := 22) rfl rfl (show Int32.toInt 0 = 0 from rfl) (fun c19 => ?_) (fun c19 => absurd c19 (by omega))
      refine te_bipush (p2 := 46) (x := (-2)) rfl rfl (by decide) ?_
      exact te_iret rfl rfl ⟨hI, f0, _, rfl, trivial⟩
  · subst w1
    have cc1_1 := (show Int32.toInt 100 = 100 from rfl)
    refine tz_ne (p2 := 9) rfl rfl (show Int32.toInt 0 = 0 from rfl) (fun c20 => absurd c20 (by omega)) (fun c20 => ?_)
    refine te_iconst (p2 := 10) (x := (-1)) rfl rfl (by decide) ?_
    exact te_iret rfl rfl ⟨hI, f0, _, rfl, trivial⟩
abbrev F_X12_room : List (Nat × Nat × Nat) := [(148, 24, 24), (169, 0, 11), (170, 0, 11), (171, 0, 11), (172, 0, 11)]
set_option maxRecDepth 20000 in
set_option maxHeartbeats 4000000 in
theorem t_X12_room {x1 : Int32} {x2 : Int32} {x3 : Int32} {x4 : Int32} {h : im_H} (hI : tI h)  : CaP 8 133 [.ref 164, .int x1, .int x2, .int x3, .int x4] h (mI h F_X12_room (fun _ => True)) := by
  refine cap_of (d := 7) (M := mX12_room) rfl (Nat.le_of_ble_eq_true rfl) ?_
  show EvP im_K0 7 mX12_room (0, [(0, .ref 164), (1, .int x1), (2, .int x2), (3, .int x3), (4, .int x4)], [], h) _
  have f0 : fr F_X12_room h h := fr_rf
  refine te_iload_n (p2 := 1) rfl rfl rfl ?_
  refine cS_pI (p2 := 4) rfl rfl rfl rfl (t_X12_isCell (n := x1) hI ) (by decide) (fun y1 r1 => ?_)
  rcases r1 with ⟨w1, c1⟩ | ⟨w1, c1⟩
  · subst w1
    refine tz_ne (p2 := 7) rfl rfl (show Int32.toInt 1 = 1 from rfl) (fun c2 => ?_) (fun c2 => absurd c2 (by omega))
    refine te_iload_n (p2 := 10) rfl rfl rfl ?_
    refine te_iconst (p2 := 11) (x := 0) rfl rfl (by decide) ?_
    refine te_sipush (p2 := 14) (x := 9999) rfl rfl (by decide) ?_
    refine cS_pI (p2 := 17) rfl rfl rfl rfl (t_X12_in (n := x2) (a := 0) (b := 9999) hI ) (by decide) (fun y3 r3 => ?_)
    rcases r3 with ⟨w3, c3⟩ | ⟨w3, c3⟩
    · subst w3
      have cc3_1 := (show Int32.toInt 0 = 0 from rfl)
      have cc3_2 := (show Int32.toInt 9999 = 9999 from rfl)
      refine tz_eq (p2 := 20) rfl rfl (show Int32.toInt 1 = 1 from rfl) (fun c4 => absurd c4 (by omega)) (fun c4 => ?_)
      refine te_iload_n (p2 := 21) rfl rfl rfl ?_
      refine te_iconst (p2 := 22) (x := 0) rfl rfl (by decide) ?_
      refine te_sipush (p2 := 25) (x := 999) rfl rfl (by decide) ?_
      refine cS_pI (p2 := 28) rfl rfl rfl rfl (t_X12_in (n := x3) (a := 0) (b := 999) hI ) (by decide) (fun y5 r5 => ?_)
      rcases r5 with ⟨w5, c5⟩ | ⟨w5, c5⟩
      · subst w5
        have cc5_1 := (show Int32.toInt 0 = 0 from rfl)
        have cc5_2 := (show Int32.toInt 999 = 999 from rfl)
        refine tz_eq (p2 := 31) rfl rfl (show Int32.toInt 1 = 1 from rfl) (fun c6 => absurd c6 (by omega)) (fun c6 => ?_)
        refine te_iload (p2 := 33) rfl rfl rfl ?_
        refine te_iconst (p2 := 34) (x := 1) rfl rfl (by decide) ?_
        refine te_bipush (p2 := 36) (x := 99) rfl rfl (by decide) ?_
        refine cS_pI (p2 := 39) rfl rfl rfl rfl (t_X12_in (n := x4) (a := 1) (b := 99) hI ) (by decide) (fun y7 r7 => ?_)
        rcases r7 with ⟨w7, c7⟩ | ⟨w7, c7⟩
        · subst w7
          have cc7_1 := (show Int32.toInt 1 = 1 from rfl)
          have cc7_2 := (show Int32.toInt 99 = 99 from rfl)
          refine tz_ne (p2 := 42) rfl rfl (show Int32.toInt 1 = 1 from rfl) (fun c8 => ?_) (fun c8 => absurd c8 (by omega))
          refine te_aload_n (p2 := 46) rfl rfl rfl ?_
          refine tg_i (p2 := 49) (i := 148) rfl rfl hI rfl rfl rfl (fun y9 a9 b9 e9 => ?_)
          refine te_bipush (p2 := 51) (x := 12) rfl rfl (by decide) ?_
          refine tb_ne (p2 := 54) rfl rfl rfl (show Int32.toInt 12 = 12 from rfl) (fun c10 => ?_) (fun c10 => ?_)
          · refine te_aload_n (p2 := 58) rfl rfl rfl ?_
            refine tg_r (p2 := 61) (i := 148) (r := 185) rfl rfl hI rfl rfl rfl ?_
            refine te_aload_n (p2 := 62) rfl rfl rfl ?_
            refine tg_e (p2 := 65) (i := 148) (v := .int y9) rfl rfl hI rfl rfl e9 ?_
            refine te_iload_n (p2 := 66) rfl rfl rfl ?_
            refine ts_i (p2 := 67) (i := 169) (n := 12) rfl rfl hI rfl rfl rfl rfl (by omega) (by omega) (i32_lo _) (i32_hi _) (i32_ho _) rfl (fun h11 I11 u11 => ?_)
            have f11 := fr_st (F := F_X12_room) 1 f0 u11 rfl (by omega) (by omega)
            refine te_aload_n (p2 := 68) rfl rfl rfl ?_
            refine tg_r (p2 := 71) (i := 148) (r := 186) rfl rfl I11 rfl rfl rfl ?_
            refine te_aload_n (p2 := 72) rfl rfl rfl ?_
            refine tg_e (p2 := 75) (i := 148) (v := .int y9) rfl rfl I11 rfl rfl ((u11.2 _ _ (Or.inl (by decide))).trans e9) ?_
            refine te_iload_n (p2 := 76) rfl rfl rfl ?_
            refine ts_i (p2 := 77) (i := 170) (n := 12) rfl rfl I11 rfl rfl rfl rfl (by omega) (by omega) (i32_lo _) (i32_hi _) (i32_ho _) rfl (fun h12 I12 u12 => ?_)
            have f12 := fr_st (F := F_X12_room) 2 f11 u12 rfl (by omega) (by omega)
            refine te_aload_n (p2 := 78) rfl rfl rfl ?_
            refine tg_r (p2 := 81) (i := 148) (r := 187) rfl rfl I12 rfl rfl rfl ?_
            refine te_aload_n (p2 := 82) rfl rfl rfl ?_
            refine tg_e (p2 := 85) (i := 148) (v := .int y9) rfl rfl I12 rfl rfl ((u12.2 _ _ (Or.inl (by decide))).trans ((u11.2 _ _ (Or.inl (by decide))).trans e9)) ?_
            refine te_iload_n (p2 := 86) rfl rfl rfl ?_
            refine ts_i (p2 := 87) (i := 171) (n := 12) rfl rfl I12 rfl rfl rfl rfl (by omega) (by omega) (i32_lo _) (i32_hi _) (i32_ho _) rfl (fun h13 I13 u13 => ?_)
            have f13 := fr_st (F := F_X12_room) 3 f12 u13 rfl (by omega) (by omega)
            refine te_aload_n (p2 := 88) rfl rfl rfl ?_
            refine tg_r (p2 := 91) (i := 148) (r := 188) rfl rfl I13 rfl rfl rfl ?_
            refine te_aload_n (p2 := 92) rfl rfl rfl ?_
            refine tg_e (p2 := 95) (i := 148) (v := .int y9) rfl rfl I13 rfl rfl ((u13.2 _ _ (Or.inl (by decide))).trans ((u12.2 _ _ (Or.inl (by decide))).trans ((u11.2 _ _ (Or.inl (by decide))).trans e9))) ?_
            refine te_iload (p2 := 97) rfl rfl rfl ?_
            refine ts_i (p2 := 98) (i := 172) (n := 12) rfl rfl I13 rfl rfl rfl rfl (by omega) (by omega) (i32_lo _) (i32_hi _) (i32_ho _) rfl (fun h14 I14 u14 => ?_)
            have f14 := fr_st (F := F_X12_room) 4 f13 u14 rfl (by omega) (by omega)
            refine te_aload_n (p2 := 99) rfl rfl rfl ?_
            refine te_dup (p2 := 100) rfl rfl rfl ?_
            refine tg_e (p2 := 103) (i := 148) (v := .int y9) rfl rfl I14 rfl rfl ((u14.2 _ _ (Or.inl (by decide))).trans ((u13.2 _ _ (Or.inl (by decide))).trans ((u12.2 _ _ (Or.inl (by decide))).trans ((u11.2 _ _ (Or.inl (by decide))).trans e9)))) ?_
            refine te_iconst (p2 := 104) (x := 1) rfl rfl (by decide) ?_
            refine ar_add (p2 := 105) rfl rfl rfl (show Int32.toInt 1 = 1 from rfl) (by omega) (by omega) (fun z15 e15 f15 => ?_)
            refine tp_i (p2 := 108) (i := 148) rfl rfl I14 rfl rfl (by decide) rfl rfl rfl (by omega) (by omega) (by omega) rfl (fun h16 I16 u16 => ?_)
            have f16 := fr_st (F := F_X12_room) 0 f14 u16 rfl (by decide) (by decide)
            refine te_aload_n (p2 := 109) rfl rfl rfl ?_
            refine tg_e (p2 := 112) (i := 148) (v := .int z15) rfl rfl I16 rfl rfl u16.1 ?_
            refine te_iconst (p2 := 113) (x := 1) rfl rfl (by decide) ?_
            refine ar_sub (p2 := 114) rfl rfl rfl (show Int32.toInt 1 = 1 from rfl) (by omega) (by omega) (fun z17 e17 f17 => ?_)
            exact te_iret rfl rfl ⟨I16, f16, _, rfl, trivial⟩
          · refine te_bipush (p2 := 56) (x := (-4)) rfl rfl (by decide) ?_
            exact te_iret rfl rfl ⟨hI, f0, _, rfl, trivial⟩
        · subst w7
          have cc7_1 := (show Int32.toInt 1 = 1 from rfl)
          have cc7_2 := (show Int32.toInt 99 = 99 from rfl)
          refine tz_ne (p2 := 42) rfl rfl (show Int32.toInt 0 = 0 from rfl) (fun c18 => absurd c18 (by omega)) (fun c18 => ?_)
          refine te_bipush (p2 := 44) (x := (-2)) rfl rfl (by decide) ?_
          exact te_iret rfl rfl ⟨hI, f0, _, rfl, trivial⟩
      · subst w5
        have cc5_1 := (show Int32.toInt 0 = 0 from rfl)
        have cc5_2 := (show Int32.toInt 999 = 999 from rfl)
        refine tz_eq (p2 := 31) rfl rfl (show Int32.toInt 0 = 0 from rfl) (fun c19 => ?_) (fun c19 => absurd c19 (by omega))
        refine te_bipush (p2 := 44) (x := (-2)) rfl rfl (by decide) ?_
        exact te_iret rfl rfl ⟨hI, f0, _, rfl, trivial⟩
    · subst w3
      have cc3_1 := (show Int32.toInt 0 = 0 from rfl)
      have cc3_2 := (show Int32.toInt 9999 = 9999 from rfl)
      refine tz_eq (p2 := 20) rfl rfl (show Int32.toInt 0 = 0 from rfl) (fun c20 => ?_) (fun c20 => absurd c20 (by omega))
      refine te_bipush (p2 := 44) (x := (-2)) rfl rfl (by decide) ?_
      exact te_iret rfl rfl ⟨hI, f0, _, rfl, trivial⟩
  · subst w1
    refine tz_ne (p2 := 7) rfl rfl (show Int32.toInt 0 = 0 from rfl) (fun c21 => absurd c21 (by omega)) (fun c21 => ?_)
    refine te_iconst (p2 := 8) (x := (-1)) rfl rfl (by decide) ?_
    exact te_iret rfl rfl ⟨hI, f0, _, rfl, trivial⟩
abbrev F_X11_force : List (Nat × Nat × Nat) := [(0, 8, 8), (1, 12, 12)]
set_option maxRecDepth 20000 in
set_option maxHeartbeats 4000000 in
theorem t_X11_force {x1 : Int32} {h : im_H} (hI : tI h)  : CaP 8 74 [.ref 16, .int x1] h (mI h F_X11_force (fun _ => True)) := by
  refine cap_of (d := 7) (M := mX11_force) rfl (Nat.le_of_ble_eq_true rfl) ?_
  show EvP im_K0 7 mX11_force (0, [(0, .ref 16), (1, .int x1)], [], h) _
  have f0 : fr F_X11_force h h := fr_rf
  refine te_iload_n (p2 := 1) rfl rfl rfl ?_
  refine te_iconst (p2 := 2) (x := (-1)) rfl rfl (by decide) ?_
  refine tb_eq (p2 := 5) rfl rfl rfl (show Int32.toInt (-1) = (-1) from rfl) (fun c1 => ?_) (fun c1 => ?_)
  · refine te_aload_n (p2 := 20) rfl rfl rfl ?_
    refine tg_i (p2 := 23) (i := 0) rfl rfl hI rfl rfl rfl (fun y2 a2 b2 e2 => ?_)
    refine te_istore_n (p2 := 24) (lv2 := [(2, .int y2), (0, .ref 16), (1, .int x1)]) rfl rfl (by decide) rfl ?_
    refine te_aload_n (p2 := 25) rfl rfl rfl ?_
    refine te_iload_n (p2 := 26) rfl rfl rfl ?_
    refine tp_i (p2 := 29) (i := 0) rfl rfl hI rfl rfl (by decide) rfl rfl rfl (by omega) (by omega) (by omega) rfl (fun h3 I3 u3 => ?_)
    have f3 := fr_st (F := F_X11_force) 0 f0 u3 rfl (by decide) (by decide)
    refine te_aload_n (p2 := 30) rfl rfl rfl ?_
    refine tg_r (p2 := 33) (i := 0) (r := 17) rfl rfl I3 rfl rfl rfl ?_
    refine te_iload_n (p2 := 34) rfl rfl rfl ?_
    refine te_iconst (p2 := 35) (x := (-1)) rfl rfl (by decide) ?_
    refine tb_ne (p2 := 38) rfl rfl rfl (show Int32.toInt (-1) = (-1) from rfl) (fun c4 => absurd c4 (by omega)) (fun c4 => ?_)
    refine te_null (p2 := 39) rfl rfl ?_
    refine te_goto rfl ?_
    refine tp_0 (p2 := 51) (i := 1) rfl rfl I3 rfl rfl (by decide) rfl rfl rfl rfl (fun h5 I5 u5 => ?_)
    have f5 := fr_st (F := F_X11_force) 1 f3 u5 rfl (by decide) (by decide)
    refine te_iload_n (p2 := 52) rfl rfl rfl ?_
    exact te_iret rfl rfl ⟨I5, f5, _, rfl, trivial⟩
  · refine te_iload_n (p2 := 6) rfl rfl rfl ?_
    refine te_aload_n (p2 := 7) rfl rfl rfl ?_
    refine tg_i (p2 := 10) (i := 0) rfl rfl hI rfl rfl rfl (fun y6 a6 b6 e6 => ?_)
    refine cS_pI (p2 := 13) rfl rfl rfl rfl (t_X11_within (n := x1) (b := y6) hI ) (by decide) (fun y7 r7 => ?_)
    rcases r7 with ⟨w7, c7⟩ | ⟨w7, c7⟩
    · subst w7
      refine tz_ne (p2 := 16) rfl rfl (show Int32.toInt 1 = 1 from rfl) (fun c8 => ?_) (fun c8 => absurd c8 (by omega))
      refine te_aload_n (p2 := 20) rfl rfl rfl ?_
      refine tg_i (p2 := 23) (i := 0) rfl rfl hI rfl rfl rfl (fun y9 a9 b9 e9 => ?_)
      refine te_istore_n (p2 := 24) (lv2 := [(2, .int y9), (0, .ref 16), (1, .int x1)]) rfl rfl (by decide) rfl ?_
      refine te_aload_n (p2 := 25) rfl rfl rfl ?_
      refine te_iload_n (p2 := 26) rfl rfl rfl ?_
      refine tp_i (p2 := 29) (i := 0) rfl rfl hI rfl rfl (by decide) rfl rfl rfl (by omega) (by omega) (by omega) rfl (fun h10 I10 u10 => ?_)
      have f10 := fr_st (F := F_X11_force) 0 f0 u10 rfl (by decide) (by decide)
      refine te_aload_n (p2 := 30) rfl rfl rfl ?_
      refine tg_r (p2 := 33) (i := 0) (r := 17) rfl rfl I10 rfl rfl rfl ?_
      refine te_iload_n (p2 := 34) rfl rfl rfl ?_
      refine te_iconst (p2 := 35) (x := (-1)) rfl rfl (by decide) ?_
      refine tb_ne (p2 := 38) rfl rfl rfl (show Int32.toInt (-1) = (-1) from rfl) (fun c11 => ?_) (fun c11 => absurd c11 (by omega))
      refine te_aload_n (p2 := 43) rfl rfl rfl ?_
      refine tg_r (p2 := 46) (i := 0) (r := 83) rfl rfl I10 rfl rfl rfl ?_
      refine te_iload_n (p2 := 47) rfl rfl rfl ?_
      refine tl_f (p2 := 48) (i := 67) (n := 6) (c0 := 98) (sp := 7) rfl rfl I10 rfl rfl (by decide) rq_67 (by omega) (by omega) (fun o12 w12 => ?_)
      have q12 : o12 = 98 ∨ o12 = 105 ∨ o12 = 112 ∨ o12 = 119 ∨ o12 = 126 ∨ o12 = 133 := by omega
      refine tp_n (p2 := 51) (i := 1) rfl rfl I10 rfl rfl (by decide) rfl rfl rfl (by rcases q12 with rfl | rfl | rfl | rfl | rfl | rfl <;> decide) rfl (fun h13 I13 u13 => ?_)
      have f13 := fr_st (F := F_X11_force) 1 f10 u13 rfl (by decide) (by decide)
      refine te_iload_n (p2 := 52) rfl rfl rfl ?_
      exact te_iret rfl rfl ⟨I13, f13, _, rfl, trivial⟩
    · subst w7
      refine tz_ne (p2 := 16) rfl rfl (show Int32.toInt 0 = 0 from rfl) (fun c14 => absurd c14 (by omega)) (fun c14 => ?_)
      refine te_bipush (p2 := 18) (x := (-5)) rfl rfl (by decide) ?_
      exact te_iret rfl rfl ⟨hI, f0, _, rfl, trivial⟩
abbrev F_X12_force : List (Nat × Nat × Nat) := [(148, 47, 47)]
set_option maxRecDepth 20000 in
set_option maxHeartbeats 4000000 in
theorem t_X12_force {x1 : Int32} {h : im_H} (hI : tI h)  : CaP 8 141 [.ref 164, .int x1] h (mI h F_X12_force (fun _ => True)) := by
  refine cap_of (d := 7) (M := mX12_force) rfl (Nat.le_of_ble_eq_true rfl) ?_
  show EvP im_K0 7 mX12_force (0, [(0, .ref 164), (1, .int x1)], [], h) _
  have f0 : fr F_X12_force h h := fr_rf
  refine te_iload_n (p2 := 1) rfl rfl rfl ?_
  refine te_iconst (p2 := 2) (x := (-1)) rfl rfl (by decide) ?_
  refine te_aload_n (p2 := 3) rfl rfl rfl ?_
  refine tg_i (p2 := 6) (i := 148) rfl rfl hI rfl rfl rfl (fun y1 a1 b1 e1 => ?_)
  refine te_iconst (p2 := 7) (x := 1) rfl rfl (by decide) ?_
  refine ar_sub (p2 := 8) rfl rfl rfl (show Int32.toInt 1 = 1 from rfl) (by omega) (by omega) (fun z2 e2 f2 => ?_)
  refine cS_pI (p2 := 11) rfl rfl rfl rfl (t_X12_in (n := x1) (a := (-1)) (b := z2) hI ) (by decide) (fun y3 r3 => ?_)
  rcases r3 with ⟨w3, c3⟩ | ⟨w3, c3⟩
  · subst w3
    have cc3_1 := (show Int32.toInt (-1) = (-1) from rfl)
    refine tz_ne (p2 := 14) rfl rfl (show Int32.toInt 1 = 1 from rfl) (fun c4 => ?_) (fun c4 => absurd c4 (by omega))
    refine te_aload_n (p2 := 18) rfl rfl rfl ?_
    refine tg_i (p2 := 21) (i := 148) rfl rfl hI rfl rfl rfl (fun y5 a5 b5 e5 => ?_)
    refine te_istore_n (p2 := 22) (lv2 := [(2, .int y5), (0, .ref 164), (1, .int x1)]) rfl rfl (by decide) rfl ?_
    refine te_aload_n (p2 := 23) rfl rfl rfl ?_
    refine te_iload_n (p2 := 24) rfl rfl rfl ?_
    refine tp_i (p2 := 27) (i := 148) rfl rfl hI rfl rfl (by decide) rfl rfl rfl (by omega) (by omega) (by omega) rfl (fun h6 I6 u6 => ?_)
    have f6 := fr_st (F := F_X12_force) 0 f0 u6 rfl (by decide) (by decide)
    refine te_iload_n (p2 := 28) rfl rfl rfl ?_
    exact te_iret rfl rfl ⟨I6, f6, _, rfl, trivial⟩
  · subst w3
    have cc3_1 := (show Int32.toInt (-1) = (-1) from rfl)
    refine tz_ne (p2 := 14) rfl rfl (show Int32.toInt 0 = 0 from rfl) (fun c7 => absurd c7 (by omega)) (fun c7 => ?_)
    refine te_bipush (p2 := 16) (x := (-5)) rfl rfl (by decide) ?_
    exact te_iret rfl rfl ⟨hI, f0, _, rfl, trivial⟩
abbrev F_X11_cellTold : List (Nat × Nat × Nat) := []
set_option maxRecDepth 20000 in
set_option maxHeartbeats 4000000 in
theorem t_X11_cellTold {x1 : Int32} {x2 : Int32} {h : im_H} (hI : tI h)  : CaP 8 77 [.ref 16, .int x1, .int x2] h (mI h F_X11_cellTold (fun _ => True)) := by
  refine cap_of (d := 7) (M := mX11_cellTold) rfl (Nat.le_of_ble_eq_true rfl) ?_
  show EvP im_K0 7 mX11_cellTold (0, [(0, .ref 16), (1, .int x1), (2, .int x2)], [], h) _
  have f0 : fr F_X11_cellTold h h := fr_rf
  refine te_iload_n (p2 := 1) rfl rfl rfl ?_
  refine te_bipush (p2 := 3) (x := 100) rfl rfl (by decide) ?_
  refine cS_pI (p2 := 6) rfl rfl rfl rfl (t_X11_within (n := x1) (b := 100) hI ) (by decide) (fun y1 r1 => ?_)
  rcases r1 with ⟨w1, c1⟩ | ⟨w1, c1⟩
  · subst w1
    have cc1_1 := (show Int32.toInt 100 = 100 from rfl)
    refine tz_ne (p2 := 9) rfl rfl (show Int32.toInt 1 = 1 from rfl) (fun c2 => ?_) (fun c2 => absurd c2 (by omega))
    refine te_iload_n (p2 := 12) rfl rfl rfl ?_
    by_cases c3 : x2.toInt = 0
    · refine te_tsIn (k := 0) (p2 := 40) rfl c3 (by decide) (by decide) rfl (by decide) ?_
      refine te_aload_n (p2 := 41) rfl rfl rfl ?_
      refine tg_r (p2 := 44) (i := 0) (r := 39) rfl rfl hI rfl rfl rfl ?_
      refine tg_r (p2 := 47) (i := 23) (r := 41) rfl rfl hI rfl rfl rfl ?_
      refine te_iload_n (p2 := 48) rfl rfl rfl ?_
      refine tl_i (p2 := 49) (i := 25) (n := 100) rfl rfl hI rfl rfl rfl rfl (by omega) (by omega) (fun y4 a4 b4 g4 e4 => ?_)
      exact te_iret rfl rfl ⟨hI, f0, _, rfl, trivial⟩
    · by_cases c5 : x2.toInt = 1
      · refine te_tsIn (k := 1) (p2 := 50) rfl c5 (by decide) (by decide) rfl (by decide) ?_
        refine te_aload_n (p2 := 51) rfl rfl rfl ?_
        refine tg_r (p2 := 54) (i := 0) (r := 17) rfl rfl hI rfl rfl rfl ?_
        refine tg_r (p2 := 57) (i := 1) (r := 18) rfl rfl hI rfl rfl rfl ?_
        refine te_iload_n (p2 := 58) rfl rfl rfl ?_
        refine tl_i (p2 := 59) (i := 2) (n := 100) rfl rfl hI rfl rfl rfl rfl (by omega) (by omega) (fun y6 a6 b6 g6 e6 => ?_)
        refine te_iconst (p2 := 60) (x := (-1)) rfl rfl (by decide) ?_
        refine tb_ne (p2 := 63) rfl rfl rfl (show Int32.toInt (-1) = (-1) from rfl) (fun c7 => ?_) (fun c7 => ?_)
        · refine te_aload_n (p2 := 69) rfl rfl rfl ?_
          refine tg_r (p2 := 72) (i := 0) (r := 17) rfl rfl hI rfl rfl rfl ?_
          refine tg_r (p2 := 75) (i := 1) (r := 18) rfl rfl hI rfl rfl rfl ?_
          refine te_iload_n (p2 := 76) rfl rfl rfl ?_
          refine tl_e (p2 := 77) (i := 2) (n := 100) (t := 0) (Or.inl rfl) rfl rfl hI rfl rfl (by omega) (by omega) e6 ?_
          exact te_iret rfl rfl ⟨hI, f0, _, rfl, trivial⟩
        · refine te_bipush (p2 := 65) (x := (-5)) rfl rfl (by decide) ?_
          refine te_goto rfl ?_
          exact te_iret rfl rfl ⟨hI, f0, _, rfl, trivial⟩
      · by_cases c9 : x2.toInt = 2
        · refine te_tsIn (k := 2) (p2 := 78) rfl c9 (by decide) (by decide) rfl (by decide) ?_
          refine te_aload_n (p2 := 79) rfl rfl rfl ?_
          refine tg_r (p2 := 82) (i := 0) (r := 17) rfl rfl hI rfl rfl rfl ?_
          refine te_iload_n (p2 := 83) rfl rfl rfl ?_
          refine cV_pI (p2 := 86) (i := 1) rfl rfl rfl rfl hI rfl rfl rfl (t_X0_weakOf (c := x1) hI (by omega) (by omega)) (by decide) (fun y10 r10 => ?_)
          obtain ⟨a10, b10⟩ := r10
          exact te_iret rfl rfl ⟨hI, f0, _, rfl, trivial⟩
        · refine te_tsOut (p2 := 87) rfl (by omega) (by decide) ?_
          refine te_bipush (p2 := 89) (x := (-2)) rfl rfl (by decide) ?_
          exact te_iret rfl rfl ⟨hI, f0, _, rfl, trivial⟩
  · subst w1
    have cc1_1 := (show Int32.toInt 100 = 100 from rfl)
    refine tz_ne (p2 := 9) rfl rfl (show Int32.toInt 0 = 0 from rfl) (fun c11 => absurd c11 (by omega)) (fun c11 => ?_)
    refine te_iconst (p2 := 10) (x := (-1)) rfl rfl (by decide) ?_
    exact te_iret rfl rfl ⟨hI, f0, _, rfl, trivial⟩
abbrev F_X12_cellTold : List (Nat × Nat × Nat) := []
set_option maxRecDepth 20000 in
set_option maxHeartbeats 4000000 in
theorem t_X12_cellTold {x1 : Int32} {x2 : Int32} {h : im_H} (hI : tI h)  : CaP 8 156 [.ref 164, .int x1, .int x2] h (mI h F_X12_cellTold (fun _ => True)) := by
  refine cap_of (d := 7) (M := mX12_cellTold) rfl (Nat.le_of_ble_eq_true rfl) ?_
  show EvP im_K0 7 mX12_cellTold (0, [(0, .ref 164), (1, .int x1), (2, .int x2)], [], h) _
  have f0 : fr F_X12_cellTold h h := fr_rf
  refine te_iload_n (p2 := 1) rfl rfl rfl ?_
  refine cS_pI (p2 := 4) rfl rfl rfl rfl (t_X12_isCell (n := x1) hI ) (by decide) (fun y1 r1 => ?_)
  rcases r1 with ⟨w1, c1⟩ | ⟨w1, c1⟩
  · subst w1
    refine tz_ne (p2 := 7) rfl rfl (show Int32.toInt 1 = 1 from rfl) (fun c2 => ?_) (fun c2 => absurd c2 (by omega))
    refine te_iload_n (p2 := 10) rfl rfl rfl ?_
    refine tz_ne (p2 := 13) rfl rfl rfl (fun c3 => ?_) (fun c3 => ?_)
    · refine te_iload_n (p2 := 23) rfl rfl rfl ?_
      refine te_iconst (p2 := 24) (x := 1) rfl rfl (by decide) ?_
      refine tb_ne (p2 := 27) rfl rfl rfl (show Int32.toInt 1 = 1 from rfl) (fun c4 => ?_) (fun c4 => ?_)
      · refine te_iload_n (p2 := 52) rfl rfl rfl ?_
        refine te_iconst (p2 := 53) (x := 2) rfl rfl (by decide) ?_
        refine tb_ne (p2 := 56) rfl rfl rfl (show Int32.toInt 2 = 2 from rfl) (fun c5 => ?_) (fun c5 => ?_)
        · refine te_bipush (p2 := 66) (x := (-2)) rfl rfl (by decide) ?_
          exact te_iret rfl rfl ⟨hI, f0, _, rfl, trivial⟩
        · refine te_aload_n (p2 := 57) rfl rfl rfl ?_
          refine te_iload_n (p2 := 58) rfl rfl rfl ?_
          refine cV_pI (p2 := 61) (i := 148) rfl rfl rfl rfl hI rfl rfl rfl (t_X12_weakOf (c := x1) hI (by omega) (by omega)) (by decide) (fun y6 r6 => ?_)
          obtain ⟨a6, b6⟩ := r6
          refine te_goto rfl ?_
          exact te_iret rfl rfl ⟨hI, f0, _, rfl, trivial⟩
      · refine te_aload_n (p2 := 28) rfl rfl rfl ?_
        refine tg_r (p2 := 31) (i := 148) (r := 168) rfl rfl hI rfl rfl rfl ?_
        refine te_iload_n (p2 := 32) rfl rfl rfl ?_
        refine tl_i (p2 := 33) (i := 152) (n := 100) rfl rfl hI rfl rfl rfl rfl (by omega) (by omega) (fun y7 a7 b7 g7 e7 => ?_)
        refine te_iconst (p2 := 34) (x := (-1)) rfl rfl (by decide) ?_
        refine tb_ne (p2 := 37) rfl rfl rfl (show Int32.toInt (-1) = (-1) from rfl) (fun c8 => ?_) (fun c8 => ?_)
        · refine te_aload_n (p2 := 43) rfl rfl rfl ?_
          refine tg_r (p2 := 46) (i := 148) (r := 168) rfl rfl hI rfl rfl rfl ?_
          refine te_iload_n (p2 := 47) rfl rfl rfl ?_
          refine tl_e (p2 := 48) (i := 152) (n := 100) (t := 0) (Or.inl rfl) rfl rfl hI rfl rfl (by omega) (by omega) e7 ?_
          refine te_goto rfl ?_
          exact te_iret rfl rfl ⟨hI, f0, _, rfl, trivial⟩
        · refine te_bipush (p2 := 39) (x := (-5)) rfl rfl (by decide) ?_
          refine te_goto rfl ?_
          exact te_iret rfl rfl ⟨hI, f0, _, rfl, trivial⟩
    · refine te_aload_n (p2 := 14) rfl rfl rfl ?_
      refine tg_r (p2 := 17) (i := 148) (r := 165) rfl rfl hI rfl rfl rfl ?_
      refine te_iload_n (p2 := 18) rfl rfl rfl ?_
      refine tl_i (p2 := 19) (i := 149) (n := 283) rfl rfl hI rfl rfl rfl rfl (by omega) (by omega) (fun y10 a10 b10 g10 e10 => ?_)
      refine te_goto rfl ?_
      exact te_iret rfl rfl ⟨hI, f0, _, rfl, trivial⟩
  · subst w1
    refine tz_ne (p2 := 7) rfl rfl (show Int32.toInt 0 = 0 from rfl) (fun c11 => absurd c11 (by omega)) (fun c11 => ?_)
    refine te_iconst (p2 := 8) (x := (-1)) rfl rfl (by decide) ?_
    exact te_iret rfl rfl ⟨hI, f0, _, rfl, trivial⟩
abbrev F_X11_kindTold : List (Nat × Nat × Nat) := []
set_option maxRecDepth 20000 in
set_option maxHeartbeats 4000000 in
theorem t_X11_kindTold {x1 : Int32} {x2 : Int32} {h : im_H} (hI : tI h)  : CaP 8 78 [.ref 16, .int x1, .int x2] h (mI h F_X11_kindTold (fun _ => True)) := by
  refine cap_of (d := 7) (M := mX11_kindTold) rfl (Nat.le_of_ble_eq_true rfl) ?_
  show EvP im_K0 7 mX11_kindTold (0, [(0, .ref 16), (1, .int x1), (2, .int x2)], [], h) _
  have f0 : fr F_X11_kindTold h h := fr_rf
  refine te_iload_n (p2 := 1) rfl rfl rfl ?_
  refine te_bipush (p2 := 3) (x := 6) rfl rfl (by decide) ?_
  refine cS_pI (p2 := 6) rfl rfl rfl rfl (t_X11_within (n := x1) (b := 6) hI ) (by decide) (fun y1 r1 => ?_)
  rcases r1 with ⟨w1, c1⟩ | ⟨w1, c1⟩
  · subst w1
    have cc1_1 := (show Int32.toInt 6 = 6 from rfl)
    refine tz_ne (p2 := 9) rfl rfl (show Int32.toInt 1 = 1 from rfl) (fun c2 => ?_) (fun c2 => absurd c2 (by omega))
    refine te_iload_n (p2 := 13) rfl rfl rfl ?_
    by_cases c3 : x2.toInt = 0
    · refine te_tsIn (k := 0) (p2 := 44) rfl c3 (by decide) (by decide) rfl (by decide) ?_
      refine te_gst (p2 := 47) rfl rfl (by decide) ?_
      refine te_iload_n (p2 := 48) rfl rfl rfl ?_
      refine tl_s (p2 := 49) (R := 0) (l := [20, 35, 20, 70, 10, 5]) (n := 6) (lo := 5) (hi := 70) rfl rfl (by decide) rfl rfl (by decide) (by omega) (by omega) (fun y4 a4 b4 e4 => ?_)
      exact te_iret rfl rfl ⟨hI, f0, _, rfl, trivial⟩
    · by_cases c5 : x2.toInt = 1
      · refine te_tsIn (k := 1) (p2 := 50) rfl c5 (by decide) (by decide) rfl (by decide) ?_
        refine te_gst (p2 := 53) rfl rfl (by decide) ?_
        refine te_iload_n (p2 := 54) rfl rfl rfl ?_
        refine tl_s (p2 := 55) (R := 1) (l := [1, 4, 1, 4, 7, 4]) (n := 6) (lo := 1) (hi := 7) rfl rfl (by decide) rfl rfl (by decide) (by omega) (by omega) (fun y6 a6 b6 e6 => ?_)
        exact te_iret rfl rfl ⟨hI, f0, _, rfl, trivial⟩
      · by_cases c7 : x2.toInt = 2
        · refine te_tsIn (k := 2) (p2 := 56) rfl c7 (by decide) (by decide) rfl (by decide) ?_
          refine te_gst (p2 := 59) rfl rfl (by decide) ?_
          refine te_iload_n (p2 := 60) rfl rfl rfl ?_
          refine tl_s (p2 := 61) (R := 2) (l := [0, 0, 5, 0, 5, 0]) (n := 6) (lo := 0) (hi := 5) rfl rfl (by decide) rfl rfl (by decide) (by omega) (by omega) (fun y8 a8 b8 e8 => ?_)
          exact te_iret rfl rfl ⟨hI, f0, _, rfl, trivial⟩
        · by_cases c9 : x2.toInt = 3
          · refine te_tsIn (k := 3) (p2 := 62) rfl c9 (by decide) (by decide) rfl (by decide) ?_
            refine te_gst (p2 := 65) rfl rfl (by decide) ?_
            refine te_iload_n (p2 := 66) rfl rfl rfl ?_
            refine tl_s (p2 := 67) (R := 3) (l := [3, 3, 2, 7, 2, 6]) (n := 6) (lo := 2) (hi := 7) rfl rfl (by decide) rfl rfl (by decide) (by omega) (by omega) (fun y10 a10 b10 e10 => ?_)
            exact te_iret rfl rfl ⟨hI, f0, _, rfl, trivial⟩
          · refine te_tsOut (p2 := 68) rfl (by omega) (by decide) ?_
            refine te_bipush (p2 := 70) (x := (-2)) rfl rfl (by decide) ?_
            exact te_iret rfl rfl ⟨hI, f0, _, rfl, trivial⟩
  · subst w1
    have cc1_1 := (show Int32.toInt 6 = 6 from rfl)
    refine tz_ne (p2 := 9) rfl rfl (show Int32.toInt 0 = 0 from rfl) (fun c11 => absurd c11 (by omega)) (fun c11 => ?_)
    refine te_bipush (p2 := 11) (x := (-2)) rfl rfl (by decide) ?_
    exact te_iret rfl rfl ⟨hI, f0, _, rfl, trivial⟩
abbrev F_X12_kindTold : List (Nat × Nat × Nat) := []
set_option maxRecDepth 20000 in
set_option maxHeartbeats 4000000 in
theorem t_X12_kindTold {x1 : Int32} {x2 : Int32} {h : im_H} (hI : tI h)  : CaP 8 157 [.ref 164, .int x1, .int x2] h (mI h F_X12_kindTold (fun _ => True)) := by
  refine cap_of (d := 7) (M := mX12_kindTold) rfl (Nat.le_of_ble_eq_true rfl) ?_
  show EvP im_K0 7 mX12_kindTold (0, [(0, .ref 164), (1, .int x1), (2, .int x2)], [], h) _
  have f0 : fr F_X12_kindTold h h := fr_rf
  refine te_iload_n (p2 := 1) rfl rfl rfl ?_
  refine te_iconst (p2 := 2) (x := 0) rfl rfl (by decide) ?_
  refine te_iconst (p2 := 3) (x := 5) rfl rfl (by decide) ?_
  refine cS_pI (p2 := 6) rfl rfl rfl rfl (t_X12_in (n := x1) (a := 0) (b := 5) hI ) (by decide) (fun y1 r1 => ?_)
  rcases r1 with ⟨w1, c1⟩ | ⟨w1, c1⟩
  · subst w1
    have cc1_1 := (show Int32.toInt 0 = 0 from rfl)
    have cc1_2 := (show Int32.toInt 5 = 5 from rfl)
    refine tz_eq (p2 := 9) rfl rfl (show Int32.toInt 1 = 1 from rfl) (fun c2 => absurd c2 (by omega)) (fun c2 => ?_)
    refine te_iload_n (p2 := 10) rfl rfl rfl ?_
    refine te_iconst (p2 := 11) (x := 0) rfl rfl (by decide) ?_
    refine te_iconst (p2 := 12) (x := 3) rfl rfl (by decide) ?_
    refine cS_pI (p2 := 15) rfl rfl rfl rfl (t_X12_in (n := x2) (a := 0) (b := 3) hI ) (by decide) (fun y3 r3 => ?_)
    rcases r3 with ⟨w3, c3⟩ | ⟨w3, c3⟩
    · subst w3
      have cc3_1 := (show Int32.toInt 0 = 0 from rfl)
      have cc3_2 := (show Int32.toInt 3 = 3 from rfl)
      refine tz_ne (p2 := 18) rfl rfl (show Int32.toInt 1 = 1 from rfl) (fun c4 => ?_) (fun c4 => absurd c4 (by omega))
      refine te_iload_n (p2 := 22) rfl rfl rfl ?_
      refine tz_ne (p2 := 25) rfl rfl rfl (fun c5 => ?_) (fun c5 => ?_)
      · refine te_iload_n (p2 := 35) rfl rfl rfl ?_
        refine te_iconst (p2 := 36) (x := 1) rfl rfl (by decide) ?_
        refine tb_ne (p2 := 39) rfl rfl rfl (show Int32.toInt 1 = 1 from rfl) (fun c6 => ?_) (fun c6 => ?_)
        · refine te_iload_n (p2 := 49) rfl rfl rfl ?_
          refine te_iconst (p2 := 50) (x := 2) rfl rfl (by decide) ?_
          refine tb_ne (p2 := 53) rfl rfl rfl (show Int32.toInt 2 = 2 from rfl) (fun c7 => ?_) (fun c7 => ?_)
          · refine te_aload_n (p2 := 63) rfl rfl rfl ?_
            refine tg_r (p2 := 66) (i := 148) (r := 172) rfl rfl hI rfl rfl rfl ?_
            refine te_iload_n (p2 := 67) rfl rfl rfl ?_
            refine tl_i (p2 := 68) (i := 156) (n := 6) rfl rfl hI rfl rfl rfl rfl (by omega) (by omega) (fun y8 a8 b8 g8 e8 => ?_)
            exact te_iret rfl rfl ⟨hI, f0, _, rfl, trivial⟩
          · refine te_aload_n (p2 := 54) rfl rfl rfl ?_
            refine tg_r (p2 := 57) (i := 148) (r := 171) rfl rfl hI rfl rfl rfl ?_
            refine te_iload_n (p2 := 58) rfl rfl rfl ?_
            refine tl_i (p2 := 59) (i := 155) (n := 6) rfl rfl hI rfl rfl rfl rfl (by omega) (by omega) (fun y9 a9 b9 g9 e9 => ?_)
            refine te_goto rfl ?_
            exact te_iret rfl rfl ⟨hI, f0, _, rfl, trivial⟩
        · refine te_aload_n (p2 := 40) rfl rfl rfl ?_
          refine tg_r (p2 := 43) (i := 148) (r := 170) rfl rfl hI rfl rfl rfl ?_
          refine te_iload_n (p2 := 44) rfl rfl rfl ?_
          refine tl_i (p2 := 45) (i := 154) (n := 6) rfl rfl hI rfl rfl rfl rfl (by omega) (by omega) (fun y10 a10 b10 g10 e10 => ?_)
          refine te_goto rfl ?_
          exact te_iret rfl rfl ⟨hI, f0, _, rfl, trivial⟩
      · refine te_aload_n (p2 := 26) rfl rfl rfl ?_
        refine tg_r (p2 := 29) (i := 148) (r := 169) rfl rfl hI rfl rfl rfl ?_
        refine te_iload_n (p2 := 30) rfl rfl rfl ?_
        refine tl_i (p2 := 31) (i := 153) (n := 6) rfl rfl hI rfl rfl rfl rfl (by omega) (by omega) (fun y11 a11 b11 g11 e11 => ?_)
        refine te_goto rfl ?_
        exact te_iret rfl rfl ⟨hI, f0, _, rfl, trivial⟩
    · subst w3
      have cc3_1 := (show Int32.toInt 0 = 0 from rfl)
      have cc3_2 := (show Int32.toInt 3 = 3 from rfl)
      refine tz_ne (p2 := 18) rfl rfl (show Int32.toInt 0 = 0 from rfl) (fun c12 => absurd c12 (by omega)) (fun c12 => ?_)
      refine te_bipush (p2 := 20) (x := (-2)) rfl rfl (by decide) ?_
      exact te_iret rfl rfl ⟨hI, f0, _, rfl, trivial⟩
  · subst w1
    have cc1_1 := (show Int32.toInt 0 = 0 from rfl)
    have cc1_2 := (show Int32.toInt 5 = 5 from rfl)
    refine tz_eq (p2 := 9) rfl rfl (show Int32.toInt 0 = 0 from rfl) (fun c13 => ?_) (fun c13 => absurd c13 (by omega))
    refine te_bipush (p2 := 20) (x := (-2)) rfl rfl (by decide) ?_
    exact te_iret rfl rfl ⟨hI, f0, _, rfl, trivial⟩
abbrev F_X11_rowTold : List (Nat × Nat × Nat) := []
set_option maxRecDepth 20000 in
set_option maxHeartbeats 4000000 in
theorem t_X11_rowTold {x1 : Int32} {x2 : Int32} {h : im_H} (hI : tI h)  : CaP 8 80 [.ref 16, .int x1, .int x2] h (mI h F_X11_rowTold (fun _ => True)) := by
  refine cap_of (d := 7) (M := mX11_rowTold) rfl (Nat.le_of_ble_eq_true rfl) ?_
  show EvP im_K0 7 mX11_rowTold (0, [(0, .ref 16), (1, .int x1), (2, .int x2)], [], h) _
  have f0 : fr F_X11_rowTold h h := fr_rf
  refine te_iload_n (p2 := 1) rfl rfl rfl ?_
  refine te_iconst (p2 := 2) (x := 4) rfl rfl (by decide) ?_
  refine cS_pI (p2 := 5) rfl rfl rfl rfl (t_X11_within (n := x1) (b := 4) hI ) (by decide) (fun y1 r1 => ?_)
  rcases r1 with ⟨w1, c1⟩ | ⟨w1, c1⟩
  · subst w1
    have cc1_1 := (show Int32.toInt 4 = 4 from rfl)
    refine tz_ne (p2 := 8) rfl rfl (show Int32.toInt 1 = 1 from rfl) (fun c2 => ?_) (fun c2 => absurd c2 (by omega))
    refine te_iload_n (p2 := 12) rfl rfl rfl ?_
    by_cases c3 : x2.toInt = 0
    · refine te_tsIn (k := 0) (p2 := 40) rfl c3 (by decide) (by decide) rfl (by decide) ?_
      refine te_aload_n (p2 := 41) rfl rfl rfl ?_
      refine tg_r (p2 := 44) (i := 0) (r := 17) rfl rfl hI rfl rfl rfl ?_
      refine tg_r (p2 := 47) (i := 1) (r := 23) rfl rfl hI rfl rfl rfl ?_
      refine te_iload_n (p2 := 48) rfl rfl rfl ?_
      refine tl_f (p2 := 49) (i := 7) (n := 4) (c0 := 12) (sp := 2) rfl rfl hI rfl rfl (by decide) rq_7 (by omega) (by omega) (fun o4 w4 => ?_)
      have q4 : o4 = 12 ∨ o4 = 14 ∨ o4 = 16 ∨ o4 = 18 := by omega
      refine tg_i (p2 := 52) (i := o4) rfl rfl hI rfl (by rcases q4 with rfl | rfl | rfl | rfl <;> rfl) (by rcases q4 with rfl | rfl | rfl | rfl <;> rfl) (fun y5 a5 b5 e5 => ?_)
      exact te_iret rfl rfl ⟨hI, f0, _, rfl, trivial⟩
    · by_cases c6 : x2.toInt = 1
      · refine te_tsIn (k := 1) (p2 := 53) rfl c6 (by decide) (by decide) rfl (by decide) ?_
        refine te_aload_n (p2 := 54) rfl rfl rfl ?_
        refine tg_r (p2 := 57) (i := 0) (r := 39) rfl rfl hI rfl rfl rfl ?_
        refine tg_r (p2 := 60) (i := 23) (r := 50) rfl rfl hI rfl rfl rfl ?_
        refine te_iload_n (p2 := 61) rfl rfl rfl ?_
        refine tl_i (p2 := 62) (i := 34) (n := 4) rfl rfl hI rfl rfl rfl rfl (by omega) (by omega) (fun y7 a7 b7 g7 e7 => ?_)
        exact te_iret rfl rfl ⟨hI, f0, _, rfl, trivial⟩
      · by_cases c8 : x2.toInt = 2
        · refine te_tsIn (k := 2) (p2 := 63) rfl c8 (by decide) (by decide) rfl (by decide) ?_
          refine te_aload_n (p2 := 64) rfl rfl rfl ?_
          refine tg_r (p2 := 67) (i := 0) (r := 17) rfl rfl hI rfl rfl rfl ?_
          refine tg_r (p2 := 70) (i := 1) (r := 23) rfl rfl hI rfl rfl rfl ?_
          refine te_iload_n (p2 := 71) rfl rfl rfl ?_
          refine tl_f (p2 := 72) (i := 7) (n := 4) (c0 := 12) (sp := 2) rfl rfl hI rfl rfl (by decide) rq_7 (by omega) (by omega) (fun o9 w9 => ?_)
          have q9 : o9 = 12 ∨ o9 = 14 ∨ o9 = 16 ∨ o9 = 18 := by omega
          refine tg_i (p2 := 75) (i := o9) rfl rfl hI rfl (by rcases q9 with rfl | rfl | rfl | rfl <;> rfl) (by rcases q9 with rfl | rfl | rfl | rfl <;> rfl) (fun y10 a10 b10 e10 => ?_)
          refine tz_ne (p2 := 78) rfl rfl rfl (fun c11 => ?_) (fun c11 => ?_)
          · refine te_aload_n (p2 := 83) rfl rfl rfl ?_
            refine tg_r (p2 := 86) (i := 0) (r := 39) rfl rfl hI rfl rfl rfl ?_
            refine tg_r (p2 := 89) (i := 23) (r := 51) rfl rfl hI rfl rfl rfl ?_
            refine te_iload_n (p2 := 90) rfl rfl rfl ?_
            refine tl_i (p2 := 91) (i := 35) (n := 4) rfl rfl hI rfl rfl rfl rfl (by omega) (by omega) (fun y12 a12 b12 g12 e12 => ?_)
            exact te_iret rfl rfl ⟨hI, f0, _, rfl, trivial⟩
          · refine te_iconst (p2 := 79) (x := (-1)) rfl rfl (by decide) ?_
            refine te_goto rfl ?_
            exact te_iret rfl rfl ⟨hI, f0, _, rfl, trivial⟩
        · refine te_tsOut (p2 := 92) rfl (by omega) (by decide) ?_
          refine te_bipush (p2 := 94) (x := (-2)) rfl rfl (by decide) ?_
          exact te_iret rfl rfl ⟨hI, f0, _, rfl, trivial⟩
  · subst w1
    have cc1_1 := (show Int32.toInt 4 = 4 from rfl)
    refine tz_ne (p2 := 8) rfl rfl (show Int32.toInt 0 = 0 from rfl) (fun c13 => absurd c13 (by omega)) (fun c13 => ?_)
    refine te_bipush (p2 := 10) (x := (-5)) rfl rfl (by decide) ?_
    exact te_iret rfl rfl ⟨hI, f0, _, rfl, trivial⟩
abbrev F_X12_rowTold : List (Nat × Nat × Nat) := []
set_option maxRecDepth 20000 in
set_option maxHeartbeats 4000000 in
theorem t_X12_rowTold {x1 : Int32} {x2 : Int32} {h : im_H} (hI : tI h)  : CaP 8 159 [.ref 164, .int x1, .int x2] h (mI h F_X12_rowTold (fun _ => True)) := by
  refine cap_of (d := 7) (M := mX12_rowTold) rfl (Nat.le_of_ble_eq_true rfl) ?_
  show EvP im_K0 7 mX12_rowTold (0, [(0, .ref 164), (1, .int x1), (2, .int x2)], [], h) _
  have f0 : fr F_X12_rowTold h h := fr_rf
  refine te_iload_n (p2 := 1) rfl rfl rfl ?_
  refine te_iconst (p2 := 2) (x := 0) rfl rfl (by decide) ?_
  refine te_iconst (p2 := 3) (x := 3) rfl rfl (by decide) ?_
  refine cS_pI (p2 := 6) rfl rfl rfl rfl (t_X12_in (n := x1) (a := 0) (b := 3) hI ) (by decide) (fun y1 r1 => ?_)
  rcases r1 with ⟨w1, c1⟩ | ⟨w1, c1⟩
  · subst w1
    have cc1_1 := (show Int32.toInt 0 = 0 from rfl)
    have cc1_2 := (show Int32.toInt 3 = 3 from rfl)
    refine tz_ne (p2 := 9) rfl rfl (show Int32.toInt 1 = 1 from rfl) (fun c2 => ?_) (fun c2 => absurd c2 (by omega))
    refine te_iload_n (p2 := 13) rfl rfl rfl ?_
    refine tz_ne (p2 := 16) rfl rfl rfl (fun c3 => ?_) (fun c3 => ?_)
    · refine te_iload_n (p2 := 26) rfl rfl rfl ?_
      refine te_iconst (p2 := 27) (x := 1) rfl rfl (by decide) ?_
      refine tb_ne (p2 := 30) rfl rfl rfl (show Int32.toInt 1 = 1 from rfl) (fun c4 => ?_) (fun c4 => ?_)
      · refine te_iload_n (p2 := 44) rfl rfl rfl ?_
        refine te_iconst (p2 := 45) (x := 2) rfl rfl (by decide) ?_
        refine tb_ne (p2 := 48) rfl rfl rfl (show Int32.toInt 2 = 2 from rfl) (fun c5 => ?_) (fun c5 => ?_)
        · refine te_bipush (p2 := 76) (x := (-2)) rfl rfl (by decide) ?_
          exact te_iret rfl rfl ⟨hI, f0, _, rfl, trivial⟩
        · refine te_aload_n (p2 := 49) rfl rfl rfl ?_
          refine tg_r (p2 := 52) (i := 148) (r := 177) rfl rfl hI rfl rfl rfl ?_
          refine te_iload_n (p2 := 53) rfl rfl rfl ?_
          refine tl_i (p2 := 54) (i := 161) (n := 4) rfl rfl hI rfl rfl rfl rfl (by omega) (by omega) (fun y6 a6 b6 g6 e6 => ?_)
          refine tz_ne (p2 := 57) rfl rfl rfl (fun c7 => ?_) (fun c7 => ?_)
          · refine te_aload_n (p2 := 62) rfl rfl rfl ?_
            refine tg_r (p2 := 65) (i := 148) (r := 165) rfl rfl hI rfl rfl rfl ?_
            refine te_sipush (p2 := 68) (x := 276) rfl rfl (by decide) ?_
            refine te_iload_n (p2 := 69) rfl rfl rfl ?_
            refine ar_add (p2 := 70) rfl rfl (show Int32.toInt 276 = 276 from rfl) rfl (by omega) (by omega) (fun z8 e8 f8 => ?_)
            refine tl_i (p2 := 71) (i := 149) (n := 283) rfl rfl hI rfl rfl rfl rfl (by omega) (by omega) (fun y9 a9 b9 g9 e9 => ?_)
            refine te_goto rfl ?_
            exact te_iret rfl rfl ⟨hI, f0, _, rfl, trivial⟩
          · refine te_iconst (p2 := 58) (x := (-1)) rfl rfl (by decide) ?_
            refine te_goto rfl ?_
            exact te_iret rfl rfl ⟨hI, f0, _, rfl, trivial⟩
      · refine te_aload_n (p2 := 31) rfl rfl rfl ?_
        refine tg_r (p2 := 34) (i := 148) (r := 165) rfl rfl hI rfl rfl rfl ?_
        refine te_sipush (p2 := 37) (x := 272) rfl rfl (by decide) ?_
        refine te_iload_n (p2 := 38) rfl rfl rfl ?_
        refine ar_add (p2 := 39) rfl rfl (show Int32.toInt 272 = 272 from rfl) rfl (by omega) (by omega) (fun z10 e10 f10 => ?_)
        refine tl_i (p2 := 40) (i := 149) (n := 283) rfl rfl hI rfl rfl rfl rfl (by omega) (by omega) (fun y11 a11 b11 g11 e11 => ?_)
        refine te_goto rfl ?_
        exact te_iret rfl rfl ⟨hI, f0, _, rfl, trivial⟩
    · refine te_aload_n (p2 := 17) rfl rfl rfl ?_
      refine tg_r (p2 := 20) (i := 148) (r := 177) rfl rfl hI rfl rfl rfl ?_
      refine te_iload_n (p2 := 21) rfl rfl rfl ?_
      refine tl_i (p2 := 22) (i := 161) (n := 4) rfl rfl hI rfl rfl rfl rfl (by omega) (by omega) (fun y12 a12 b12 g12 e12 => ?_)
      refine te_goto rfl ?_
      exact te_iret rfl rfl ⟨hI, f0, _, rfl, trivial⟩
  · subst w1
    have cc1_1 := (show Int32.toInt 0 = 0 from rfl)
    have cc1_2 := (show Int32.toInt 3 = 3 from rfl)
    refine tz_ne (p2 := 9) rfl rfl (show Int32.toInt 0 = 0 from rfl) (fun c13 => absurd c13 (by omega)) (fun c13 => ?_)
    refine te_bipush (p2 := 11) (x := (-5)) rfl rfl (by decide) ?_
    exact te_iret rfl rfl ⟨hI, f0, _, rfl, trivial⟩
abbrev F_X11_railTold : List (Nat × Nat × Nat) := []
set_option maxRecDepth 20000 in
set_option maxHeartbeats 4000000 in
theorem t_X11_railTold {x1 : Int32} {x2 : Int32} {h : im_H} (hI : tI h)  : CaP 8 81 [.ref 16, .int x1, .int x2] h (mI h F_X11_railTold (fun _ => True)) := by
  refine cap_of (d := 7) (M := mX11_railTold) rfl (Nat.le_of_ble_eq_true rfl) ?_
  show EvP im_K0 7 mX11_railTold (0, [(0, .ref 16), (1, .int x1), (2, .int x2)], [], h) _
  have f0 : fr F_X11_railTold h h := fr_rf
  refine te_iload_n (p2 := 1) rfl rfl rfl ?_
  refine te_iconst (p2 := 2) (x := 3) rfl rfl (by decide) ?_
  refine cS_pI (p2 := 5) rfl rfl rfl rfl (t_X11_within (n := x1) (b := 3) hI ) (by decide) (fun y1 r1 => ?_)
  rcases r1 with ⟨w1, c1⟩ | ⟨w1, c1⟩
  · subst w1
    have cc1_1 := (show Int32.toInt 3 = 3 from rfl)
    refine tz_ne (p2 := 8) rfl rfl (show Int32.toInt 1 = 1 from rfl) (fun c2 => ?_) (fun c2 => absurd c2 (by omega))
    refine te_iload_n (p2 := 11) rfl rfl rfl ?_
    by_cases c3 : x2.toInt = 0
    · refine te_ls (p2 := 36) (off := 25) rfl (by decide) (by rw [c3]; decide) (by decide) ?_
      refine te_aload_n (p2 := 37) rfl rfl rfl ?_
      refine tg_r (p2 := 40) (i := 0) (r := 17) rfl rfl hI rfl rfl rfl ?_
      refine tg_r (p2 := 43) (i := 1) (r := 24) rfl rfl hI rfl rfl rfl ?_
      refine te_iload_n (p2 := 44) rfl rfl rfl ?_
      refine tl_f (p2 := 45) (i := 8) (n := 3) (c0 := 20) (sp := 1) rfl rfl hI rfl rfl (by decide) rq_8 (by omega) (by omega) (fun o4 w4 => ?_)
      have q4 : o4 = 20 ∨ o4 = 21 ∨ o4 = 22 := by omega
      refine tg_i (p2 := 48) (i := o4) rfl rfl hI rfl (by rcases q4 with rfl | rfl | rfl <;> rfl) (by rcases q4 with rfl | rfl | rfl <;> rfl) (fun y5 a5 b5 e5 => ?_)
      exact te_iret rfl rfl ⟨hI, f0, _, rfl, trivial⟩
    · by_cases c6 : x2.toInt = 1
      · refine te_ls (p2 := 49) (off := 38) rfl (by decide) (by rw [c6]; decide) (by decide) ?_
        refine te_aload_n (p2 := 50) rfl rfl rfl ?_
        refine tg_r (p2 := 53) (i := 0) (r := 39) rfl rfl hI rfl rfl rfl ?_
        refine tg_r (p2 := 56) (i := 23) (r := 52) rfl rfl hI rfl rfl rfl ?_
        refine te_iload_n (p2 := 57) rfl rfl rfl ?_
        refine tl_i (p2 := 58) (i := 36) (n := 3) rfl rfl hI rfl rfl rfl rfl (by omega) (by omega) (fun y7 a7 b7 g7 e7 => ?_)
        exact te_iret rfl rfl ⟨hI, f0, _, rfl, trivial⟩
      · refine te_ls (p2 := 59) (off := 48) rfl (by decide) (ls_ne (by omega) (ls_ne (by omega) (ls_nil))) (by decide) ?_
        refine te_bipush (p2 := 61) (x := (-2)) rfl rfl (by decide) ?_
        exact te_iret rfl rfl ⟨hI, f0, _, rfl, trivial⟩
  · subst w1
    have cc1_1 := (show Int32.toInt 3 = 3 from rfl)
    refine tz_ne (p2 := 8) rfl rfl (show Int32.toInt 0 = 0 from rfl) (fun c8 => absurd c8 (by omega)) (fun c8 => ?_)
    refine te_iconst (p2 := 9) (x := (-1)) rfl rfl (by decide) ?_
    exact te_iret rfl rfl ⟨hI, f0, _, rfl, trivial⟩
abbrev F_X12_railTold : List (Nat × Nat × Nat) := []
set_option maxRecDepth 20000 in
set_option maxHeartbeats 4000000 in
theorem t_X12_railTold {x1 : Int32} {x2 : Int32} {h : im_H} (hI : tI h)  : CaP 8 160 [.ref 164, .int x1, .int x2] h (mI h F_X12_railTold (fun _ => True)) := by
  refine cap_of (d := 7) (M := mX12_railTold) rfl (Nat.le_of_ble_eq_true rfl) ?_
  show EvP im_K0 7 mX12_railTold (0, [(0, .ref 164), (1, .int x1), (2, .int x2)], [], h) _
  have f0 : fr F_X12_railTold h h := fr_rf
  refine te_iload_n (p2 := 1) rfl rfl rfl ?_
  refine te_iconst (p2 := 2) (x := 0) rfl rfl (by decide) ?_
  refine te_iconst (p2 := 3) (x := 2) rfl rfl (by decide) ?_
  refine cS_pI (p2 := 6) rfl rfl rfl rfl (t_X12_in (n := x1) (a := 0) (b := 2) hI ) (by decide) (fun y1 r1 => ?_)
  rcases r1 with ⟨w1, c1⟩ | ⟨w1, c1⟩
  · subst w1
    have cc1_1 := (show Int32.toInt 0 = 0 from rfl)
    have cc1_2 := (show Int32.toInt 2 = 2 from rfl)
    refine tz_ne (p2 := 9) rfl rfl (show Int32.toInt 1 = 1 from rfl) (fun c2 => ?_) (fun c2 => absurd c2 (by omega))
    refine te_iload_n (p2 := 12) rfl rfl rfl ?_
    refine tz_ne (p2 := 15) rfl rfl rfl (fun c3 => ?_) (fun c3 => ?_)
    · refine te_iload_n (p2 := 25) rfl rfl rfl ?_
      refine te_iconst (p2 := 26) (x := 1) rfl rfl (by decide) ?_
      refine tb_ne (p2 := 29) rfl rfl rfl (show Int32.toInt 1 = 1 from rfl) (fun c4 => ?_) (fun c4 => ?_)
      · refine te_bipush (p2 := 44) (x := (-2)) rfl rfl (by decide) ?_
        exact te_iret rfl rfl ⟨hI, f0, _, rfl, trivial⟩
      · refine te_aload_n (p2 := 30) rfl rfl rfl ?_
        refine tg_r (p2 := 33) (i := 148) (r := 165) rfl rfl hI rfl rfl rfl ?_
        refine te_sipush (p2 := 36) (x := 280) rfl rfl (by decide) ?_
        refine te_iload_n (p2 := 37) rfl rfl rfl ?_
        refine ar_add (p2 := 38) rfl rfl (show Int32.toInt 280 = 280 from rfl) rfl (by omega) (by omega) (fun z5 e5 f5 => ?_)
        refine tl_i (p2 := 39) (i := 149) (n := 283) rfl rfl hI rfl rfl rfl rfl (by omega) (by omega) (fun y6 a6 b6 g6 e6 => ?_)
        refine te_goto rfl ?_
        exact te_iret rfl rfl ⟨hI, f0, _, rfl, trivial⟩
    · refine te_aload_n (p2 := 16) rfl rfl rfl ?_
      refine tg_r (p2 := 19) (i := 148) (r := 181) rfl rfl hI rfl rfl rfl ?_
      refine te_iload_n (p2 := 20) rfl rfl rfl ?_
      refine tl_i (p2 := 21) (i := 165) (n := 3) rfl rfl hI rfl rfl rfl rfl (by omega) (by omega) (fun y7 a7 b7 g7 e7 => ?_)
      refine te_goto rfl ?_
      exact te_iret rfl rfl ⟨hI, f0, _, rfl, trivial⟩
  · subst w1
    have cc1_1 := (show Int32.toInt 0 = 0 from rfl)
    have cc1_2 := (show Int32.toInt 2 = 2 from rfl)
    refine tz_ne (p2 := 9) rfl rfl (show Int32.toInt 0 = 0 from rfl) (fun c8 => absurd c8 (by omega)) (fun c8 => ?_)
    refine te_iconst (p2 := 10) (x := (-1)) rfl rfl (by decide) ?_
    exact te_iret rfl rfl ⟨hI, f0, _, rfl, trivial⟩
abbrev F_X11_wallTold : List (Nat × Nat × Nat) := []
set_option maxRecDepth 20000 in
set_option maxHeartbeats 4000000 in
theorem t_X11_wallTold {x1 : Int32} {x2 : Int32} {h : im_H} (hI : tI h)  : CaP 8 82 [.ref 16, .int x1, .int x2] h (mI h F_X11_wallTold (fun _ => True)) := by
  refine cap_of (d := 7) (M := mX11_wallTold) rfl (Nat.le_of_ble_eq_true rfl) ?_
  show EvP im_K0 7 mX11_wallTold (0, [(0, .ref 16), (1, .int x1), (2, .int x2)], [], h) _
  have f0 : fr F_X11_wallTold h h := fr_rf
  refine te_iload_n (p2 := 1) rfl rfl rfl ?_
  refine te_aload_n (p2 := 2) rfl rfl rfl ?_
  refine tg_r (p2 := 5) (i := 0) (r := 17) rfl rfl hI rfl rfl rfl ?_
  refine tg_i (p2 := 8) (i := 1) rfl rfl hI rfl rfl rfl (fun y1 a1 b1 e1 => ?_)
  refine cS_pI (p2 := 11) rfl rfl rfl rfl (t_X11_within (n := x1) (b := y1) hI ) (by decide) (fun y2 r2 => ?_)
  rcases r2 with ⟨w2, c2⟩ | ⟨w2, c2⟩
  · subst w2
    refine tz_ne (p2 := 14) rfl rfl (show Int32.toInt 1 = 1 from rfl) (fun c3 => ?_) (fun c3 => absurd c3 (by omega))
    refine te_iload_n (p2 := 17) rfl rfl rfl ?_
    by_cases c4 : x2.toInt = 0
    · refine te_tsIn (k := 0) (p2 := 44) rfl c4 (by decide) (by decide) rfl (by decide) ?_
      refine te_aload_n (p2 := 45) rfl rfl rfl ?_
      refine tg_r (p2 := 48) (i := 0) (r := 39) rfl rfl hI rfl rfl rfl ?_
      refine tg_r (p2 := 51) (i := 23) (r := 48) rfl rfl hI rfl rfl rfl ?_
      refine te_iload_n (p2 := 52) rfl rfl rfl ?_
      refine tl_b (p2 := 53) (i := 32) (n := 16) rfl rfl hI rfl rfl rfl rfl (by omega) (by omega) (fun y5 a5 e5 => ?_)
      refine tz_eq (p2 := 56) rfl rfl rfl (fun c6 => ?_) (fun c6 => ?_)
      · refine te_iconst (p2 := 61) (x := 0) rfl rfl (by decide) ?_
        exact te_iret rfl rfl ⟨hI, f0, _, rfl, trivial⟩
      · refine te_iconst (p2 := 57) (x := 1) rfl rfl (by decide) ?_
        refine te_goto rfl ?_
        exact te_iret rfl rfl ⟨hI, f0, _, rfl, trivial⟩
    · by_cases c7 : x2.toInt = 1
      · refine te_tsIn (k := 1) (p2 := 62) rfl c7 (by decide) (by decide) rfl (by decide) ?_
        refine te_aload_n (p2 := 63) rfl rfl rfl ?_
        refine tg_r (p2 := 66) (i := 0) (r := 39) rfl rfl hI rfl rfl rfl ?_
        refine tg_r (p2 := 69) (i := 23) (r := 47) rfl rfl hI rfl rfl rfl ?_
        refine te_iload_n (p2 := 70) rfl rfl rfl ?_
        refine tl_i (p2 := 71) (i := 31) (n := 16) rfl rfl hI rfl rfl rfl rfl (by omega) (by omega) (fun y8 a8 b8 g8 e8 => ?_)
        exact te_iret rfl rfl ⟨hI, f0, _, rfl, trivial⟩
      · by_cases c9 : x2.toInt = 2
        · refine te_tsIn (k := 2) (p2 := 72) rfl c9 (by decide) (by decide) rfl (by decide) ?_
          refine te_aload_n (p2 := 73) rfl rfl rfl ?_
          refine tg_r (p2 := 76) (i := 0) (r := 17) rfl rfl hI rfl rfl rfl ?_
          refine tg_r (p2 := 79) (i := 1) (r := 26) rfl rfl hI rfl rfl rfl ?_
          refine te_iload_n (p2 := 80) rfl rfl rfl ?_
          refine tl_i (p2 := 81) (i := 10) (n := 16) rfl rfl hI rfl rfl rfl rfl (by omega) (by omega) (fun y10 a10 b10 g10 e10 => ?_)
          exact te_iret rfl rfl ⟨hI, f0, _, rfl, trivial⟩
        · refine te_tsOut (p2 := 82) rfl (by omega) (by decide) ?_
          refine te_bipush (p2 := 84) (x := (-2)) rfl rfl (by decide) ?_
          exact te_iret rfl rfl ⟨hI, f0, _, rfl, trivial⟩
  · subst w2
    refine tz_ne (p2 := 14) rfl rfl (show Int32.toInt 0 = 0 from rfl) (fun c11 => absurd c11 (by omega)) (fun c11 => ?_)
    refine te_iconst (p2 := 15) (x := (-1)) rfl rfl (by decide) ?_
    exact te_iret rfl rfl ⟨hI, f0, _, rfl, trivial⟩
abbrev F_X12_wallTold : List (Nat × Nat × Nat) := []
set_option maxRecDepth 20000 in
set_option maxHeartbeats 4000000 in
theorem t_X12_wallTold {x1 : Int32} {x2 : Int32} {h : im_H} (hI : tI h)  : CaP 8 162 [.ref 164, .int x1, .int x2] h (mI h F_X12_wallTold (fun _ => True)) := by
  refine cap_of (d := 7) (M := mX12_wallTold) rfl (Nat.le_of_ble_eq_true rfl) ?_
  show EvP im_K0 7 mX12_wallTold (0, [(0, .ref 164), (1, .int x1), (2, .int x2)], [], h) _
  have f0 : fr F_X12_wallTold h h := fr_rf
  refine te_aload_n (p2 := 1) rfl rfl rfl ?_
  refine te_iload_n (p2 := 2) rfl rfl rfl ?_
  refine cV_pI (p2 := 5) (i := 148) rfl rfl rfl rfl hI rfl rfl rfl (t_X12_isWall (k := x1) hI) (by decide) (fun y1 r1 => ?_)
  obtain ⟨p1, e1, a1, b1, r1⟩ := r1
  rcases r1 with ⟨w1, c1⟩ | ⟨w1, c1⟩
  · subst w1
    refine tz_ne (p2 := 8) rfl rfl (show Int32.toInt 1 = 1 from rfl) (fun c2 => ?_) (fun c2 => absurd c2 (by omega))
    refine te_iload_n (p2 := 11) rfl rfl rfl ?_
    refine tz_ne (p2 := 14) rfl rfl rfl (fun c3 => ?_) (fun c3 => ?_)
    · refine te_iload_n (p2 := 27) rfl rfl rfl ?_
      refine te_iconst (p2 := 28) (x := 1) rfl rfl (by decide) ?_
      refine tb_ne (p2 := 31) rfl rfl rfl (show Int32.toInt 1 = 1 from rfl) (fun c4 => ?_) (fun c4 => ?_)
      · refine te_iload_n (p2 := 44) rfl rfl rfl ?_
        refine te_iconst (p2 := 45) (x := 2) rfl rfl (by decide) ?_
        refine tb_ne (p2 := 48) rfl rfl rfl (show Int32.toInt 2 = 2 from rfl) (fun c5 => ?_) (fun c5 => ?_)
        · refine te_bipush (p2 := 59) (x := (-2)) rfl rfl (by decide) ?_
          exact te_iret rfl rfl ⟨hI, f0, _, rfl, trivial⟩
        · refine te_aload_n (p2 := 49) rfl rfl rfl ?_
          refine tg_r (p2 := 52) (i := 148) (r := 184) rfl rfl hI rfl rfl rfl ?_
          refine te_iload_n (p2 := 53) rfl rfl rfl ?_
          refine tl_i (p2 := 54) (i := 168) (n := 16) rfl rfl hI rfl rfl rfl rfl (by omega) (by omega) (fun y6 a6 b6 g6 e6 => ?_)
          refine te_goto rfl ?_
          exact te_iret rfl rfl ⟨hI, f0, _, rfl, trivial⟩
      · refine te_aload_n (p2 := 32) rfl rfl rfl ?_
        refine tg_r (p2 := 35) (i := 148) (r := 165) rfl rfl hI rfl rfl rfl ?_
        refine te_bipush (p2 := 37) (x := 124) rfl rfl (by decide) ?_
        refine te_iload_n (p2 := 38) rfl rfl rfl ?_
        refine ar_add (p2 := 39) rfl rfl (show Int32.toInt 124 = 124 from rfl) rfl (by omega) (by omega) (fun z7 e7 f7 => ?_)
        refine tl_i (p2 := 40) (i := 149) (n := 283) rfl rfl hI rfl rfl rfl rfl (by omega) (by omega) (fun y8 a8 b8 g8 e8 => ?_)
        refine te_goto rfl ?_
        exact te_iret rfl rfl ⟨hI, f0, _, rfl, trivial⟩
    · refine te_aload_n (p2 := 15) rfl rfl rfl ?_
      refine tg_r (p2 := 18) (i := 148) (r := 165) rfl rfl hI rfl rfl rfl ?_
      refine te_bipush (p2 := 20) (x := 108) rfl rfl (by decide) ?_
      refine te_iload_n (p2 := 21) rfl rfl rfl ?_
      refine ar_add (p2 := 22) rfl rfl (show Int32.toInt 108 = 108 from rfl) rfl (by omega) (by omega) (fun z9 e9 f9 => ?_)
      refine tl_i (p2 := 23) (i := 149) (n := 283) rfl rfl hI rfl rfl rfl rfl (by omega) (by omega) (fun y10 a10 b10 g10 e10 => ?_)
      refine te_goto rfl ?_
      exact te_iret rfl rfl ⟨hI, f0, _, rfl, trivial⟩
  · subst w1
    refine tz_ne (p2 := 8) rfl rfl (show Int32.toInt 0 = 0 from rfl) (fun c11 => absurd c11 (by omega)) (fun c11 => ?_)
    refine te_iconst (p2 := 9) (x := (-1)) rfl rfl (by decide) ?_
    exact te_iret rfl rfl ⟨hI, f0, _, rfl, trivial⟩
abbrev F_X11_pullTold : List (Nat × Nat × Nat) := []
set_option maxRecDepth 20000 in
set_option maxHeartbeats 4000000 in
theorem t_X11_pullTold {x1 : Int32} {h : im_H} (hI : tI h)  : CaP 8 87 [.ref 16, .int x1] h (mI h F_X11_pullTold (fun _ => True)) := by
  refine cap_of (d := 7) (M := mX11_pullTold) rfl (Nat.le_of_ble_eq_true rfl) ?_
  show EvP im_K0 7 mX11_pullTold (0, [(0, .ref 16), (1, .int x1)], [], h) _
  have f0 : fr F_X11_pullTold h h := fr_rf
  refine te_iload_n (p2 := 1) rfl rfl rfl ?_
  refine te_aload_n (p2 := 2) rfl rfl rfl ?_
  refine tg_r (p2 := 5) (i := 0) (r := 84) rfl rfl hI rfl rfl rfl ?_
  refine tg_i (p2 := 8) (i := 68) rfl rfl hI rfl rfl rfl (fun y1 a1 b1 e1 => ?_)
  refine cS_pI (p2 := 11) rfl rfl rfl rfl (t_X11_within (n := x1) (b := y1) hI ) (by decide) (fun y2 r2 => ?_)
  rcases r2 with ⟨w2, c2⟩ | ⟨w2, c2⟩
  · subst w2
    refine tz_eq (p2 := 14) rfl rfl (show Int32.toInt 1 = 1 from rfl) (fun c3 => absurd c3 (by omega)) (fun c3 => ?_)
    refine te_aload_n (p2 := 15) rfl rfl rfl ?_
    refine tg_r (p2 := 18) (i := 0) (r := 84) rfl rfl hI rfl rfl rfl ?_
    refine tg_r (p2 := 21) (i := 68) (r := 85) rfl rfl hI rfl rfl rfl ?_
    refine te_iload_n (p2 := 22) rfl rfl rfl ?_
    refine tl_i (p2 := 23) (i := 69) (n := 6) rfl rfl hI rfl rfl rfl rfl (by omega) (by omega) (fun y4 a4 b4 g4 e4 => ?_)
    refine te_goto rfl ?_
    exact te_iret rfl rfl ⟨hI, f0, _, rfl, trivial⟩
  · subst w2
    refine tz_eq (p2 := 14) rfl rfl (show Int32.toInt 0 = 0 from rfl) (fun c5 => ?_) (fun c5 => absurd c5 (by omega))
    refine te_iconst (p2 := 27) (x := (-1)) rfl rfl (by decide) ?_
    exact te_iret rfl rfl ⟨hI, f0, _, rfl, trivial⟩
abbrev F_X12_pullTold : List (Nat × Nat × Nat) := []
set_option maxRecDepth 20000 in
set_option maxHeartbeats 4000000 in
theorem t_X12_pullTold {x1 : Int32} {h : im_H} (hI : tI h)  : CaP 8 169 [.ref 164, .int x1] h (mI h F_X12_pullTold (fun _ => True)) := by
  refine cap_of (d := 7) (M := mX12_pullTold) rfl (Nat.le_of_ble_eq_true rfl) ?_
  show EvP im_K0 7 mX12_pullTold (0, [(0, .ref 164), (1, .int x1)], [], h) _
  have f0 : fr F_X12_pullTold h h := fr_rf
  refine te_iload_n (p2 := 1) rfl rfl rfl ?_
  refine te_iconst (p2 := 2) (x := 0) rfl rfl (by decide) ?_
  refine te_aload_n (p2 := 3) rfl rfl rfl ?_
  refine tg_i (p2 := 6) (i := 148) rfl rfl hI rfl rfl rfl (fun y1 a1 b1 e1 => ?_)
  refine te_iconst (p2 := 7) (x := 1) rfl rfl (by decide) ?_
  refine ar_sub (p2 := 8) rfl rfl rfl (show Int32.toInt 1 = 1 from rfl) (by omega) (by omega) (fun z2 e2 f2 => ?_)
  refine cS_pI (p2 := 11) rfl rfl rfl rfl (t_X12_in (n := x1) (a := 0) (b := z2) hI ) (by decide) (fun y3 r3 => ?_)
  rcases r3 with ⟨w3, c3⟩ | ⟨w3, c3⟩
  · subst w3
    have cc3_1 := (show Int32.toInt 0 = 0 from rfl)
    refine tz_eq (p2 := 14) rfl rfl (show Int32.toInt 1 = 1 from rfl) (fun c4 => absurd c4 (by omega)) (fun c4 => ?_)
    refine te_aload_n (p2 := 15) rfl rfl rfl ?_
    refine tg_r (p2 := 18) (i := 148) (r := 199) rfl rfl hI rfl rfl rfl ?_
    refine te_iload_n (p2 := 19) rfl rfl rfl ?_
    refine tl_i (p2 := 20) (i := 183) (n := 6) rfl rfl hI rfl rfl rfl rfl (by omega) (by omega) (fun y5 a5 b5 g5 e5 => ?_)
    refine te_goto rfl ?_
    exact te_iret rfl rfl ⟨hI, f0, _, rfl, trivial⟩
  · subst w3
    have cc3_1 := (show Int32.toInt 0 = 0 from rfl)
    refine tz_eq (p2 := 14) rfl rfl (show Int32.toInt 0 = 0 from rfl) (fun c6 => ?_) (fun c6 => absurd c6 (by omega))
    refine te_iconst (p2 := 24) (x := (-1)) rfl rfl (by decide) ?_
    exact te_iret rfl rfl ⟨hI, f0, _, rfl, trivial⟩
abbrev F_X11_mendTold : List (Nat × Nat × Nat) := []
set_option maxRecDepth 20000 in
set_option maxHeartbeats 4000000 in
theorem t_X11_mendTold  {h : im_H} (hI : tI h)  : CaP 8 89 [.ref 16] h (mI h F_X11_mendTold (fun _ => True)) := by
  refine cap_of (d := 7) (M := mX11_mendTold) rfl (Nat.le_of_ble_eq_true rfl) ?_
  show EvP im_K0 7 mX11_mendTold (0, [(0, .ref 16)], [], h) _
  have f0 : fr F_X11_mendTold h h := fr_rf
  refine te_aload_n (p2 := 1) rfl rfl rfl ?_
  refine tg_r (p2 := 4) (i := 0) (r := 88) rfl rfl hI rfl rfl rfl ?_
  refine tg_i (p2 := 7) (i := 72) rfl rfl hI rfl rfl rfl (fun y1 a1 b1 e1 => ?_)
  exact te_iret rfl rfl ⟨hI, f0, _, rfl, trivial⟩
abbrev F_X12_mendTold : List (Nat × Nat × Nat) := []
set_option maxRecDepth 20000 in
set_option maxHeartbeats 4000000 in
theorem t_X12_mendTold  {h : im_H} (hI : tI h)  : CaP 8 171 [.ref 164] h (mI h F_X12_mendTold (fun _ => True)) := by
  refine cap_of (d := 7) (M := mX12_mendTold) rfl (Nat.le_of_ble_eq_true rfl) ?_
  show EvP im_K0 7 mX12_mendTold (0, [(0, .ref 164)], [], h) _
  have f0 : fr F_X12_mendTold h h := fr_rf
  refine te_aload_n (p2 := 1) rfl rfl rfl ?_
  refine tg_i (p2 := 4) (i := 148) rfl rfl hI rfl rfl rfl (fun y1 a1 b1 e1 => ?_)
  exact te_iret rfl rfl ⟨hI, f0, _, rfl, trivial⟩
abbrev F_X11_mend : List (Nat × Nat × Nat) := [(24, 0, 1), (33, 0, 11)]
set_option maxRecDepth 20000 in
set_option maxHeartbeats 4000000 in
theorem t_X11_mend {x1 : Int32} {h : im_H} (hI : tI h)  : CaP 8 90 [.ref 16, .int x1] h (mI h F_X11_mend (fun _ => True)) := by
  refine cap_of (d := 7) (M := mX11_mend) rfl (Nat.le_of_ble_eq_true rfl) ?_
  show EvP im_K0 7 mX11_mend (0, [(0, .ref 16), (1, .int x1)], [], h) _
  have f0 : fr F_X11_mend h h := fr_rf
  refine te_iload_n (p2 := 1) rfl rfl rfl ?_
  refine te_aload_n (p2 := 2) rfl rfl rfl ?_
  refine tg_r (p2 := 5) (i := 0) (r := 88) rfl rfl hI rfl rfl rfl ?_
  refine tg_i (p2 := 8) (i := 72) rfl rfl hI rfl rfl rfl (fun y1 a1 b1 e1 => ?_)
  refine cS_pI (p2 := 11) rfl rfl rfl rfl (t_X11_within (n := x1) (b := y1) hI ) (by decide) (fun y2 r2 => ?_)
  rcases r2 with ⟨w2, c2⟩ | ⟨w2, c2⟩
  · subst w2
    refine tz_ne (p2 := 14) rfl rfl (show Int32.toInt 1 = 1 from rfl) (fun c3 => ?_) (fun c3 => absurd c3 (by omega))
    refine te_aload_n (p2 := 17) rfl rfl rfl ?_
    refine tg_r (p2 := 20) (i := 0) (r := 39) rfl rfl hI rfl rfl rfl ?_
    refine tg_r (p2 := 23) (i := 23) (r := 49) rfl rfl hI rfl rfl rfl ?_
    refine te_iload_n (p2 := 24) rfl rfl rfl ?_
    refine tl_b (p2 := 25) (i := 33) (n := 12) rfl rfl hI rfl rfl rfl rfl (by omega) (by omega) (fun y4 a4 e4 => ?_)
    refine tz_eq (p2 := 28) rfl rfl rfl (fun c5 => ?_) (fun c5 => ?_)
    · refine te_aload_n (p2 := 32) rfl rfl rfl ?_
      refine tg_r (p2 := 35) (i := 0) (r := 88) rfl rfl hI rfl rfl rfl ?_
      refine tg_r (p2 := 38) (i := 72) (r := 90) rfl rfl hI rfl rfl rfl ?_
      refine te_iload_n (p2 := 39) rfl rfl rfl ?_
      refine tl_i (p2 := 40) (i := 74) (n := 12) rfl rfl hI rfl rfl rfl rfl (by omega) (by omega) (fun y6 a6 b6 g6 e6 => ?_)
      refine te_aload_n (p2 := 41) rfl rfl rfl ?_
      refine tg_r (p2 := 44) (i := 0) (r := 39) rfl rfl hI rfl rfl rfl ?_
      refine tg_r (p2 := 47) (i := 23) (r := 40) rfl rfl hI rfl rfl rfl ?_
      refine te_iconst (p2 := 48) (x := 0) rfl rfl (by decide) ?_
      refine tl_i (p2 := 49) (i := 24) (n := 3) rfl rfl hI rfl rfl rfl rfl (by decide) (by decide) (fun y7 a7 b7 g7 e7 => ?_)
      refine tb_gt (p2 := 52) rfl rfl rfl rfl (fun c8 => ?_) (fun c8 => ?_)
      · refine te_bipush (p2 := 75) (x := (-6)) rfl rfl (by decide) ?_
        exact te_iret rfl rfl ⟨hI, f0, _, rfl, trivial⟩
      · refine te_aload_n (p2 := 53) rfl rfl rfl ?_
        refine tg_r (p2 := 56) (i := 0) (r := 88) rfl rfl hI rfl rfl rfl ?_
        refine tg_r (p2 := 59) (i := 72) (r := 91) rfl rfl hI rfl rfl rfl ?_
        refine te_iload_n (p2 := 60) rfl rfl rfl ?_
        refine tl_i (p2 := 61) (i := 75) (n := 12) rfl rfl hI rfl rfl rfl rfl (by omega) (by omega) (fun y9 a9 b9 g9 e9 => ?_)
        refine te_aload_n (p2 := 62) rfl rfl rfl ?_
        refine tg_r (p2 := 65) (i := 0) (r := 39) rfl rfl hI rfl rfl rfl ?_
        refine tg_r (p2 := 68) (i := 23) (r := 40) rfl rfl hI rfl rfl rfl ?_
        refine te_iconst (p2 := 69) (x := 1) rfl rfl (by decide) ?_
        refine tl_i (p2 := 70) (i := 24) (n := 3) rfl rfl hI rfl rfl rfl rfl (by decide) (by decide) (fun y10 a10 b10 g10 e10 => ?_)
        refine tb_le (p2 := 73) rfl rfl rfl rfl (fun c11 => ?_) (fun c11 => ?_)
        · refine te_aload_n (p2 := 77) rfl rfl rfl ?_
          refine tg_r (p2 := 80) (i := 0) (r := 39) rfl rfl hI rfl rfl rfl ?_
          refine tg_r (p2 := 83) (i := 23) (r := 40) rfl rfl hI rfl rfl rfl ?_
          refine te_iconst (p2 := 84) (x := 0) rfl rfl (by decide) ?_
          refine te_dup2 (p2 := 85) rfl rfl ⟨rfl, rfl⟩ ?_
          refine tl_e (p2 := 86) (i := 24) (n := 3) (t := 0) (Or.inl rfl) rfl rfl hI rfl rfl (by decide) (by decide) e7 ?_
          refine te_aload_n (p2 := 87) rfl rfl rfl ?_
          refine tg_r (p2 := 90) (i := 0) (r := 88) rfl rfl hI rfl rfl rfl ?_
          refine tg_r (p2 := 93) (i := 72) (r := 90) rfl rfl hI rfl rfl rfl ?_
          refine te_iload_n (p2 := 94) rfl rfl rfl ?_
          refine tl_e (p2 := 95) (i := 74) (n := 12) (t := 0) (Or.inl rfl) rfl rfl hI rfl rfl (by omega) (by omega) e6 ?_
          refine au_sub (p2 := 96) rfl rfl (fun z14 e14 => ?_)
          refine ts_i (p2 := 97) (i := 24) (n := 3) rfl rfl hI rfl rfl rfl rfl (by decide) (by decide) (i32_lo _) (i32_hi _) (i32_ho _) rfl (fun h15 I15 u15 => ?_)
          have f15 := fr_st (F := F_X11_mend) 0 f0 u15 rfl (by decide) (by decide)
          refine te_aload_n (p2 := 98) rfl rfl rfl ?_
          refine tg_r (p2 := 101) (i := 0) (r := 39) rfl rfl I15 rfl rfl rfl ?_
          refine tg_r (p2 := 104) (i := 23) (r := 40) rfl rfl I15 rfl rfl rfl ?_
          refine te_iconst (p2 := 105) (x := 1) rfl rfl (by decide) ?_
          refine te_dup2 (p2 := 106) rfl rfl ⟨rfl, rfl⟩ ?_
          refine tl_i (p2 := 107) (i := 24) (n := 3) rfl rfl I15 rfl rfl rfl rfl (by decide) (by decide) (fun y16 a16 b16 g16 e16 => ?_)
          refine te_aload_n (p2 := 108) rfl rfl rfl ?_
          refine tg_r (p2 := 111) (i := 0) (r := 88) rfl rfl I15 rfl rfl rfl ?_
          refine tg_r (p2 := 114) (i := 72) (r := 91) rfl rfl I15 rfl rfl rfl ?_
          refine te_iload_n (p2 := 115) rfl rfl rfl ?_
          refine tl_e (p2 := 116) (i := 75) (n := 12) (t := 0) (Or.inl rfl) rfl rfl I15 rfl rfl (by omega) (by omega) ((u15.2 _ _ (Or.inl (by decide))).trans e9) ?_
          refine au_sub (p2 := 117) rfl rfl (fun z18 e18 => ?_)
          refine ts_i (p2 := 118) (i := 24) (n := 3) rfl rfl I15 rfl rfl rfl rfl (by decide) (by decide) (i32_lo _) (i32_hi _) (i32_ho _) rfl (fun h19 I19 u19 => ?_)
          have f19 := fr_st (F := F_X11_mend) 0 f15 u19 rfl (by decide) (by decide)
          refine te_aload_n (p2 := 119) rfl rfl rfl ?_
          refine tg_r (p2 := 122) (i := 0) (r := 39) rfl rfl I19 rfl rfl rfl ?_
          refine tg_r (p2 := 125) (i := 23) (r := 49) rfl rfl I19 rfl rfl rfl ?_
          refine te_iload_n (p2 := 126) rfl rfl rfl ?_
          refine te_iconst (p2 := 127) (x := 1) rfl rfl (by decide) ?_
          refine ts_b (p2 := 128) (i := 33) (n := 12) rfl rfl I19 rfl rfl rfl rfl (by omega) (by omega) (by decide) (by decide) rfl (fun h20 I20 u20 => ?_)
          have f20 := fr_st (F := F_X11_mend) 1 f19 u20 rfl (by omega) (by omega)
          refine te_aload_n (p2 := 129) rfl rfl rfl ?_
          refine tg_r (p2 := 132) (i := 0) (r := 39) rfl rfl I20 rfl rfl rfl ?_
          refine tg_r (p2 := 135) (i := 23) (r := 40) rfl rfl I20 rfl rfl rfl ?_
          refine te_iconst (p2 := 136) (x := 0) rfl rfl (by decide) ?_
          refine tl_i (p2 := 137) (i := 24) (n := 3) rfl rfl I20 rfl rfl rfl rfl (by decide) (by decide) (fun y21 a21 b21 g21 e21 => ?_)
          exact te_iret rfl rfl ⟨I20, f20, _, rfl, trivial⟩
        · refine te_bipush (p2 := 75) (x := (-6)) rfl rfl (by decide) ?_
          exact te_iret rfl rfl ⟨hI, f0, _, rfl, trivial⟩
    · refine te_bipush (p2 := 30) (x := (-3)) rfl rfl (by decide) ?_
      exact te_iret rfl rfl ⟨hI, f0, _, rfl, trivial⟩
  · subst w2
    refine tz_ne (p2 := 14) rfl rfl (show Int32.toInt 0 = 0 from rfl) (fun c22 => absurd c22 (by omega)) (fun c22 => ?_)
    refine te_iconst (p2 := 15) (x := (-1)) rfl rfl (by decide) ?_
    exact te_iret rfl rfl ⟨hI, f0, _, rfl, trivial⟩
abbrev F_X12_mend : List (Nat × Nat × Nat) := [(149, 100, 101), (149, 260, 271)]
set_option maxRecDepth 20000 in
set_option maxHeartbeats 4000000 in
theorem t_X12_mend {x1 : Int32} {h : im_H} (hI : tI h)  : CaP 8 173 [.ref 164, .int x1] h (mI h F_X12_mend (fun _ => True)) := by
  refine cap_of (d := 7) (M := mX12_mend) rfl (Nat.le_of_ble_eq_true rfl) ?_
  show EvP im_K0 7 mX12_mend (0, [(0, .ref 164), (1, .int x1)], [], h) _
  have f0 : fr F_X12_mend h h := fr_rf
  refine te_aload_n (p2 := 1) rfl rfl rfl ?_
  refine te_iload_n (p2 := 2) rfl rfl rfl ?_
  refine cV_pI (p2 := 5) (i := 148) rfl rfl rfl rfl hI rfl rfl rfl (t_X12_isRoom (k := x1) hI) (by decide) (fun y1 r1 => ?_)
  obtain ⟨p1, e1, a1, b1, r1⟩ := r1
  rcases r1 with ⟨w1, c1⟩ | ⟨w1, c1⟩
  · subst w1
    refine tz_ne (p2 := 8) rfl rfl (show Int32.toInt 1 = 1 from rfl) (fun c2 => ?_) (fun c2 => absurd c2 (by omega))
    refine te_aload_n (p2 := 11) rfl rfl rfl ?_
    refine tg_r (p2 := 14) (i := 148) (r := 165) rfl rfl hI rfl rfl rfl ?_
    refine te_sipush (p2 := 17) (x := 260) rfl rfl (by decide) ?_
    refine te_iload_n (p2 := 18) rfl rfl rfl ?_
    refine ar_add (p2 := 19) rfl rfl (show Int32.toInt 260 = 260 from rfl) rfl (by omega) (by omega) (fun z3 e3 f3 => ?_)
    refine tl_i (p2 := 20) (i := 149) (n := 283) rfl rfl hI rfl rfl rfl rfl (by omega) (by omega) (fun y4 a4 b4 g4 e4 => ?_)
    refine te_iconst (p2 := 21) (x := 1) rfl rfl (by decide) ?_
    refine tb_ne (p2 := 24) rfl rfl rfl (show Int32.toInt 1 = 1 from rfl) (fun c5 => ?_) (fun c5 => ?_)
    · refine te_aload_n (p2 := 28) rfl rfl rfl ?_
      refine tg_r (p2 := 31) (i := 148) (r := 186) rfl rfl hI rfl rfl rfl ?_
      refine te_iload_n (p2 := 32) rfl rfl rfl ?_
      refine tl_i (p2 := 33) (i := 170) (n := 12) rfl rfl hI rfl rfl rfl rfl (by omega) (by omega) (fun y6 a6 b6 g6 e6 => ?_)
      refine te_aload_n (p2 := 34) rfl rfl rfl ?_
      refine tg_r (p2 := 37) (i := 148) (r := 165) rfl rfl hI rfl rfl rfl ?_
      refine te_bipush (p2 := 39) (x := 100) rfl rfl (by decide) ?_
      refine tl_i (p2 := 40) (i := 149) (n := 283) rfl rfl hI rfl rfl rfl rfl (by decide) (by decide) (fun y7 a7 b7 g7 e7 => ?_)
      refine tb_gt (p2 := 43) rfl rfl rfl rfl (fun c8 => ?_) (fun c8 => ?_)
      · refine te_bipush (p2 := 61) (x := (-6)) rfl rfl (by decide) ?_
        exact te_iret rfl rfl ⟨hI, f0, _, rfl, trivial⟩
      · refine te_aload_n (p2 := 44) rfl rfl rfl ?_
        refine tg_r (p2 := 47) (i := 148) (r := 187) rfl rfl hI rfl rfl rfl ?_
        refine te_iload_n (p2 := 48) rfl rfl rfl ?_
        refine tl_i (p2 := 49) (i := 171) (n := 12) rfl rfl hI rfl rfl rfl rfl (by omega) (by omega) (fun y9 a9 b9 g9 e9 => ?_)
        refine te_aload_n (p2 := 50) rfl rfl rfl ?_
        refine tg_r (p2 := 53) (i := 148) (r := 165) rfl rfl hI rfl rfl rfl ?_
        refine te_bipush (p2 := 55) (x := 101) rfl rfl (by decide) ?_
        refine tl_i (p2 := 56) (i := 149) (n := 283) rfl rfl hI rfl rfl rfl rfl (by decide) (by decide) (fun y10 a10 b10 g10 e10 => ?_)
        refine tb_le (p2 := 59) rfl rfl rfl rfl (fun c11 => ?_) (fun c11 => ?_)
        · refine te_aload_n (p2 := 63) rfl rfl rfl ?_
          refine tg_r (p2 := 66) (i := 148) (r := 165) rfl rfl hI rfl rfl rfl ?_
          refine te_bipush (p2 := 68) (x := 100) rfl rfl (by decide) ?_
          refine te_dup2 (p2 := 69) rfl rfl ⟨rfl, rfl⟩ ?_
          refine tl_e (p2 := 70) (i := 149) (n := 283) (t := 0) (Or.inl rfl) rfl rfl hI rfl rfl (by decide) (by decide) e7 ?_
          refine te_aload_n (p2 := 71) rfl rfl rfl ?_
          refine tg_r (p2 := 74) (i := 148) (r := 186) rfl rfl hI rfl rfl rfl ?_
          refine te_iload_n (p2 := 75) rfl rfl rfl ?_
          refine tl_e (p2 := 76) (i := 170) (n := 12) (t := 0) (Or.inl rfl) rfl rfl hI rfl rfl (by omega) (by omega) e6 ?_
          refine au_sub (p2 := 77) rfl rfl (fun z14 e14 => ?_)
          refine ts_i (p2 := 78) (i := 149) (n := 283) rfl rfl hI rfl rfl rfl rfl (by decide) (by decide) (i32_lo _) (i32_hi _) (i32_ho _) rfl (fun h15 I15 u15 => ?_)
          have f15 := fr_st (F := F_X12_mend) 0 f0 u15 rfl (by decide) (by decide)
          refine te_aload_n (p2 := 79) rfl rfl rfl ?_
          refine tg_r (p2 := 82) (i := 148) (r := 165) rfl rfl I15 rfl rfl rfl ?_
          refine te_bipush (p2 := 84) (x := 101) rfl rfl (by decide) ?_
          refine te_dup2 (p2 := 85) rfl rfl ⟨rfl, rfl⟩ ?_
          refine tl_i (p2 := 86) (i := 149) (n := 283) rfl rfl I15 rfl rfl rfl rfl (by decide) (by decide) (fun y16 a16 b16 g16 e16 => ?_)
          refine te_aload_n (p2 := 87) rfl rfl rfl ?_
          refine tg_r (p2 := 90) (i := 148) (r := 187) rfl rfl I15 rfl rfl rfl ?_
          refine te_iload_n (p2 := 91) rfl rfl rfl ?_
          refine tl_e (p2 := 92) (i := 171) (n := 12) (t := 0) (Or.inl rfl) rfl rfl I15 rfl rfl (by omega) (by omega) ((u15.2 _ _ (Or.inl (by decide))).trans e9) ?_
          refine au_sub (p2 := 93) rfl rfl (fun z18 e18 => ?_)
          refine ts_i (p2 := 94) (i := 149) (n := 283) rfl rfl I15 rfl rfl rfl rfl (by decide) (by decide) (i32_lo _) (i32_hi _) (i32_ho _) rfl (fun h19 I19 u19 => ?_)
          have f19 := fr_st (F := F_X12_mend) 0 f15 u19 rfl (by decide) (by decide)
          refine te_aload_n (p2 := 95) rfl rfl rfl ?_
          refine tg_r (p2 := 98) (i := 148) (r := 165) rfl rfl I19 rfl rfl rfl ?_
          refine te_sipush (p2 := 101) (x := 260) rfl rfl (by decide) ?_
          refine te_iload_n (p2 := 102) rfl rfl rfl ?_
          refine ar_add (p2 := 103) rfl rfl (show Int32.toInt 260 = 260 from rfl) rfl (by omega) (by omega) (fun z20 e20 f20 => ?_)
          refine te_iconst (p2 := 104) (x := 1) rfl rfl (by decide) ?_
          refine ts_i (p2 := 105) (i := 149) (n := 283) rfl rfl I19 rfl rfl rfl rfl (by omega) (by omega) (i32_lo _) (i32_hi _) (i32_ho _) rfl (fun h21 I21 u21 => ?_)
          have f21 := fr_st (F := F_X12_mend) 1 f19 u21 rfl (by omega) (by omega)
          refine te_aload_n (p2 := 106) rfl rfl rfl ?_
          refine tg_r (p2 := 109) (i := 148) (r := 165) rfl rfl I21 rfl rfl rfl ?_
          refine te_bipush (p2 := 111) (x := 100) rfl rfl (by decide) ?_
          refine tl_i (p2 := 112) (i := 149) (n := 283) rfl rfl I21 rfl rfl rfl rfl (by decide) (by decide) (fun y22 a22 b22 g22 e22 => ?_)
          exact te_iret rfl rfl ⟨I21, f21, _, rfl, trivial⟩
        · refine te_bipush (p2 := 61) (x := (-6)) rfl rfl (by decide) ?_
          exact te_iret rfl rfl ⟨hI, f0, _, rfl, trivial⟩
    · refine te_bipush (p2 := 26) (x := (-3)) rfl rfl (by decide) ?_
      exact te_iret rfl rfl ⟨hI, f0, _, rfl, trivial⟩
  · subst w1
    refine tz_ne (p2 := 8) rfl rfl (show Int32.toInt 0 = 0 from rfl) (fun c23 => absurd c23 (by omega)) (fun c23 => ?_)
    refine te_iconst (p2 := 9) (x := (-1)) rfl rfl (by decide) ?_
    exact te_iret rfl rfl ⟨hI, f0, _, rfl, trivial⟩
abbrev F_X11_roomTold : List (Nat × Nat × Nat) := []
set_option maxRecDepth 20000 in
set_option maxHeartbeats 4000000 in
theorem t_X11_roomTold {x1 : Int32} {x2 : Int32} {h : im_H} (hI : tI h)  : CaP 8 91 [.ref 16, .int x1, .int x2] h (mI h F_X11_roomTold (fun _ => True)) := by
  refine cap_of (d := 7) (M := mX11_roomTold) rfl (Nat.le_of_ble_eq_true rfl) ?_
  show EvP im_K0 7 mX11_roomTold (0, [(0, .ref 16), (1, .int x1), (2, .int x2)], [], h) _
  have f0 : fr F_X11_roomTold h h := fr_rf
  refine te_iload_n (p2 := 1) rfl rfl rfl ?_
  refine te_aload_n (p2 := 2) rfl rfl rfl ?_
  refine tg_r (p2 := 5) (i := 0) (r := 88) rfl rfl hI rfl rfl rfl ?_
  refine tg_i (p2 := 8) (i := 72) rfl rfl hI rfl rfl rfl (fun y1 a1 b1 e1 => ?_)
  refine cS_pI (p2 := 11) rfl rfl rfl rfl (t_X11_within (n := x1) (b := y1) hI ) (by decide) (fun y2 r2 => ?_)
  rcases r2 with ⟨w2, c2⟩ | ⟨w2, c2⟩
  · subst w2
    refine tz_ne (p2 := 14) rfl rfl (show Int32.toInt 1 = 1 from rfl) (fun c3 => ?_) (fun c3 => absurd c3 (by omega))
    refine te_iload_n (p2 := 17) rfl rfl rfl ?_
    by_cases c4 : x2.toInt = 0
    · refine te_tsIn (k := 0) (p2 := 44) rfl c4 (by decide) (by decide) rfl (by decide) ?_
      refine te_aload_n (p2 := 45) rfl rfl rfl ?_
      refine tg_r (p2 := 48) (i := 0) (r := 88) rfl rfl hI rfl rfl rfl ?_
      refine tg_r (p2 := 51) (i := 72) (r := 89) rfl rfl hI rfl rfl rfl ?_
      refine te_iload_n (p2 := 52) rfl rfl rfl ?_
      refine tl_i (p2 := 53) (i := 73) (n := 12) rfl rfl hI rfl rfl rfl rfl (by omega) (by omega) (fun y5 a5 b5 g5 e5 => ?_)
      exact te_iret rfl rfl ⟨hI, f0, _, rfl, trivial⟩
    · by_cases c6 : x2.toInt = 1
      · refine te_tsIn (k := 1) (p2 := 54) rfl c6 (by decide) (by decide) rfl (by decide) ?_
        refine te_aload_n (p2 := 55) rfl rfl rfl ?_
        refine tg_r (p2 := 58) (i := 0) (r := 39) rfl rfl hI rfl rfl rfl ?_
        refine tg_r (p2 := 61) (i := 23) (r := 49) rfl rfl hI rfl rfl rfl ?_
        refine te_iload_n (p2 := 62) rfl rfl rfl ?_
        refine tl_b (p2 := 63) (i := 33) (n := 12) rfl rfl hI rfl rfl rfl rfl (by omega) (by omega) (fun y7 a7 e7 => ?_)
        refine tz_eq (p2 := 66) rfl rfl rfl (fun c8 => ?_) (fun c8 => ?_)
        · refine te_iconst (p2 := 71) (x := 0) rfl rfl (by decide) ?_
          exact te_iret rfl rfl ⟨hI, f0, _, rfl, trivial⟩
        · refine te_iconst (p2 := 67) (x := 1) rfl rfl (by decide) ?_
          refine te_goto rfl ?_
          exact te_iret rfl rfl ⟨hI, f0, _, rfl, trivial⟩
      · by_cases c9 : x2.toInt = 2
        · refine te_tsIn (k := 2) (p2 := 72) rfl c9 (by decide) (by decide) rfl (by decide) ?_
          refine te_aload_n (p2 := 73) rfl rfl rfl ?_
          refine tg_r (p2 := 76) (i := 0) (r := 88) rfl rfl hI rfl rfl rfl ?_
          refine tg_r (p2 := 79) (i := 72) (r := 92) rfl rfl hI rfl rfl rfl ?_
          refine te_iload_n (p2 := 80) rfl rfl rfl ?_
          refine tl_i (p2 := 81) (i := 76) (n := 12) rfl rfl hI rfl rfl rfl rfl (by omega) (by omega) (fun y10 a10 b10 g10 e10 => ?_)
          exact te_iret rfl rfl ⟨hI, f0, _, rfl, trivial⟩
        · refine te_tsOut (p2 := 82) rfl (by omega) (by decide) ?_
          refine te_bipush (p2 := 84) (x := (-2)) rfl rfl (by decide) ?_
          exact te_iret rfl rfl ⟨hI, f0, _, rfl, trivial⟩
  · subst w2
    refine tz_ne (p2 := 14) rfl rfl (show Int32.toInt 0 = 0 from rfl) (fun c11 => absurd c11 (by omega)) (fun c11 => ?_)
    refine te_iconst (p2 := 15) (x := (-1)) rfl rfl (by decide) ?_
    exact te_iret rfl rfl ⟨hI, f0, _, rfl, trivial⟩
abbrev F_X12_roomTold : List (Nat × Nat × Nat) := []
set_option maxRecDepth 20000 in
set_option maxHeartbeats 4000000 in
theorem t_X12_roomTold {x1 : Int32} {x2 : Int32} {h : im_H} (hI : tI h)  : CaP 8 174 [.ref 164, .int x1, .int x2] h (mI h F_X12_roomTold (fun _ => True)) := by
  refine cap_of (d := 7) (M := mX12_roomTold) rfl (Nat.le_of_ble_eq_true rfl) ?_
  show EvP im_K0 7 mX12_roomTold (0, [(0, .ref 164), (1, .int x1), (2, .int x2)], [], h) _
  have f0 : fr F_X12_roomTold h h := fr_rf
  refine te_aload_n (p2 := 1) rfl rfl rfl ?_
  refine te_iload_n (p2 := 2) rfl rfl rfl ?_
  refine cV_pI (p2 := 5) (i := 148) rfl rfl rfl rfl hI rfl rfl rfl (t_X12_isRoom (k := x1) hI) (by decide) (fun y1 r1 => ?_)
  obtain ⟨p1, e1, a1, b1, r1⟩ := r1
  rcases r1 with ⟨w1, c1⟩ | ⟨w1, c1⟩
  · subst w1
    refine tz_ne (p2 := 8) rfl rfl (show Int32.toInt 1 = 1 from rfl) (fun c2 => ?_) (fun c2 => absurd c2 (by omega))
    refine te_iload_n (p2 := 11) rfl rfl rfl ?_
    refine tz_ne (p2 := 14) rfl rfl rfl (fun c3 => ?_) (fun c3 => ?_)
    · refine te_iload_n (p2 := 24) rfl rfl rfl ?_
      refine te_iconst (p2 := 25) (x := 1) rfl rfl (by decide) ?_
      refine tb_ne (p2 := 28) rfl rfl rfl (show Int32.toInt 1 = 1 from rfl) (fun c4 => ?_) (fun c4 => ?_)
      · refine te_iload_n (p2 := 42) rfl rfl rfl ?_
        refine te_iconst (p2 := 43) (x := 2) rfl rfl (by decide) ?_
        refine tb_ne (p2 := 46) rfl rfl rfl (show Int32.toInt 2 = 2 from rfl) (fun c5 => ?_) (fun c5 => ?_)
        · refine te_bipush (p2 := 57) (x := (-2)) rfl rfl (by decide) ?_
          exact te_iret rfl rfl ⟨hI, f0, _, rfl, trivial⟩
        · refine te_aload_n (p2 := 47) rfl rfl rfl ?_
          refine tg_r (p2 := 50) (i := 148) (r := 188) rfl rfl hI rfl rfl rfl ?_
          refine te_iload_n (p2 := 51) rfl rfl rfl ?_
          refine tl_i (p2 := 52) (i := 172) (n := 12) rfl rfl hI rfl rfl rfl rfl (by omega) (by omega) (fun y6 a6 b6 g6 e6 => ?_)
          refine te_goto rfl ?_
          exact te_iret rfl rfl ⟨hI, f0, _, rfl, trivial⟩
      · refine te_aload_n (p2 := 29) rfl rfl rfl ?_
        refine tg_r (p2 := 32) (i := 148) (r := 165) rfl rfl hI rfl rfl rfl ?_
        refine te_sipush (p2 := 35) (x := 260) rfl rfl (by decide) ?_
        refine te_iload_n (p2 := 36) rfl rfl rfl ?_
        refine ar_add (p2 := 37) rfl rfl (show Int32.toInt 260 = 260 from rfl) rfl (by omega) (by omega) (fun z7 e7 f7 => ?_)
        refine tl_i (p2 := 38) (i := 149) (n := 283) rfl rfl hI rfl rfl rfl rfl (by omega) (by omega) (fun y8 a8 b8 g8 e8 => ?_)
        refine te_goto rfl ?_
        exact te_iret rfl rfl ⟨hI, f0, _, rfl, trivial⟩
    · refine te_aload_n (p2 := 15) rfl rfl rfl ?_
      refine tg_r (p2 := 18) (i := 148) (r := 185) rfl rfl hI rfl rfl rfl ?_
      refine te_iload_n (p2 := 19) rfl rfl rfl ?_
      refine tl_i (p2 := 20) (i := 169) (n := 12) rfl rfl hI rfl rfl rfl rfl (by omega) (by omega) (fun y9 a9 b9 g9 e9 => ?_)
      refine te_goto rfl ?_
      exact te_iret rfl rfl ⟨hI, f0, _, rfl, trivial⟩
  · subst w1
    refine tz_ne (p2 := 8) rfl rfl (show Int32.toInt 0 = 0 from rfl) (fun c10 => absurd c10 (by omega)) (fun c10 => ?_)
    refine te_iconst (p2 := 9) (x := (-1)) rfl rfl (by decide) ?_
    exact te_iret rfl rfl ⟨hI, f0, _, rfl, trivial⟩
abbrev F_X11_paper : List (Nat × Nat × Nat) := [(91, 0, 0), (92, 0, 23), (93, 0, 23), (94, 0, 23), (95, 0, 23)]
set_option maxRecDepth 20000 in
set_option maxHeartbeats 4000000 in
theorem t_X11_paper {x1 : Int32} {x2 : Int32} {x3 : Int32} {h : im_H} (hI : tI h)  : CaP 8 96 [.ref 16, .int x1, .int x2, .int x3] h (mI h F_X11_paper (fun _ => True)) := by
  refine cap_of (d := 7) (M := mX11_paper) rfl (Nat.le_of_ble_eq_true rfl) ?_
  show EvP im_K0 7 mX11_paper (0, [(0, .ref 16), (1, .int x1), (2, .int x2), (3, .int x3)], [], h) _
  have f0 : fr F_X11_paper h h := fr_rf
  refine te_iload_n (p2 := 1) rfl rfl rfl ?_
  refine te_bipush (p2 := 3) (x := 12) rfl rfl (by decide) ?_
  refine cS_pI (p2 := 6) rfl rfl rfl rfl (t_X11_within (n := x1) (b := 12) hI ) (by decide) (fun y1 r1 => ?_)
  rcases r1 with ⟨w1, c1⟩ | ⟨w1, c1⟩
  · subst w1
    have cc1_1 := (show Int32.toInt 12 = 12 from rfl)
    refine tz_eq (p2 := 9) rfl rfl (show Int32.toInt 1 = 1 from rfl) (fun c2 => absurd c2 (by omega)) (fun c2 => ?_)
    refine te_iload_n (p2 := 10) rfl rfl rfl ?_
    refine te_aload_n (p2 := 11) rfl rfl rfl ?_
    refine tg_r (p2 := 14) (i := 0) (r := 17) rfl rfl hI rfl rfl rfl ?_
    refine tg_i (p2 := 17) (i := 1) rfl rfl hI rfl rfl rfl (fun y3 a3 b3 e3 => ?_)
    refine cS_pI (p2 := 20) rfl rfl rfl rfl (t_X11_within (n := x2) (b := y3) hI ) (by decide) (fun y4 r4 => ?_)
    rcases r4 with ⟨w4, c4⟩ | ⟨w4, c4⟩
    · subst w4
      refine tz_ne (p2 := 23) rfl rfl (show Int32.toInt 1 = 1 from rfl) (fun c5 => ?_) (fun c5 => absurd c5 (by omega))
      refine te_iload_n (p2 := 26) rfl rfl rfl ?_
      refine te_iconst (p2 := 27) (x := 0) rfl rfl (by decide) ?_
      refine te_sipush (p2 := 30) (x := 2000) rfl rfl (by decide) ?_
      refine cS_pI (p2 := 33) rfl rfl rfl rfl (t_X11_between (n := x3) (a := 0) (b := 2000) hI ) (by decide) (fun y6 r6 => ?_)
      rcases r6 with ⟨w6, c6⟩ | ⟨w6, c6⟩
      · subst w6
        have cc6_1 := (show Int32.toInt 0 = 0 from rfl)
        have cc6_2 := (show Int32.toInt 2000 = 2000 from rfl)
        refine tz_ne (p2 := 36) rfl rfl (show Int32.toInt 1 = 1 from rfl) (fun c7 => ?_) (fun c7 => absurd c7 (by omega))
        refine te_aload_n (p2 := 40) rfl rfl rfl ?_
        refine tg_r (p2 := 43) (i := 0) (r := 107) rfl rfl hI rfl rfl rfl ?_
        refine tg_i (p2 := 46) (i := 91) rfl rfl hI rfl rfl rfl (fun y8 a8 b8 e8 => ?_)
        refine te_bipush (p2 := 48) (x := 24) rfl rfl (by decide) ?_
        refine tb_lt (p2 := 51) rfl rfl rfl (show Int32.toInt 24 = 24 from rfl) (fun c9 => ?_) (fun c9 => ?_)
        · refine te_aload_n (p2 := 55) rfl rfl rfl ?_
          refine tg_r (p2 := 58) (i := 0) (r := 107) rfl rfl hI rfl rfl rfl ?_
          refine tg_e (p2 := 61) (i := 91) (v := .int y8) rfl rfl hI rfl rfl e8 ?_
          refine te_istore (p2 := 63) (lv2 := [(4, .int y8), (0, .ref 16), (1, .int x1), (2, .int x2), (3, .int x3)]) rfl rfl (by decide) rfl ?_
          refine te_aload_n (p2 := 64) rfl rfl rfl ?_
          refine tg_r (p2 := 67) (i := 0) (r := 107) rfl rfl hI rfl rfl rfl ?_
          refine tg_r (p2 := 70) (i := 91) (r := 108) rfl rfl hI rfl rfl rfl ?_
          refine te_iload (p2 := 72) rfl rfl rfl ?_
          refine te_iload_n (p2 := 73) rfl rfl rfl ?_
          refine ts_i (p2 := 74) (i := 92) (n := 24) rfl rfl hI rfl rfl rfl rfl (by omega) (by omega) (i32_lo _) (i32_hi _) (i32_ho _) rfl (fun h10 I10 u10 => ?_)
          have f10 := fr_st (F := F_X11_paper) 1 f0 u10 rfl (by omega) (by omega)
          refine te_aload_n (p2 := 75) rfl rfl rfl ?_
          refine tg_r (p2 := 78) (i := 0) (r := 107) rfl rfl I10 rfl rfl rfl ?_
          refine tg_r (p2 := 81) (i := 91) (r := 109) rfl rfl I10 rfl rfl rfl ?_
          refine te_iload (p2 := 83) rfl rfl rfl ?_
          refine te_iload_n (p2 := 84) rfl rfl rfl ?_
          refine ts_i (p2 := 85) (i := 93) (n := 24) rfl rfl I10 rfl rfl rfl rfl (by omega) (by omega) (i32_lo _) (i32_hi _) (i32_ho _) rfl (fun h11 I11 u11 => ?_)
          have f11 := fr_st (F := F_X11_paper) 2 f10 u11 rfl (by omega) (by omega)
          refine te_aload_n (p2 := 86) rfl rfl rfl ?_
          refine tg_r (p2 := 89) (i := 0) (r := 107) rfl rfl I11 rfl rfl rfl ?_
          refine tg_r (p2 := 92) (i := 91) (r := 110) rfl rfl I11 rfl rfl rfl ?_
          refine te_iload (p2 := 94) rfl rfl rfl ?_
          refine te_iload_n (p2 := 95) rfl rfl rfl ?_
          refine ts_i (p2 := 96) (i := 94) (n := 24) rfl rfl I11 rfl rfl rfl rfl (by omega) (by omega) (i32_lo _) (i32_hi _) (i32_ho _) rfl (fun h12 I12 u12 => ?_)
          have f12 := fr_st (F := F_X11_paper) 3 f11 u12 rfl (by omega) (by omega)
          refine te_aload_n (p2 := 97) rfl rfl rfl ?_
          refine tg_r (p2 := 100) (i := 0) (r := 107) rfl rfl I12 rfl rfl rfl ?_
          refine tg_r (p2 := 103) (i := 91) (r := 111) rfl rfl I12 rfl rfl rfl ?_
          refine te_iload (p2 := 105) rfl rfl rfl ?_
          refine te_aload_n (p2 := 106) rfl rfl rfl ?_
          refine tg_r (p2 := 109) (i := 0) (r := 39) rfl rfl I12 rfl rfl rfl ?_
          refine tg_i (p2 := 112) (i := 23) rfl rfl I12 rfl rfl rfl (fun y13 a13 b13 e13 => ?_)
          refine ts_i (p2 := 113) (i := 95) (n := 24) rfl rfl I12 rfl rfl rfl rfl (by omega) (by omega) (i32_lo _) (i32_hi _) (i32_ho _) rfl (fun h14 I14 u14 => ?_)
          have f14 := fr_st (F := F_X11_paper) 4 f12 u14 rfl (by omega) (by omega)
          refine te_aload_n (p2 := 114) rfl rfl rfl ?_
          refine tg_r (p2 := 117) (i := 0) (r := 107) rfl rfl I14 rfl rfl rfl ?_
          refine te_dup (p2 := 118) rfl rfl rfl ?_
          refine tg_e (p2 := 121) (i := 91) (v := .int y8) rfl rfl I14 rfl rfl ((u14.2 _ _ (Or.inl (by decide))).trans ((u12.2 _ _ (Or.inl (by decide))).trans ((u11.2 _ _ (Or.inl (by decide))).trans ((u10.2 _ _ (Or.inl (by decide))).trans e8)))) ?_
          refine te_iconst (p2 := 122) (x := 1) rfl rfl (by decide) ?_
          refine ar_add (p2 := 123) rfl rfl rfl (show Int32.toInt 1 = 1 from rfl) (by omega) (by omega) (fun z15 e15 f15 => ?_)
          refine tp_i (p2 := 126) (i := 91) rfl rfl I14 rfl rfl (by decide) rfl rfl rfl (by omega) (by omega) (by omega) rfl (fun h16 I16 u16 => ?_)
          have f16 := fr_st (F := F_X11_paper) 0 f14 u16 rfl (by decide) (by decide)
          refine te_iload (p2 := 128) rfl rfl rfl ?_
          exact te_iret rfl rfl ⟨I16, f16, _, rfl, trivial⟩
        · refine te_bipush (p2 := 53) (x := (-4)) rfl rfl (by decide) ?_
          exact te_iret rfl rfl ⟨hI, f0, _, rfl, trivial⟩
      · subst w6
        have cc6_1 := (show Int32.toInt 0 = 0 from rfl)
        have cc6_2 := (show Int32.toInt 2000 = 2000 from rfl)
        refine tz_ne (p2 := 36) rfl rfl (show Int32.toInt 0 = 0 from rfl) (fun c17 => absurd c17 (by omega)) (fun c17 => ?_)
        refine te_bipush (p2 := 38) (x := (-2)) rfl rfl (by decide) ?_
        exact te_iret rfl rfl ⟨hI, f0, _, rfl, trivial⟩
    · subst w4
      refine tz_ne (p2 := 23) rfl rfl (show Int32.toInt 0 = 0 from rfl) (fun c18 => absurd c18 (by omega)) (fun c18 => ?_)
      refine te_iconst (p2 := 24) (x := (-1)) rfl rfl (by decide) ?_
      exact te_iret rfl rfl ⟨hI, f0, _, rfl, trivial⟩
  · subst w1
    have cc1_1 := (show Int32.toInt 12 = 12 from rfl)
    refine tz_eq (p2 := 9) rfl rfl (show Int32.toInt 0 = 0 from rfl) (fun c19 => ?_) (fun c19 => absurd c19 (by omega))
    refine te_iconst (p2 := 24) (x := (-1)) rfl rfl (by decide) ?_
    exact te_iret rfl rfl ⟨hI, f0, _, rfl, trivial⟩
abbrev F_X12_paper : List (Nat × Nat × Nat) := [(148, 35, 35), (178, 0, 23), (179, 0, 23), (180, 0, 23), (181, 0, 23)]
set_option maxRecDepth 20000 in
set_option maxHeartbeats 4000000 in
theorem t_X12_paper {x1 : Int32} {x2 : Int32} {x3 : Int32} {h : im_H} (hI : tI h)  : CaP 8 182 [.ref 164, .int x1, .int x2, .int x3] h (mI h F_X12_paper (fun _ => True)) := by
  refine cap_of (d := 7) (M := mX12_paper) rfl (Nat.le_of_ble_eq_true rfl) ?_
  show EvP im_K0 7 mX12_paper (0, [(0, .ref 164), (1, .int x1), (2, .int x2), (3, .int x3)], [], h) _
  have f0 : fr F_X12_paper h h := fr_rf
  refine te_iload_n (p2 := 1) rfl rfl rfl ?_
  refine te_iconst (p2 := 2) (x := 0) rfl rfl (by decide) ?_
  refine te_bipush (p2 := 4) (x := 11) rfl rfl (by decide) ?_
  refine cS_pI (p2 := 7) rfl rfl rfl rfl (t_X12_in (n := x1) (a := 0) (b := 11) hI ) (by decide) (fun y1 r1 => ?_)
  rcases r1 with ⟨w1, c1⟩ | ⟨w1, c1⟩
  · subst w1
    have cc1_1 := (show Int32.toInt 0 = 0 from rfl)
    have cc1_2 := (show Int32.toInt 11 = 11 from rfl)
    refine tz_eq (p2 := 10) rfl rfl (show Int32.toInt 1 = 1 from rfl) (fun c2 => absurd c2 (by omega)) (fun c2 => ?_)
    refine te_aload_n (p2 := 11) rfl rfl rfl ?_
    refine te_iload_n (p2 := 12) rfl rfl rfl ?_
    refine cV_pI (p2 := 15) (i := 148) rfl rfl rfl rfl hI rfl rfl rfl (t_X12_isPerson (k := x2) hI) (by decide) (fun y3 r3 => ?_)
    obtain ⟨p3, e3, a3, b3, r3⟩ := r3
    rcases r3 with ⟨w3, c3⟩ | ⟨w3, c3⟩
    · subst w3
      refine tz_ne (p2 := 18) rfl rfl (show Int32.toInt 1 = 1 from rfl) (fun c4 => ?_) (fun c4 => absurd c4 (by omega))
      refine te_iload_n (p2 := 21) rfl rfl rfl ?_
      refine te_iconst (p2 := 22) (x := 0) rfl rfl (by decide) ?_
      refine te_sipush (p2 := 25) (x := 2000) rfl rfl (by decide) ?_
      refine cS_pI (p2 := 28) rfl rfl rfl rfl (t_X12_in (n := x3) (a := 0) (b := 2000) hI ) (by decide) (fun y5 r5 => ?_)
      rcases r5 with ⟨w5, c5⟩ | ⟨w5, c5⟩
      · subst w5
        have cc5_1 := (show Int32.toInt 0 = 0 from rfl)
        have cc5_2 := (show Int32.toInt 2000 = 2000 from rfl)
        refine tz_ne (p2 := 31) rfl rfl (show Int32.toInt 1 = 1 from rfl) (fun c6 => ?_) (fun c6 => absurd c6 (by omega))
        refine te_aload_n (p2 := 35) rfl rfl rfl ?_
        refine tg_i (p2 := 38) (i := 148) rfl rfl hI rfl rfl rfl (fun y7 a7 b7 e7 => ?_)
        refine te_bipush (p2 := 40) (x := 24) rfl rfl (by decide) ?_
        refine tb_ne (p2 := 43) rfl rfl rfl (show Int32.toInt 24 = 24 from rfl) (fun c8 => ?_) (fun c8 => ?_)
        · refine te_aload_n (p2 := 47) rfl rfl rfl ?_
          refine tg_r (p2 := 50) (i := 148) (r := 194) rfl rfl hI rfl rfl rfl ?_
          refine te_aload_n (p2 := 51) rfl rfl rfl ?_
          refine tg_e (p2 := 54) (i := 148) (v := .int y7) rfl rfl hI rfl rfl e7 ?_
          refine te_iload_n (p2 := 55) rfl rfl rfl ?_
          refine ts_i (p2 := 56) (i := 178) (n := 24) rfl rfl hI rfl rfl rfl rfl (by omega) (by omega) (i32_lo _) (i32_hi _) (i32_ho _) rfl (fun h9 I9 u9 => ?_)
          have f9 := fr_st (F := F_X12_paper) 1 f0 u9 rfl (by omega) (by omega)
          refine te_aload_n (p2 := 57) rfl rfl rfl ?_
          refine tg_r (p2 := 60) (i := 148) (r := 195) rfl rfl I9 rfl rfl rfl ?_
          refine te_aload_n (p2 := 61) rfl rfl rfl ?_
          refine tg_e (p2 := 64) (i := 148) (v := .int y7) rfl rfl I9 rfl rfl ((u9.2 _ _ (Or.inl (by decide))).trans e7) ?_
          refine te_iload_n (p2 := 65) rfl rfl rfl ?_
          refine ts_i (p2 := 66) (i := 179) (n := 24) rfl rfl I9 rfl rfl rfl rfl (by omega) (by omega) (i32_lo _) (i32_hi _) (i32_ho _) rfl (fun h10 I10 u10 => ?_)
          have f10 := fr_st (F := F_X12_paper) 2 f9 u10 rfl (by omega) (by omega)
          refine te_aload_n (p2 := 67) rfl rfl rfl ?_
          refine tg_r (p2 := 70) (i := 148) (r := 196) rfl rfl I10 rfl rfl rfl ?_
          refine te_aload_n (p2 := 71) rfl rfl rfl ?_
          refine tg_e (p2 := 74) (i := 148) (v := .int y7) rfl rfl I10 rfl rfl ((u10.2 _ _ (Or.inl (by decide))).trans ((u9.2 _ _ (Or.inl (by decide))).trans e7)) ?_
          refine te_iload_n (p2 := 75) rfl rfl rfl ?_
          refine ts_i (p2 := 76) (i := 180) (n := 24) rfl rfl I10 rfl rfl rfl rfl (by omega) (by omega) (i32_lo _) (i32_hi _) (i32_ho _) rfl (fun h11 I11 u11 => ?_)
          have f11 := fr_st (F := F_X12_paper) 3 f10 u11 rfl (by omega) (by omega)
          refine te_aload_n (p2 := 77) rfl rfl rfl ?_
          refine tg_r (p2 := 80) (i := 148) (r := 197) rfl rfl I11 rfl rfl rfl ?_
          refine te_aload_n (p2 := 81) rfl rfl rfl ?_
          refine tg_e (p2 := 84) (i := 148) (v := .int y7) rfl rfl I11 rfl rfl ((u11.2 _ _ (Or.inl (by decide))).trans ((u10.2 _ _ (Or.inl (by decide))).trans ((u9.2 _ _ (Or.inl (by decide))).trans e7))) ?_
          refine te_aload_n (p2 := 85) rfl rfl rfl ?_
          refine tg_r (p2 := 88) (i := 148) (r := 165) rfl rfl I11 rfl rfl rfl ?_
          refine te_bipush (p2 := 90) (x := 105) rfl rfl (by decide) ?_
          refine tl_i (p2 := 91) (i := 149) (n := 283) rfl rfl I11 rfl rfl rfl rfl (by decide) (by decide) (fun y12 a12 b12 g12 e12 => ?_)
          refine ts_i (p2 := 92) (i := 181) (n := 24) rfl rfl I11 rfl rfl rfl rfl (by omega) (by omega) (i32_lo _) (i32_hi _) (i32_ho _) rfl (fun h13 I13 u13 => ?_)
          have f13 := fr_st (F := F_X12_paper) 4 f11 u13 rfl (by omega) (by omega)
          refine te_aload_n (p2 := 93) rfl rfl rfl ?_
          refine te_dup (p2 := 94) rfl rfl rfl ?_
          refine tg_e (p2 := 97) (i := 148) (v := .int y7) rfl rfl I13 rfl rfl ((u13.2 _ _ (Or.inl (by decide))).trans ((u11.2 _ _ (Or.inl (by decide))).trans ((u10.2 _ _ (Or.inl (by decide))).trans ((u9.2 _ _ (Or.inl (by decide))).trans e7)))) ?_
          refine te_iconst (p2 := 98) (x := 1) rfl rfl (by decide) ?_
          refine ar_add (p2 := 99) rfl rfl rfl (show Int32.toInt 1 = 1 from rfl) (by omega) (by omega) (fun z14 e14 f14 => ?_)
          refine tp_i (p2 := 102) (i := 148) rfl rfl I13 rfl rfl (by decide) rfl rfl rfl (by omega) (by omega) (by omega) rfl (fun h15 I15 u15 => ?_)
          have f15 := fr_st (F := F_X12_paper) 0 f13 u15 rfl (by decide) (by decide)
          refine te_aload_n (p2 := 103) rfl rfl rfl ?_
          refine tg_e (p2 := 106) (i := 148) (v := .int z14) rfl rfl I15 rfl rfl u15.1 ?_
          refine te_iconst (p2 := 107) (x := 1) rfl rfl (by decide) ?_
          refine ar_sub (p2 := 108) rfl rfl rfl (show Int32.toInt 1 = 1 from rfl) (by omega) (by omega) (fun z16 e16 f16 => ?_)
          exact te_iret rfl rfl ⟨I15, f15, _, rfl, trivial⟩
        · refine te_bipush (p2 := 45) (x := (-4)) rfl rfl (by decide) ?_
          exact te_iret rfl rfl ⟨hI, f0, _, rfl, trivial⟩
      · subst w5
        have cc5_1 := (show Int32.toInt 0 = 0 from rfl)
        have cc5_2 := (show Int32.toInt 2000 = 2000 from rfl)
        refine tz_ne (p2 := 31) rfl rfl (show Int32.toInt 0 = 0 from rfl) (fun c17 => absurd c17 (by omega)) (fun c17 => ?_)
        refine te_bipush (p2 := 33) (x := (-2)) rfl rfl (by decide) ?_
        exact te_iret rfl rfl ⟨hI, f0, _, rfl, trivial⟩
    · subst w3
      refine tz_ne (p2 := 18) rfl rfl (show Int32.toInt 0 = 0 from rfl) (fun c18 => absurd c18 (by omega)) (fun c18 => ?_)
      refine te_iconst (p2 := 19) (x := (-1)) rfl rfl (by decide) ?_
      exact te_iret rfl rfl ⟨hI, f0, _, rfl, trivial⟩
  · subst w1
    have cc1_1 := (show Int32.toInt 0 = 0 from rfl)
    have cc1_2 := (show Int32.toInt 11 = 11 from rfl)
    refine tz_eq (p2 := 10) rfl rfl (show Int32.toInt 0 = 0 from rfl) (fun c19 => ?_) (fun c19 => absurd c19 (by omega))
    refine te_iconst (p2 := 19) (x := (-1)) rfl rfl (by decide) ?_
    exact te_iret rfl rfl ⟨hI, f0, _, rfl, trivial⟩
abbrev F_X11_burn : List (Nat × Nat × Nat) := [(96, 0, 23)]
set_option maxRecDepth 20000 in
set_option maxHeartbeats 4000000 in
theorem t_X11_burn {x1 : Int32} {h : im_H} (hI : tI h)  : CaP 8 97 [.ref 16, .int x1] h (mI h F_X11_burn (fun _ => True)) := by
  refine cap_of (d := 7) (M := mX11_burn) rfl (Nat.le_of_ble_eq_true rfl) ?_
  show EvP im_K0 7 mX11_burn (0, [(0, .ref 16), (1, .int x1)], [], h) _
  have f0 : fr F_X11_burn h h := fr_rf
  refine te_iload_n (p2 := 1) rfl rfl rfl ?_
  refine te_aload_n (p2 := 2) rfl rfl rfl ?_
  refine tg_r (p2 := 5) (i := 0) (r := 107) rfl rfl hI rfl rfl rfl ?_
  refine tg_i (p2 := 8) (i := 91) rfl rfl hI rfl rfl rfl (fun y1 a1 b1 e1 => ?_)
  refine cS_pI (p2 := 11) rfl rfl rfl rfl (t_X11_within (n := x1) (b := y1) hI ) (by decide) (fun y2 r2 => ?_)
  rcases r2 with ⟨w2, c2⟩ | ⟨w2, c2⟩
  · subst w2
    refine tz_ne (p2 := 14) rfl rfl (show Int32.toInt 1 = 1 from rfl) (fun c3 => ?_) (fun c3 => absurd c3 (by omega))
    refine te_aload_n (p2 := 17) rfl rfl rfl ?_
    refine tg_r (p2 := 20) (i := 0) (r := 107) rfl rfl hI rfl rfl rfl ?_
    refine tg_r (p2 := 23) (i := 91) (r := 112) rfl rfl hI rfl rfl rfl ?_
    refine te_iload_n (p2 := 24) rfl rfl rfl ?_
    refine tl_i (p2 := 25) (i := 96) (n := 24) rfl rfl hI rfl rfl rfl rfl (by omega) (by omega) (fun y4 a4 b4 g4 e4 => ?_)
    refine te_iconst (p2 := 26) (x := (-1)) rfl rfl (by decide) ?_
    refine tb_eq (p2 := 29) rfl rfl rfl (show Int32.toInt (-1) = (-1) from rfl) (fun c5 => ?_) (fun c5 => ?_)
    · refine te_aload_n (p2 := 33) rfl rfl rfl ?_
      refine tg_r (p2 := 36) (i := 0) (r := 107) rfl rfl hI rfl rfl rfl ?_
      refine tg_r (p2 := 39) (i := 91) (r := 112) rfl rfl hI rfl rfl rfl ?_
      refine te_iload_n (p2 := 40) rfl rfl rfl ?_
      refine te_aload_n (p2 := 41) rfl rfl rfl ?_
      refine tg_r (p2 := 44) (i := 0) (r := 39) rfl rfl hI rfl rfl rfl ?_
      refine tg_i (p2 := 47) (i := 23) rfl rfl hI rfl rfl rfl (fun y6 a6 b6 e6 => ?_)
      refine ts_i (p2 := 48) (i := 96) (n := 24) rfl rfl hI rfl rfl rfl rfl (by omega) (by omega) (i32_lo _) (i32_hi _) (i32_ho _) rfl (fun h7 I7 u7 => ?_)
      have f7 := fr_st (F := F_X11_burn) 0 f0 u7 rfl (by omega) (by omega)
      refine te_iconst (p2 := 49) (x := 1) rfl rfl (by decide) ?_
      exact te_iret rfl rfl ⟨I7, f7, _, rfl, trivial⟩
    · refine te_bipush (p2 := 31) (x := (-3)) rfl rfl (by decide) ?_
      exact te_iret rfl rfl ⟨hI, f0, _, rfl, trivial⟩
  · subst w2
    refine tz_ne (p2 := 14) rfl rfl (show Int32.toInt 0 = 0 from rfl) (fun c8 => absurd c8 (by omega)) (fun c8 => ?_)
    refine te_iconst (p2 := 15) (x := (-1)) rfl rfl (by decide) ?_
    exact te_iret rfl rfl ⟨hI, f0, _, rfl, trivial⟩
abbrev F_X12_burn : List (Nat × Nat × Nat) := [(182, 0, 23)]
set_option maxRecDepth 20000 in
set_option maxHeartbeats 4000000 in
theorem t_X12_burn {x1 : Int32} {h : im_H} (hI : tI h)  : CaP 8 183 [.ref 164, .int x1] h (mI h F_X12_burn (fun _ => True)) := by
  refine cap_of (d := 7) (M := mX12_burn) rfl (Nat.le_of_ble_eq_true rfl) ?_
  show EvP im_K0 7 mX12_burn (0, [(0, .ref 164), (1, .int x1)], [], h) _
  have f0 : fr F_X12_burn h h := fr_rf
  refine te_iload_n (p2 := 1) rfl rfl rfl ?_
  refine te_iconst (p2 := 2) (x := 0) rfl rfl (by decide) ?_
  refine te_aload_n (p2 := 3) rfl rfl rfl ?_
  refine tg_i (p2 := 6) (i := 148) rfl rfl hI rfl rfl rfl (fun y1 a1 b1 e1 => ?_)
  refine te_iconst (p2 := 7) (x := 1) rfl rfl (by decide) ?_
  refine ar_sub (p2 := 8) rfl rfl rfl (show Int32.toInt 1 = 1 from rfl) (by omega) (by omega) (fun z2 e2 f2 => ?_)
  refine cS_pI (p2 := 11) rfl rfl rfl rfl (t_X12_in (n := x1) (a := 0) (b := z2) hI ) (by decide) (fun y3 r3 => ?_)
  rcases r3 with ⟨w3, c3⟩ | ⟨w3, c3⟩
  · subst w3
    have cc3_1 := (show Int32.toInt 0 = 0 from rfl)
    refine tz_ne (p2 := 14) rfl rfl (show Int32.toInt 1 = 1 from rfl) (fun c4 => ?_) (fun c4 => absurd c4 (by omega))
    refine te_aload_n (p2 := 17) rfl rfl rfl ?_
    refine tg_r (p2 := 20) (i := 148) (r := 198) rfl rfl hI rfl rfl rfl ?_
    refine te_iload_n (p2 := 21) rfl rfl rfl ?_
    refine tl_i (p2 := 22) (i := 182) (n := 24) rfl rfl hI rfl rfl rfl rfl (by omega) (by omega) (fun y5 a5 b5 g5 e5 => ?_)
    refine te_iconst (p2 := 23) (x := (-1)) rfl rfl (by decide) ?_
    refine tb_eq (p2 := 26) rfl rfl rfl (show Int32.toInt (-1) = (-1) from rfl) (fun c6 => ?_) (fun c6 => ?_)
    · refine te_aload_n (p2 := 30) rfl rfl rfl ?_
      refine tg_r (p2 := 33) (i := 148) (r := 198) rfl rfl hI rfl rfl rfl ?_
      refine te_iload_n (p2 := 34) rfl rfl rfl ?_
      refine te_aload_n (p2 := 35) rfl rfl rfl ?_
      refine tg_r (p2 := 38) (i := 148) (r := 165) rfl rfl hI rfl rfl rfl ?_
      refine te_bipush (p2 := 40) (x := 105) rfl rfl (by decide) ?_
      refine tl_i (p2 := 41) (i := 149) (n := 283) rfl rfl hI rfl rfl rfl rfl (by decide) (by decide) (fun y7 a7 b7 g7 e7 => ?_)
      refine ts_i (p2 := 42) (i := 182) (n := 24) rfl rfl hI rfl rfl rfl rfl (by omega) (by omega) (i32_lo _) (i32_hi _) (i32_ho _) rfl (fun h8 I8 u8 => ?_)
      have f8 := fr_st (F := F_X12_burn) 0 f0 u8 rfl (by omega) (by omega)
      refine te_iconst (p2 := 43) (x := 1) rfl rfl (by decide) ?_
      exact te_iret rfl rfl ⟨I8, f8, _, rfl, trivial⟩
    · refine te_bipush (p2 := 28) (x := (-3)) rfl rfl (by decide) ?_
      exact te_iret rfl rfl ⟨hI, f0, _, rfl, trivial⟩
  · subst w3
    have cc3_1 := (show Int32.toInt 0 = 0 from rfl)
    refine tz_ne (p2 := 14) rfl rfl (show Int32.toInt 0 = 0 from rfl) (fun c9 => absurd c9 (by omega)) (fun c9 => ?_)
    refine te_iconst (p2 := 15) (x := (-1)) rfl rfl (by decide) ?_
    exact te_iret rfl rfl ⟨hI, f0, _, rfl, trivial⟩
end
