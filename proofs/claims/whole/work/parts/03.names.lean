abbrev rB : String := "BlockRows$Block"
def fB : u_T := fun k => match k with
  | 0 => ("BlockRows$Block", "words", "[I", true)
  | 1 => ("BlockRows$Block", "begin", "I", false)
  | 2 => ("BlockRows$Block", "wordCount", "I", false)
  | _ => ("BlockRows$Block", "byteCount", "I", false)
def tB : Nat → FieldType := fun k => match k with
  | 0 => .array .int
  | 1 => .int
  | 2 => .int
  | _ => .int
theorem nB : ∀ a, a < 4 → ∀ b, b < 4 → a ≠ b → (fB a).2.1 ≠ (fB b).2.1 := by decide +kernel
theorem tB_ok : ∀ k, k < 4 → parseFieldDescriptor (fB k).2.2.1 = some (tB k) := by decide +kernel
abbrev rX : String := "BlockRows"
def fX : u_T := fun k => match k with
  | 0 => ("BlockRows", "bytes", "[I", true)
  | 1 => ("BlockRows", "registers", "[I", true)
  | 2 => ("BlockRows", "blocks", "[LBlockRows$Block;", true)
  | 3 => ("BlockRows", "place", "I", false)
  | 4 => ("BlockRows", "state", "I", false)
  | 5 => ("BlockRows", "flagged", "I", false)
  | 6 => ("BlockRows", "steps", "I", false)
  | 7 => ("BlockRows", "made", "I", false)
  | 8 => ("BlockRows", "hits", "I", false)
  | 9 => ("BlockRows", "thrownOut", "I", false)
  | 10 => ("BlockRows", "stored", "I", false)
  | _ => ("BlockRows", "decoded", "I", false)
def tX : Nat → FieldType := fun k => match k with
  | 0 => .array .int
  | 1 => .array .int
  | 2 => .array (.object "BlockRows$Block")
  | 3 => .int
  | 4 => .int
  | 5 => .int
  | 6 => .int
  | 7 => .int
  | 8 => .int
  | 9 => .int
  | 10 => .int
  | _ => .int
theorem nX : ∀ a, a < 12 → ∀ b, b < 12 → a ≠ b → (fX a).2.1 ≠ (fX b).2.1 := by decide +kernel
theorem tX_ok : ∀ k, k < 12 → parseFieldDescriptor (fX k).2.2.1 = some (tX k) := by decide +kernel
abbrev rM : String := "BlockRowsModel"
def fM : u_T := fun k => match k with
  | 0 => ("BlockRowsModel", "thrown", "I", false)
  | 1 => ("BlockRowsModel", "memory", "[I", true)
  | 2 => ("BlockRowsModel", "registers", "[I", true)
  | 3 => ("BlockRowsModel", "place", "I", false)
  | 4 => ("BlockRowsModel", "state", "I", false)
  | 5 => ("BlockRowsModel", "zero", "Z", false)
  | 6 => ("BlockRowsModel", "less", "Z", false)
  | 7 => ("BlockRowsModel", "kept", "[Z", true)
  | 8 => ("BlockRowsModel", "places", "[I", true)
  | 9 => ("BlockRowsModel", "words", "[I", true)
  | 10 => ("BlockRowsModel", "bytes", "[I", true)
  | 11 => ("BlockRowsModel", "current", "I", false)
  | 12 => ("BlockRowsModel", "isWritten", "Z", false)
  | 13 => ("BlockRowsModel", "steps", "I", false)
  | 14 => ("BlockRowsModel", "made", "I", false)
  | 15 => ("BlockRowsModel", "hits", "I", false)
  | 16 => ("BlockRowsModel", "out", "I", false)
  | 17 => ("BlockRowsModel", "stored", "I", false)
  | _ => ("BlockRowsModel", "decoded", "I", false)
def tM : Nat → FieldType := fun k => match k with
  | 0 => .int
  | 1 => .array .int
  | 2 => .array .int
  | 3 => .int
  | 4 => .int
  | 5 => .boolean
  | 6 => .boolean
  | 7 => .array .boolean
  | 8 => .array .int
  | 9 => .array .int
  | 10 => .array .int
  | 11 => .int
  | 12 => .boolean
  | 13 => .int
  | 14 => .int
  | 15 => .int
  | 16 => .int
  | 17 => .int
  | _ => .int
theorem nM : ∀ a, a < 19 → ∀ b, b < 19 → a ≠ b → (fM a).2.1 ≠ (fM b).2.1 := by decide +kernel
theorem tM_ok : ∀ k, k < 19 → parseFieldDescriptor (fM k).2.2.1 = some (tM k) := by decide +kernel
abbrev rL : String := "BlockRowsLaw"
abbrev vCl : List vw_C := [(rB, fB, 4), (rX, fX, 12), (rM, fM, 19)]
abbrev c_X_init : ByteArray := prog_1_method_1_code
abbrev y_X_init : MethodName := ⟨"BlockRows", "<init>", "()V"⟩
abbrev c_B_init : ByteArray := prog_2_method_1_code
abbrev y_B_init : MethodName := ⟨"BlockRows$Block", "<init>", "()V"⟩
abbrev c_X_forget : ByteArray := prog_1_method_10_code
abbrev y_X_forget : MethodName := ⟨"BlockRows", "forget", "()I"⟩
abbrev c_B_isKept : ByteArray := prog_2_method_2_code
abbrev y_B_isKept : MethodName := ⟨"BlockRows$Block", "isKept", "()Z"⟩
abbrev c_X_throwOut : ByteArray := prog_1_method_16_code
abbrev y_X_throwOut : MethodName := ⟨"BlockRows", "throwOut", "(LBlockRows$Block;)V"⟩
abbrev c_B_empty : ByteArray := prog_2_method_5_code
abbrev y_B_empty : MethodName := ⟨"BlockRows$Block", "empty", "(I)V"⟩
abbrev c_X_count : ByteArray := prog_1_method_11_code
abbrev y_X_count : MethodName := ⟨"BlockRows", "count", "(I)I"⟩
abbrev c_X_keptNow : ByteArray := prog_1_method_15_code
abbrev y_X_keptNow : MethodName := ⟨"BlockRows", "keptNow", "()I"⟩
abbrev c_L_poke : ByteArray := method_3_code
abbrev y_L_poke : MethodName := ⟨"BlockRowsLaw", "poke", "(LBlockRows;II[J)I"⟩
abbrev c_X_poke : ByteArray := prog_1_method_2_code
abbrev y_X_poke : MethodName := ⟨"BlockRows", "poke", "(II)I"⟩
abbrev c_X_inMemory : ByteArray := prog_1_method_12_code
abbrev y_X_inMemory : MethodName := ⟨"BlockRows", "inMemory", "(I)Z"⟩
abbrev c_X_write : ByteArray := prog_1_method_17_code
abbrev y_X_write : MethodName := ⟨"BlockRows", "write", "(II)V"⟩
abbrev c_B_hasByte : ByteArray := prog_2_method_4_code
abbrev y_B_hasByte : MethodName := ⟨"BlockRows$Block", "hasByte", "(I)Z"⟩
abbrev c_L_pokeFour : ByteArray := method_4_code
abbrev y_L_pokeFour : MethodName := ⟨"BlockRowsLaw", "pokeFour", "(LBlockRows;II[J)I"⟩
abbrev c_X_pokeFour : ByteArray := prog_1_method_3_code
abbrev y_X_pokeFour : MethodName := ⟨"BlockRows", "pokeFour", "(II)I"⟩
abbrev c_L_set : ByteArray := method_5_code
abbrev y_L_set : MethodName := ⟨"BlockRowsLaw", "set", "(LBlockRows;II[J)I"⟩
abbrev c_X_set : ByteArray := prog_1_method_4_code
abbrev y_X_set : MethodName := ⟨"BlockRows", "set", "(II)I"⟩
abbrev c_L_go : ByteArray := method_6_code
abbrev y_L_go : MethodName := ⟨"BlockRowsLaw", "go", "(LBlockRows;I[J)I"⟩
abbrev c_X_go : ByteArray := prog_1_method_5_code
abbrev y_X_go : MethodName := ⟨"BlockRows", "go", "(I)I"⟩
abbrev c_L_run : ByteArray := method_7_code
abbrev y_L_run : MethodName := ⟨"BlockRowsLaw", "run", "(LBlockRows;I[J)I"⟩
abbrev c_X_run : ByteArray := prog_1_method_6_code
abbrev y_X_run : MethodName := ⟨"BlockRows", "run", "(I)I"⟩
abbrev c_X_doBlock : ByteArray := prog_1_method_18_code
abbrev y_X_doBlock : MethodName := ⟨"BlockRows", "doBlock", "(I)I"⟩
abbrev c_X_blockAt : ByteArray := prog_1_method_19_code
abbrev y_X_blockAt : MethodName := ⟨"BlockRows", "blockAt", "(I)LBlockRows$Block;"⟩
abbrev c_B_beginsAt : ByteArray := prog_2_method_3_code
abbrev y_B_beginsAt : MethodName := ⟨"BlockRows$Block", "beginsAt", "(I)Z"⟩
abbrev c_X_decode : ByteArray := prog_1_method_20_code
abbrev y_X_decode : MethodName := ⟨"BlockRows", "decode", "(LBlockRows$Block;I)V"⟩
abbrev c_X_wordAt : ByteArray := prog_1_method_21_code
abbrev y_X_wordAt : MethodName := ⟨"BlockRows", "wordAt", "(I)I"⟩
abbrev c_X_lengthOf : ByteArray := prog_1_method_23_code
abbrev y_X_lengthOf : MethodName := ⟨"BlockRows", "lengthOf", "(I)I"⟩
abbrev c_X_bytesOfOutside : ByteArray := prog_1_method_22_code
abbrev y_X_bytesOfOutside : MethodName := ⟨"BlockRows", "bytesOfOutside", "(I)I"⟩
abbrev c_X_endsBlock : ByteArray := prog_1_method_24_code
abbrev y_X_endsBlock : MethodName := ⟨"BlockRows", "endsBlock", "(I)Z"⟩
abbrev c_X_doWord : ByteArray := prog_1_method_25_code
abbrev y_X_doWord : MethodName := ⟨"BlockRows", "doWord", "(I)Z"⟩
abbrev c_X_stateBefore : ByteArray := prog_1_method_26_code
abbrev y_X_stateBefore : MethodName := ⟨"BlockRows", "stateBefore", "(II)I"⟩
abbrev c_X_perform : ByteArray := prog_1_method_27_code
abbrev y_X_perform : MethodName := ⟨"BlockRows", "perform", "(III)V"⟩
abbrev c_X_belowZeroToo : ByteArray := prog_1_method_30_code
abbrev y_X_belowZeroToo : MethodName := ⟨"BlockRows", "belowZeroToo", "(I)I"⟩
abbrev c_X_holds : ByteArray := prog_1_method_29_code
abbrev y_X_holds : MethodName := ⟨"BlockRows", "holds", "(I)Z"⟩
abbrev c_X_isZero : ByteArray := prog_1_method_13_code
abbrev y_X_isZero : MethodName := ⟨"BlockRows", "isZero", "()Z"⟩
abbrev c_X_isBelow : ByteArray := prog_1_method_14_code
abbrev y_X_isBelow : MethodName := ⟨"BlockRows", "isBelow", "()Z"⟩
abbrev c_X_worked : ByteArray := prog_1_method_28_code
abbrev y_X_worked : MethodName := ⟨"BlockRows", "worked", "(III)I"⟩
abbrev c_L_memory : ByteArray := method_8_code
abbrev y_L_memory : MethodName := ⟨"BlockRowsLaw", "memory", "(LBlockRows;I[J)I"⟩
abbrev c_X_memory : ByteArray := prog_1_method_7_code
abbrev y_X_memory : MethodName := ⟨"BlockRows", "memory", "(I)I"⟩
abbrev c_L_register : ByteArray := method_9_code
abbrev y_L_register : MethodName := ⟨"BlockRowsLaw", "register", "(LBlockRows;I[J)I"⟩
abbrev c_X_register : ByteArray := prog_1_method_8_code
abbrev y_X_register : MethodName := ⟨"BlockRows", "register", "(I)I"⟩
abbrev c_L_row : ByteArray := method_10_code
abbrev y_L_row : MethodName := ⟨"BlockRowsLaw", "row", "(LBlockRows;II[J)I"⟩
abbrev c_X_row : ByteArray := prog_1_method_9_code
abbrev y_X_row : MethodName := ⟨"BlockRows", "row", "(II)I"⟩
abbrev c_M_init : ByteArray := prog_4_method_1_code
abbrev y_M_init : MethodName := ⟨"BlockRowsModel", "<init>", "()V"⟩
abbrev c_M_thrown : ByteArray := prog_4_method_2_code
abbrev y_M_thrown : MethodName := ⟨"BlockRowsModel", "thrown", "()I"⟩
abbrev c_M_poke : ByteArray := prog_4_method_8_code
abbrev y_M_poke : MethodName := ⟨"BlockRowsModel", "poke", "(II)I"⟩
abbrev c_M_isThere : ByteArray := prog_4_method_5_code
abbrev y_M_isThere : MethodName := ⟨"BlockRowsModel", "isThere", "(I)Z"⟩
abbrev c_M_in : ByteArray := prog_4_method_4_code
abbrev y_M_in : MethodName := ⟨"BlockRowsModel", "in", "(III)Z"⟩
abbrev c_M_throwing : ByteArray := prog_4_method_3_code
abbrev y_M_throwing : MethodName := ⟨"BlockRowsModel", "throwing", "(ZZ)Z"⟩
abbrev c_M_write : ByteArray := prog_4_method_7_code
abbrev y_M_write : MethodName := ⟨"BlockRowsModel", "write", "(II)V"⟩
abbrev c_M_throwOut : ByteArray := prog_4_method_6_code
abbrev y_M_throwOut : MethodName := ⟨"BlockRowsModel", "throwOut", "(I)V"⟩
abbrev c_M_pokeFour : ByteArray := prog_4_method_9_code
abbrev y_M_pokeFour : MethodName := ⟨"BlockRowsModel", "pokeFour", "(II)I"⟩
abbrev c_M_set : ByteArray := prog_4_method_10_code
abbrev y_M_set : MethodName := ⟨"BlockRowsModel", "set", "(II)I"⟩
abbrev c_M_go : ByteArray := prog_4_method_11_code
abbrev y_M_go : MethodName := ⟨"BlockRowsModel", "go", "(I)I"⟩
abbrev c_M_run : ByteArray := prog_4_method_22_code
abbrev y_M_run : MethodName := ⟨"BlockRowsModel", "run", "(I)I"⟩
abbrev c_M_find : ByteArray := prog_4_method_16_code
abbrev y_M_find : MethodName := ⟨"BlockRowsModel", "find", "()V"⟩
abbrev c_M_make : ByteArray := prog_4_method_15_code
abbrev y_M_make : MethodName := ⟨"BlockRowsModel", "make", "(I)V"⟩
abbrev c_M_kindAt : ByteArray := prog_4_method_13_code
abbrev y_M_kindAt : MethodName := ⟨"BlockRowsModel", "kindAt", "(I)I"⟩
abbrev c_M_faultAt : ByteArray := prog_4_method_14_code
abbrev y_M_faultAt : MethodName := ⟨"BlockRowsModel", "faultAt", "(I)I"⟩
abbrev c_M_sizeOf : ByteArray := prog_4_method_12_code
abbrev y_M_sizeOf : MethodName := ⟨"BlockRowsModel", "sizeOf", "(I)I"⟩
abbrev c_M_does : ByteArray := prog_4_method_20_code
abbrev y_M_does : MethodName := ⟨"BlockRowsModel", "does", "()Z"⟩
abbrev c_M_fault : ByteArray := prog_4_method_19_code
abbrev y_M_fault : MethodName := ⟨"BlockRowsModel", "fault", "(I)V"⟩
abbrev c_M_holds : ByteArray := prog_4_method_18_code
abbrev y_M_holds : MethodName := ⟨"BlockRowsModel", "holds", "(I)Z"⟩
abbrev c_M_work : ByteArray := prog_4_method_21_code
abbrev y_M_work : MethodName := ⟨"BlockRowsModel", "work", "(IIII)V"⟩
abbrev c_M_become : ByteArray := prog_4_method_17_code
abbrev y_M_become : MethodName := ⟨"BlockRowsModel", "become", "(II)V"⟩
abbrev c_M_memory : ByteArray := prog_4_method_23_code
abbrev y_M_memory : MethodName := ⟨"BlockRowsModel", "memory", "(I)I"⟩
abbrev c_M_register : ByteArray := prog_4_method_24_code
abbrev y_M_register : MethodName := ⟨"BlockRowsModel", "register", "(I)I"⟩
abbrev c_M_row : ByteArray := prog_4_method_25_code
abbrev y_M_row : MethodName := ⟨"BlockRowsModel", "row", "(II)I"⟩
abbrev c_M_forget : ByteArray := prog_4_method_26_code
abbrev y_M_forget : MethodName := ⟨"BlockRowsModel", "forget", "()I"⟩
abbrev c_M_count : ByteArray := prog_4_method_27_code
abbrev y_M_count : MethodName := ⟨"BlockRowsModel", "count", "(I)I"⟩
abbrev c_L_law : ByteArray := code
abbrev y_L_law : MethodName := ⟨"BlockRowsLaw", "law", "([I)Z"⟩
/-- the tables' words that stand for good -/
def tbW : List Cond := lw_tbl.filter goodWord
theorem tb_mem {w : Cond} (h : w ∈ lw_tbl) (hg : goodWord w = true) : w ∈ tbW := List.mem_filter.mpr ⟨h, hg⟩
theorem tb_t {w : Cond} (i : Nat) (h : tables_1[i]? = some w) (hg : goodWord w = true) : w ∈ tbW := tb_mem (List.mem_append_right _ (List.mem_of_getElem? h)) hg
theorem tb_s {w : Cond} (i : Nat) (h : (k2_sels lw_privs)[i]? = some w) (hg : goodWord w = true) : w ∈ tbW := tb_mem (List.mem_append_left _ (List.mem_of_getElem? h)) hg
theorem tb_r {w : Cond} (i : Nat) (h : tables_1[i]? = some w) : w ∈ lw_tbl := List.mem_append_right _ (List.mem_of_getElem? h)
theorem q_0 : (Jvm.Cond.initialized "BlockRowsLaw") ∈ tbW := tb_t 0 (by decide +kernel) rfl
theorem q_1 : (Jvm.Cond.initialized "BlockRows") ∈ tbW := tb_t 1 (by decide +kernel) rfl
theorem q_2 : (Jvm.Cond.initialized "BlockRows$Block") ∈ tbW := tb_t 2 (by decide +kernel) rfl
theorem q_3 : (Jvm.Cond.initialized "BlockRowsModel") ∈ tbW := tb_t 3 (by decide +kernel) rfl
theorem q_4 : (Jvm.Cond.initialized "java/lang/Throwable") ∈ tbW := tb_t 4 (by decide +kernel) rfl
theorem q_5 : (Jvm.Cond.initialized "java/lang/Exception") ∈ tbW := tb_t 5 (by decide +kernel) rfl
theorem q_6 : (Jvm.Cond.initialized "java/lang/RuntimeException") ∈ tbW := tb_t 6 (by decide +kernel) rfl
theorem q_7 : (Jvm.Cond.initialized "java/lang/IndexOutOfBoundsException") ∈ tbW := tb_t 7 (by decide +kernel) rfl
theorem q_8 : (Jvm.Cond.initialized "java/lang/IllegalArgumentException") ∈ tbW := tb_t 8 (by decide +kernel) rfl
theorem q_9 : (Jvm.Cond.initialized "java/lang/Math") ∈ tbW := tb_t 9 (by decide +kernel) rfl
theorem q_10 : (Jvm.Cond.classLink "BlockRowsLaw" (8 : Nat) "BlockRows") ∈ tbW := tb_t 10 (by decide +kernel) rfl
theorem q_11 : (Jvm.Cond.instantiable "BlockRows" (12 : Nat)) ∈ tbW := tb_t 11 (by decide +kernel) rfl
theorem q_12 : (Jvm.Cond.methodLink "BlockRowsLaw" (39 : Nat) ({ cls := "BlockRows", name := "<init>", desc := "()V" } : Jvm.MethodName)) ∈ tbW := tb_t 12 (by decide +kernel) rfl
theorem q_13 : (Jvm.Cond.instanceMethod ({ cls := "BlockRows", name := "<init>", desc := "()V" } : Jvm.MethodName)) ∈ tbW := tb_t 13 (by decide +kernel) rfl
theorem q_14 : (Cond.code y_X_init c_X_init 2 none) ∈ tbW := tb_t 14 rfl rfl
theorem q_15 : (Jvm.Cond.methodLink "BlockRows" (1 : Nat) ({ cls := "java/lang/Object", name := "<init>", desc := "()V" } : Jvm.MethodName)) ∈ tbW := tb_t 15 (by decide +kernel) rfl
theorem q_16 : (Jvm.Cond.instanceMethod ({ cls := "java/lang/Object", name := "<init>", desc := "()V" } : Jvm.MethodName)) ∈ tbW := tb_t 16 (by decide +kernel) rfl
theorem q_17 : (Jvm.Cond.code ({ cls := "java/lang/Object", name := "<init>", desc := "()V" } : Jvm.MethodName) object_method_1_code (1 : Nat) (Option.none : Option Jvm.ClassFile.FieldType)) ∈ tbW := tb_t 17 rfl rfl
theorem q_18 : (Jvm.Cond.classLink "BlockRows" (16 : Nat) "BlockRows$Block") ∈ tbW := tb_t 18 (by decide +kernel) rfl
theorem q_19 : (Jvm.Cond.arrayOver (Jvm.ClassFile.FieldType.object "BlockRows$Block")) ∈ lw_tbl := tb_r 19 (by decide +kernel)
theorem q_20 : (Jvm.Cond.instantiable "BlockRows$Block" (4 : Nat)) ∈ tbW := tb_t 20 (by decide +kernel) rfl
theorem q_21 : (Jvm.Cond.methodLinkNest "BlockRows" (32 : Nat) ({ cls := "BlockRows$Block", name := "<init>", desc := "()V" } : Jvm.MethodName) "BlockRows") ∈ lw_tbl := tb_r 21 (by decide +kernel)
theorem q_22 : (Jvm.Cond.instanceMethod ({ cls := "BlockRows$Block", name := "<init>", desc := "()V" } : Jvm.MethodName)) ∈ tbW := tb_t 22 (by decide +kernel) rfl
theorem q_23 : (Cond.code y_B_init c_B_init 1 none) ∈ tbW := tb_t 23 rfl rfl
theorem q_24 : (Jvm.Cond.methodLink "BlockRows$Block" (3 : Nat) ({ cls := "java/lang/Object", name := "<init>", desc := "()V" } : Jvm.MethodName)) ∈ tbW := tb_t 24 (by decide +kernel) rfl
theorem q_25 : (Jvm.Cond.fieldLink "BlockRows$Block" (9 : Nat) "BlockRows$Block" "words" "[I") ∈ tbW := tb_t 25 (by decide +kernel) rfl
theorem q_26 : (Jvm.Cond.fieldLinkNest "BlockRows" (127 : Nat) "BlockRows$Block" "words" "[I" "BlockRows") ∈ lw_tbl := tb_r 26 (by decide +kernel)
theorem q_27 : (Jvm.Cond.fieldLink "BlockRows$Block" (23 : Nat) "BlockRows$Block" "begin" "I") ∈ tbW := tb_t 27 (by decide +kernel) rfl
theorem q_28 : (Jvm.Cond.fieldLinkNest "BlockRows" (81 : Nat) "BlockRows$Block" "begin" "I" "BlockRows") ∈ lw_tbl := tb_r 28 (by decide +kernel)
theorem q_29 : (Jvm.Cond.fieldLink "BlockRows$Block" (15 : Nat) "BlockRows$Block" "wordCount" "I") ∈ tbW := tb_t 29 (by decide +kernel) rfl
theorem q_30 : (Jvm.Cond.fieldLinkNest "BlockRows" (84 : Nat) "BlockRows$Block" "wordCount" "I" "BlockRows") ∈ lw_tbl := tb_r 30 (by decide +kernel)
theorem q_31 : (Jvm.Cond.fieldLink "BlockRows$Block" (26 : Nat) "BlockRows$Block" "byteCount" "I") ∈ tbW := tb_t 31 (by decide +kernel) rfl
theorem q_32 : (Jvm.Cond.fieldLinkNest "BlockRows" (87 : Nat) "BlockRows$Block" "byteCount" "I" "BlockRows") ∈ lw_tbl := tb_r 32 (by decide +kernel)
theorem q_33 : (Jvm.Cond.laysFinal "BlockRows$Block" "BlockRows$Block" "words" "[I") ∈ tbW := tb_t 33 (by decide +kernel) rfl
theorem q_34 : (Jvm.Cond.soleField "BlockRows$Block" "words") ∈ tbW := tb_t 34 (by decide +kernel) rfl
theorem q_35 : (Jvm.Cond.lays "BlockRows$Block" "BlockRows$Block" "begin" "I") ∈ tbW := tb_t 35 (by decide +kernel) rfl
theorem q_36 : (Jvm.Cond.soleField "BlockRows$Block" "begin") ∈ tbW := tb_t 36 (by decide +kernel) rfl
theorem q_37 : (Jvm.Cond.lays "BlockRows$Block" "BlockRows$Block" "wordCount" "I") ∈ tbW := tb_t 37 (by decide +kernel) rfl
theorem q_38 : (Jvm.Cond.soleField "BlockRows$Block" "wordCount") ∈ tbW := tb_t 38 (by decide +kernel) rfl
theorem q_39 : (Jvm.Cond.lays "BlockRows$Block" "BlockRows$Block" "byteCount" "I") ∈ tbW := tb_t 39 (by decide +kernel) rfl
theorem q_40 : (Jvm.Cond.soleField "BlockRows$Block" "byteCount") ∈ tbW := tb_t 40 (by decide +kernel) rfl
theorem q_41 : (Jvm.Cond.superclass "BlockRows$Block" "java/lang/Object") ∈ tbW := tb_t 41 (by decide +kernel) rfl
theorem q_42 : (Jvm.Cond.arrayClass Jvm.ClassFile.FieldType.int) ∈ tbW := tb_t 42 (by decide +kernel) rfl
theorem q_43 : (Jvm.Cond.fieldLink "BlockRows" (9 : Nat) "BlockRows" "bytes" "[I") ∈ tbW := tb_t 43 (by decide +kernel) rfl
theorem q_44 : (Jvm.Cond.fieldLink "BlockRows" (13 : Nat) "BlockRows" "registers" "[I") ∈ tbW := tb_t 44 (by decide +kernel) rfl
theorem q_45 : (Jvm.Cond.fieldLink "BlockRows" (18 : Nat) "BlockRows" "blocks" "[LBlockRows$Block;") ∈ tbW := tb_t 45 (by decide +kernel) rfl
theorem q_46 : (Jvm.Cond.fieldLink "BlockRows" (22 : Nat) "BlockRows" "place" "I") ∈ tbW := tb_t 46 (by decide +kernel) rfl
theorem q_47 : (Jvm.Cond.fieldLink "BlockRows" (26 : Nat) "BlockRows" "state" "I") ∈ tbW := tb_t 47 (by decide +kernel) rfl
theorem q_48 : (Jvm.Cond.fieldLink "BlockRows" (29 : Nat) "BlockRows" "flagged" "I") ∈ tbW := tb_t 48 (by decide +kernel) rfl
theorem q_49 : (Jvm.Cond.fieldLink "BlockRows" (94 : Nat) "BlockRows" "steps" "I") ∈ tbW := tb_t 49 (by decide +kernel) rfl
theorem q_50 : (Jvm.Cond.fieldLink "BlockRows" (97 : Nat) "BlockRows" "made" "I") ∈ tbW := tb_t 50 (by decide +kernel) rfl
theorem q_51 : (Jvm.Cond.fieldLink "BlockRows" (100 : Nat) "BlockRows" "hits" "I") ∈ tbW := tb_t 51 (by decide +kernel) rfl
theorem q_52 : (Jvm.Cond.fieldLink "BlockRows" (103 : Nat) "BlockRows" "thrownOut" "I") ∈ tbW := tb_t 52 (by decide +kernel) rfl
theorem q_53 : (Jvm.Cond.fieldLink "BlockRows" (110 : Nat) "BlockRows" "stored" "I") ∈ tbW := tb_t 53 (by decide +kernel) rfl
theorem q_54 : (Jvm.Cond.fieldLink "BlockRows" (113 : Nat) "BlockRows" "decoded" "I") ∈ tbW := tb_t 54 (by decide +kernel) rfl
theorem q_55 : (Jvm.Cond.laysFinal "BlockRows" "BlockRows" "bytes" "[I") ∈ tbW := tb_t 55 (by decide +kernel) rfl
theorem q_56 : (Jvm.Cond.soleField "BlockRows" "bytes") ∈ tbW := tb_t 56 (by decide +kernel) rfl
theorem q_57 : (Jvm.Cond.laysFinal "BlockRows" "BlockRows" "registers" "[I") ∈ tbW := tb_t 57 (by decide +kernel) rfl
theorem q_58 : (Jvm.Cond.soleField "BlockRows" "registers") ∈ tbW := tb_t 58 (by decide +kernel) rfl
theorem q_59 : (Jvm.Cond.laysFinal "BlockRows" "BlockRows" "blocks" "[LBlockRows$Block;") ∈ tbW := tb_t 59 (by decide +kernel) rfl
theorem q_60 : (Jvm.Cond.soleField "BlockRows" "blocks") ∈ tbW := tb_t 60 (by decide +kernel) rfl
theorem q_61 : (Jvm.Cond.lays "BlockRows" "BlockRows" "place" "I") ∈ tbW := tb_t 61 (by decide +kernel) rfl
theorem q_62 : (Jvm.Cond.soleField "BlockRows" "place") ∈ tbW := tb_t 62 (by decide +kernel) rfl
theorem q_63 : (Jvm.Cond.lays "BlockRows" "BlockRows" "state" "I") ∈ tbW := tb_t 63 (by decide +kernel) rfl
theorem q_64 : (Jvm.Cond.soleField "BlockRows" "state") ∈ tbW := tb_t 64 (by decide +kernel) rfl
theorem q_65 : (Jvm.Cond.lays "BlockRows" "BlockRows" "flagged" "I") ∈ tbW := tb_t 65 (by decide +kernel) rfl
theorem q_66 : (Jvm.Cond.soleField "BlockRows" "flagged") ∈ tbW := tb_t 66 (by decide +kernel) rfl
theorem q_67 : (Jvm.Cond.lays "BlockRows" "BlockRows" "steps" "I") ∈ tbW := tb_t 67 (by decide +kernel) rfl
theorem q_68 : (Jvm.Cond.soleField "BlockRows" "steps") ∈ tbW := tb_t 68 (by decide +kernel) rfl
theorem q_69 : (Jvm.Cond.lays "BlockRows" "BlockRows" "made" "I") ∈ tbW := tb_t 69 (by decide +kernel) rfl
theorem q_70 : (Jvm.Cond.soleField "BlockRows" "made") ∈ tbW := tb_t 70 (by decide +kernel) rfl
theorem q_71 : (Jvm.Cond.lays "BlockRows" "BlockRows" "hits" "I") ∈ tbW := tb_t 71 (by decide +kernel) rfl
theorem q_72 : (Jvm.Cond.soleField "BlockRows" "hits") ∈ tbW := tb_t 72 (by decide +kernel) rfl
theorem q_73 : (Jvm.Cond.lays "BlockRows" "BlockRows" "thrownOut" "I") ∈ tbW := tb_t 73 (by decide +kernel) rfl
theorem q_74 : (Jvm.Cond.soleField "BlockRows" "thrownOut") ∈ tbW := tb_t 74 (by decide +kernel) rfl
theorem q_75 : (Jvm.Cond.lays "BlockRows" "BlockRows" "stored" "I") ∈ tbW := tb_t 75 (by decide +kernel) rfl
theorem q_76 : (Jvm.Cond.soleField "BlockRows" "stored") ∈ tbW := tb_t 76 (by decide +kernel) rfl
theorem q_77 : (Jvm.Cond.lays "BlockRows" "BlockRows" "decoded" "I") ∈ tbW := tb_t 77 (by decide +kernel) rfl
theorem q_78 : (Jvm.Cond.soleField "BlockRows" "decoded") ∈ tbW := tb_t 78 (by decide +kernel) rfl
theorem q_79 : (Jvm.Cond.superclass "BlockRows" "java/lang/Object") ∈ tbW := tb_t 79 (by decide +kernel) rfl
theorem q_80 : (Jvm.Cond.methodLink "BlockRowsLaw" (75 : Nat) ({ cls := "BlockRows", name := "forget", desc := "()I" } : Jvm.MethodName)) ∈ tbW := tb_t 80 (by decide +kernel) rfl
theorem q_81 : (Jvm.Cond.instanceMethod ({ cls := "BlockRows", name := "forget", desc := "()I" } : Jvm.MethodName)) ∈ tbW := tb_t 81 (by decide +kernel) rfl
theorem q_82 : (Jvm.Cond.selects "BlockRows" ({ cls := "BlockRows", name := "forget", desc := "()I" } : Jvm.MethodName) ({ cls := "BlockRows", name := "forget", desc := "()I" } : Jvm.MethodName)) ∈ tbW := tb_t 82 (by decide +kernel) rfl
theorem q_83 : (Cond.code y_X_forget c_X_forget 3 (some .int)) ∈ tbW := tb_t 83 rfl rfl
theorem q_84 : (Jvm.Cond.methodLinkNest "BlockRows" (78 : Nat) ({ cls := "BlockRows$Block", name := "isKept", desc := "()Z" } : Jvm.MethodName) "BlockRows") ∈ lw_tbl := tb_r 84 (by decide +kernel)
theorem q_85 : (Jvm.Cond.privateMethod ({ cls := "BlockRows$Block", name := "isKept", desc := "()Z" } : Jvm.MethodName)) ∈ lw_tbl := tb_r 85 (by decide +kernel)
theorem q_86 : (Jvm.Cond.instanceMethod ({ cls := "BlockRows$Block", name := "isKept", desc := "()Z" } : Jvm.MethodName)) ∈ tbW := tb_t 86 (by decide +kernel) rfl
theorem q_87 : (Cond.code y_B_isKept c_B_isKept 1 (some .boolean)) ∈ tbW := tb_t 87 rfl rfl
theorem q_88 : (Jvm.Cond.methodLink "BlockRows" (90 : Nat) ({ cls := "BlockRows", name := "throwOut", desc := "(LBlockRows$Block;)V" } : Jvm.MethodName)) ∈ tbW := tb_t 88 (by decide +kernel) rfl
theorem q_89 : (Jvm.Cond.privateMethod ({ cls := "BlockRows", name := "throwOut", desc := "(LBlockRows$Block;)V" } : Jvm.MethodName)) ∈ lw_tbl := tb_r 89 (by decide +kernel)
theorem q_90 : (Jvm.Cond.instanceMethod ({ cls := "BlockRows", name := "throwOut", desc := "(LBlockRows$Block;)V" } : Jvm.MethodName)) ∈ tbW := tb_t 90 (by decide +kernel) rfl
theorem q_91 : (Cond.code y_X_throwOut c_X_throwOut 2 none) ∈ tbW := tb_t 91 rfl rfl
theorem q_92 : (Jvm.Cond.methodLinkNest "BlockRows" (116 : Nat) ({ cls := "BlockRows$Block", name := "empty", desc := "(I)V" } : Jvm.MethodName) "BlockRows") ∈ lw_tbl := tb_r 92 (by decide +kernel)
theorem q_93 : (Jvm.Cond.privateMethod ({ cls := "BlockRows$Block", name := "empty", desc := "(I)V" } : Jvm.MethodName)) ∈ lw_tbl := tb_r 93 (by decide +kernel)
theorem q_94 : (Jvm.Cond.instanceMethod ({ cls := "BlockRows$Block", name := "empty", desc := "(I)V" } : Jvm.MethodName)) ∈ tbW := tb_t 94 (by decide +kernel) rfl
theorem q_95 : (Cond.code y_B_empty c_B_empty 2 none) ∈ tbW := tb_t 95 rfl rfl
theorem q_96 : (Jvm.Cond.methodLink "BlockRowsLaw" (79 : Nat) ({ cls := "BlockRows", name := "count", desc := "(I)I" } : Jvm.MethodName)) ∈ tbW := tb_t 96 (by decide +kernel) rfl
theorem q_97 : (Jvm.Cond.instanceMethod ({ cls := "BlockRows", name := "count", desc := "(I)I" } : Jvm.MethodName)) ∈ tbW := tb_t 97 (by decide +kernel) rfl
theorem q_98 : (Jvm.Cond.selects "BlockRows" ({ cls := "BlockRows", name := "count", desc := "(I)I" } : Jvm.MethodName) ({ cls := "BlockRows", name := "count", desc := "(I)I" } : Jvm.MethodName)) ∈ tbW := tb_t 98 (by decide +kernel) rfl
theorem q_99 : (Cond.code y_X_count c_X_count 2 (some .int)) ∈ tbW := tb_t 99 rfl rfl
theorem q_100 : (Jvm.Cond.methodLink "BlockRows" (106 : Nat) ({ cls := "BlockRows", name := "keptNow", desc := "()I" } : Jvm.MethodName)) ∈ tbW := tb_t 100 (by decide +kernel) rfl
theorem q_101 : (Jvm.Cond.privateMethod ({ cls := "BlockRows", name := "keptNow", desc := "()I" } : Jvm.MethodName)) ∈ lw_tbl := tb_r 101 (by decide +kernel)
theorem q_102 : (Jvm.Cond.instanceMethod ({ cls := "BlockRows", name := "keptNow", desc := "()I" } : Jvm.MethodName)) ∈ tbW := tb_t 102 (by decide +kernel) rfl
theorem q_103 : (Cond.code y_X_keptNow c_X_keptNow 3 (some .int)) ∈ tbW := tb_t 103 rfl rfl
theorem q_104 : (Jvm.Cond.methodLink "BlockRowsLaw" (43 : Nat) ({ cls := "BlockRowsLaw", name := "poke", desc := "(LBlockRows;II[J)I" } : Jvm.MethodName)) ∈ tbW := tb_t 104 (by decide +kernel) rfl
theorem q_105 : (Jvm.Cond.static ({ cls := "BlockRowsLaw", name := "poke", desc := "(LBlockRows;II[J)I" } : Jvm.MethodName)) ∈ tbW := tb_t 105 (by decide +kernel) rfl
theorem q_106 : (Cond.codeWith y_L_poke c_L_poke 5 (some .int) [(0, 10, 13, 13), (0, 10, 17, 15)]) ∈ tbW := tb_t 106 rfl rfl
theorem q_107 : (Jvm.Cond.classLink "BlockRowsLaw" (13 : Nat) "java/lang/IndexOutOfBoundsException") ∈ tbW := tb_t 107 (by decide +kernel) rfl
theorem q_108 : (Jvm.Cond.classLink "BlockRowsLaw" (15 : Nat) "java/lang/IllegalArgumentException") ∈ tbW := tb_t 108 (by decide +kernel) rfl
theorem q_109 : (Jvm.Cond.methodLink "BlockRowsLaw" (7 : Nat) ({ cls := "BlockRows", name := "poke", desc := "(II)I" } : Jvm.MethodName)) ∈ tbW := tb_t 109 (by decide +kernel) rfl
theorem q_110 : (Jvm.Cond.instanceMethod ({ cls := "BlockRows", name := "poke", desc := "(II)I" } : Jvm.MethodName)) ∈ tbW := tb_t 110 (by decide +kernel) rfl
theorem q_111 : (Jvm.Cond.selects "BlockRows" ({ cls := "BlockRows", name := "poke", desc := "(II)I" } : Jvm.MethodName) ({ cls := "BlockRows", name := "poke", desc := "(II)I" } : Jvm.MethodName)) ∈ tbW := tb_t 111 (by decide +kernel) rfl
theorem q_112 : (Cond.code y_X_poke c_X_poke 4 (some .int)) ∈ tbW := tb_t 112 rfl rfl
theorem q_113 : (Jvm.Cond.methodLink "BlockRows" (33 : Nat) ({ cls := "BlockRows", name := "inMemory", desc := "(I)Z" } : Jvm.MethodName)) ∈ tbW := tb_t 113 (by decide +kernel) rfl
theorem q_114 : (Jvm.Cond.static ({ cls := "BlockRows", name := "inMemory", desc := "(I)Z" } : Jvm.MethodName)) ∈ tbW := tb_t 114 (by decide +kernel) rfl
theorem q_115 : (Cond.code y_X_inMemory c_X_inMemory 1 (some .boolean)) ∈ tbW := tb_t 115 rfl rfl
theorem q_116 : (Jvm.Cond.classLink "BlockRows" (37 : Nat) "java/lang/IndexOutOfBoundsException") ∈ tbW := tb_t 116 (by decide +kernel) rfl
theorem q_117 : (Jvm.Cond.instantiable "java/lang/IndexOutOfBoundsException" (6 : Nat)) ∈ tbW := tb_t 117 (by decide +kernel) rfl
theorem q_118 : (Jvm.Cond.castable "java/lang/IndexOutOfBoundsException" "java/lang/IndexOutOfBoundsException") ∈ lw_tbl := tb_r 118 (by decide +kernel)
theorem q_119 : (Jvm.Cond.declares ({ cls := "java/lang/RuntimeException", name := "<init>", desc := "()V" } : Jvm.MethodName)) ∈ lw_tbl := tb_r 119 (by decide +kernel)
theorem q_120 : (Jvm.Cond.declares ({ cls := "java/lang/RuntimeException", name := "<init>", desc := "(Ljava/lang/String;)V" } : Jvm.MethodName)) ∈ lw_tbl := tb_r 120 (by decide +kernel)
theorem q_121 : (Jvm.Cond.declares ({ cls := "java/lang/Exception", name := "<init>", desc := "()V" } : Jvm.MethodName)) ∈ lw_tbl := tb_r 121 (by decide +kernel)
theorem q_122 : (Jvm.Cond.declares ({ cls := "java/lang/Exception", name := "<init>", desc := "(Ljava/lang/String;)V" } : Jvm.MethodName)) ∈ lw_tbl := tb_r 122 (by decide +kernel)
theorem q_123 : (Jvm.Cond.declares ({ cls := "java/lang/Throwable", name := "<init>", desc := "()V" } : Jvm.MethodName)) ∈ lw_tbl := tb_r 123 (by decide +kernel)
theorem q_124 : (Jvm.Cond.declares ({ cls := "java/lang/Throwable", name := "<init>", desc := "(Ljava/lang/String;)V" } : Jvm.MethodName)) ∈ lw_tbl := tb_r 124 (by decide +kernel)
theorem q_125 : (Jvm.Cond.selects "java/lang/IndexOutOfBoundsException" ({ cls := "java/lang/Throwable", name := "fillInStackTrace", desc := "(I)Ljava/lang/Throwable;" } : Jvm.MethodName) ({ cls := "java/lang/Throwable", name := "fillInStackTrace", desc := "(I)Ljava/lang/Throwable;" } : Jvm.MethodName)) ∈ tbW := tb_t 125 (by decide +kernel) rfl
theorem q_126 : (Jvm.Cond.selects "java/lang/IndexOutOfBoundsException" ({ cls := "java/lang/Throwable", name := "fillInStackTrace", desc := "()Ljava/lang/Throwable;" } : Jvm.MethodName) ({ cls := "java/lang/Throwable", name := "fillInStackTrace", desc := "()Ljava/lang/Throwable;" } : Jvm.MethodName)) ∈ tbW := tb_t 126 (by decide +kernel) rfl
theorem q_127 : (Jvm.Cond.lays "java/lang/IndexOutOfBoundsException" "java/lang/Throwable" "cause" "Ljava/lang/Throwable;") ∈ tbW := tb_t 127 (by decide +kernel) rfl
theorem q_128 : (Jvm.Cond.lays "java/lang/Throwable" "java/lang/Throwable" "cause" "Ljava/lang/Throwable;") ∈ tbW := tb_t 128 (by decide +kernel) rfl
theorem q_129 : (Jvm.Cond.lays "java/lang/IndexOutOfBoundsException" "java/lang/Throwable" "stackTrace" "[Ljava/lang/StackTraceElement;") ∈ tbW := tb_t 129 (by decide +kernel) rfl
theorem q_130 : (Jvm.Cond.lays "java/lang/Throwable" "java/lang/Throwable" "stackTrace" "[Ljava/lang/StackTraceElement;") ∈ tbW := tb_t 130 (by decide +kernel) rfl
theorem q_131 : (Jvm.Cond.lays "java/lang/IndexOutOfBoundsException" "java/lang/Throwable" "suppressedExceptions" "Ljava/util/List;") ∈ tbW := tb_t 131 (by decide +kernel) rfl
theorem q_132 : (Jvm.Cond.lays "java/lang/Throwable" "java/lang/Throwable" "suppressedExceptions" "Ljava/util/List;") ∈ tbW := tb_t 132 (by decide +kernel) rfl
theorem q_133 : (Jvm.Cond.lays "java/lang/IndexOutOfBoundsException" "java/lang/Throwable" "detailMessage" "Ljava/lang/String;") ∈ tbW := tb_t 133 (by decide +kernel) rfl
theorem q_134 : (Jvm.Cond.lays "java/lang/Throwable" "java/lang/Throwable" "detailMessage" "Ljava/lang/String;") ∈ tbW := tb_t 134 (by decide +kernel) rfl
theorem q_135 : (Jvm.Cond.lays "java/lang/IndexOutOfBoundsException" "java/lang/Throwable" "backtrace" "Ljava/lang/Object;") ∈ tbW := tb_t 135 (by decide +kernel) rfl
theorem q_136 : (Jvm.Cond.lays "java/lang/Throwable" "java/lang/Throwable" "backtrace" "Ljava/lang/Object;") ∈ tbW := tb_t 136 (by decide +kernel) rfl
theorem q_137 : (Jvm.Cond.fieldLink "java/lang/Throwable" (198 : Nat) "java/lang/Throwable" "backtrace" "Ljava/lang/Object;") ∈ tbW := tb_t 137 (by decide +kernel) rfl
theorem q_138 : (Jvm.Cond.superclass "java/lang/Throwable" "java/lang/Object") ∈ tbW := tb_t 138 (by decide +kernel) rfl
theorem q_139 : (Jvm.Cond.instanceMethod ({ cls := "java/lang/Throwable", name := "<init>", desc := "()V" } : Jvm.MethodName)) ∈ tbW := tb_t 139 (by decide +kernel) rfl
theorem q_140 : (Jvm.Cond.code ({ cls := "java/lang/Throwable", name := "<init>", desc := "()V" } : Jvm.MethodName) prog_11_method_1_code (1 : Nat) (Option.none : Option Jvm.ClassFile.FieldType)) ∈ tbW := tb_t 140 rfl rfl
theorem q_141 : (Jvm.Cond.methodLink "java/lang/Throwable" (1 : Nat) ({ cls := "java/lang/Object", name := "<init>", desc := "()V" } : Jvm.MethodName)) ∈ tbW := tb_t 141 (by decide +kernel) rfl
theorem q_142 : (Jvm.Cond.fieldLink "java/lang/Throwable" (13 : Nat) "java/lang/Throwable" "UNASSIGNED_STACK" "[Ljava/lang/StackTraceElement;") ∈ tbW := tb_t 142 (by decide +kernel) rfl
theorem q_143 : (Jvm.Cond.laysStatic "java/lang/Throwable" "UNASSIGNED_STACK" "[Ljava/lang/StackTraceElement;") ∈ lw_tbl := tb_r 143 (by decide +kernel)
theorem q_144 : (Jvm.Cond.fieldLink "java/lang/Throwable" (20 : Nat) "java/lang/Throwable" "SUPPRESSED_SENTINEL" "Ljava/util/List;") ∈ tbW := tb_t 144 (by decide +kernel) rfl
theorem q_145 : (Jvm.Cond.laysStatic "java/lang/Throwable" "SUPPRESSED_SENTINEL" "Ljava/util/List;") ∈ lw_tbl := tb_r 145 (by decide +kernel)
theorem q_146 : (Jvm.Cond.methodLink "java/lang/Throwable" (27 : Nat) ({ cls := "java/lang/Throwable", name := "fillInStackTrace", desc := "()Ljava/lang/Throwable;" } : Jvm.MethodName)) ∈ tbW := tb_t 146 (by decide +kernel) rfl
theorem q_147 : (Jvm.Cond.instanceMethod ({ cls := "java/lang/Throwable", name := "fillInStackTrace", desc := "()Ljava/lang/Throwable;" } : Jvm.MethodName)) ∈ tbW := tb_t 147 (by decide +kernel) rfl
theorem q_148 : (Jvm.Cond.sameMethod "java/lang/Throwable" "java/lang/Throwable" "fillInStackTrace" "()Ljava/lang/Throwable;") ∈ tbW := tb_t 148 (by decide +kernel) rfl
theorem q_149 : (Jvm.Cond.selects "java/lang/IllegalArgumentException" ({ cls := "java/lang/Throwable", name := "fillInStackTrace", desc := "()Ljava/lang/Throwable;" } : Jvm.MethodName) ({ cls := "java/lang/Throwable", name := "fillInStackTrace", desc := "()Ljava/lang/Throwable;" } : Jvm.MethodName)) ∈ tbW := tb_t 149 (by decide +kernel) rfl
theorem q_150 : (Jvm.Cond.codeSync ({ cls := "java/lang/Throwable", name := "fillInStackTrace", desc := "()Ljava/lang/Throwable;" } : Jvm.MethodName) prog_11_method_18_code (1 : Nat) (Option.some (Jvm.ClassFile.FieldType.object "java/lang/Throwable"))) ∈ lw_tbl := tb_r 150 rfl
theorem q_151 : (Jvm.Cond.methodLink "java/lang/Throwable" (202 : Nat) ({ cls := "java/lang/Throwable", name := "fillInStackTrace", desc := "(I)Ljava/lang/Throwable;" } : Jvm.MethodName)) ∈ tbW := tb_t 151 (by decide +kernel) rfl
theorem q_152 : (Jvm.Cond.privateMethod ({ cls := "java/lang/Throwable", name := "fillInStackTrace", desc := "(I)Ljava/lang/Throwable;" } : Jvm.MethodName)) ∈ lw_tbl := tb_r 152 (by decide +kernel)
theorem q_153 : (Jvm.Cond.instanceMethod ({ cls := "java/lang/Throwable", name := "fillInStackTrace", desc := "(I)Ljava/lang/Throwable;" } : Jvm.MethodName)) ∈ tbW := tb_t 153 (by decide +kernel) rfl
theorem q_154 : (Jvm.Cond.instantiable "java/lang/Throwable" (6 : Nat)) ∈ tbW := tb_t 154 (by decide +kernel) rfl
theorem q_155 : (Jvm.Cond.native ({ cls := "java/lang/Throwable", name := "fillInStackTrace", desc := "(I)Ljava/lang/Throwable;" } : Jvm.MethodName)) ∈ lw_tbl := tb_r 155 (by decide +kernel)
theorem q_156 : (Jvm.Cond.stringRef "BlockRows" (39 : Nat) "no such byte") ∈ lw_tbl := tb_r 156 (by decide +kernel)
theorem q_157 : (Jvm.Cond.methodLink "BlockRows" (41 : Nat) ({ cls := "java/lang/IndexOutOfBoundsException", name := "<init>", desc := "(Ljava/lang/String;)V" } : Jvm.MethodName)) ∈ tbW := tb_t 157 (by decide +kernel) rfl
theorem q_158 : (Jvm.Cond.instanceMethod ({ cls := "java/lang/IndexOutOfBoundsException", name := "<init>", desc := "(Ljava/lang/String;)V" } : Jvm.MethodName)) ∈ tbW := tb_t 158 (by decide +kernel) rfl
theorem q_159 : (Jvm.Cond.code ({ cls := "java/lang/IndexOutOfBoundsException", name := "<init>", desc := "(Ljava/lang/String;)V" } : Jvm.MethodName) prog_7_method_2_code (2 : Nat) (Option.none : Option Jvm.ClassFile.FieldType)) ∈ tbW := tb_t 159 rfl rfl
theorem q_160 : (Jvm.Cond.methodLink "java/lang/IndexOutOfBoundsException" (7 : Nat) ({ cls := "java/lang/RuntimeException", name := "<init>", desc := "(Ljava/lang/String;)V" } : Jvm.MethodName)) ∈ tbW := tb_t 160 (by decide +kernel) rfl
theorem q_161 : (Jvm.Cond.instanceMethod ({ cls := "java/lang/RuntimeException", name := "<init>", desc := "(Ljava/lang/String;)V" } : Jvm.MethodName)) ∈ tbW := tb_t 161 (by decide +kernel) rfl
theorem q_162 : (Jvm.Cond.code ({ cls := "java/lang/RuntimeException", name := "<init>", desc := "(Ljava/lang/String;)V" } : Jvm.MethodName) prog_9_method_2_code (2 : Nat) (Option.none : Option Jvm.ClassFile.FieldType)) ∈ tbW := tb_t 162 rfl rfl
theorem q_163 : (Jvm.Cond.methodLink "java/lang/RuntimeException" (7 : Nat) ({ cls := "java/lang/Exception", name := "<init>", desc := "(Ljava/lang/String;)V" } : Jvm.MethodName)) ∈ tbW := tb_t 163 (by decide +kernel) rfl
theorem q_164 : (Jvm.Cond.instanceMethod ({ cls := "java/lang/Exception", name := "<init>", desc := "(Ljava/lang/String;)V" } : Jvm.MethodName)) ∈ tbW := tb_t 164 (by decide +kernel) rfl
theorem q_165 : (Jvm.Cond.code ({ cls := "java/lang/Exception", name := "<init>", desc := "(Ljava/lang/String;)V" } : Jvm.MethodName) prog_5_method_2_code (2 : Nat) (Option.none : Option Jvm.ClassFile.FieldType)) ∈ tbW := tb_t 165 rfl rfl
theorem q_166 : (Jvm.Cond.methodLink "java/lang/Exception" (7 : Nat) ({ cls := "java/lang/Throwable", name := "<init>", desc := "(Ljava/lang/String;)V" } : Jvm.MethodName)) ∈ tbW := tb_t 166 (by decide +kernel) rfl
theorem q_167 : (Jvm.Cond.instanceMethod ({ cls := "java/lang/Throwable", name := "<init>", desc := "(Ljava/lang/String;)V" } : Jvm.MethodName)) ∈ tbW := tb_t 167 (by decide +kernel) rfl
theorem q_168 : (Jvm.Cond.code ({ cls := "java/lang/Throwable", name := "<init>", desc := "(Ljava/lang/String;)V" } : Jvm.MethodName) prog_11_method_2_code (2 : Nat) (Option.none : Option Jvm.ClassFile.FieldType)) ∈ tbW := tb_t 168 rfl rfl
theorem q_169 : (Jvm.Cond.fieldLink "java/lang/Throwable" (198 : Nat) "java/lang/Throwable" "backtrace" "Ljava/lang/Object;") ∈ tbW := tb_t 169 (by decide +kernel) rfl
theorem q_170 : (Jvm.Cond.fieldLink "java/lang/Throwable" (31 : Nat) "java/lang/Throwable" "detailMessage" "Ljava/lang/String;") ∈ tbW := tb_t 170 (by decide +kernel) rfl
theorem q_171 : (Jvm.Cond.fieldLink "java/lang/Throwable" (7 : Nat) "java/lang/Throwable" "cause" "Ljava/lang/Throwable;") ∈ tbW := tb_t 171 (by decide +kernel) rfl
theorem q_172 : (Jvm.Cond.fieldLink "java/lang/Throwable" (17 : Nat) "java/lang/Throwable" "stackTrace" "[Ljava/lang/StackTraceElement;") ∈ tbW := tb_t 172 (by decide +kernel) rfl
theorem q_173 : (Jvm.Cond.fieldLink "java/lang/Throwable" (24 : Nat) "java/lang/Throwable" "suppressedExceptions" "Ljava/util/List;") ∈ tbW := tb_t 173 (by decide +kernel) rfl
theorem q_174 : (Jvm.Cond.soleField "java/lang/Throwable" "backtrace") ∈ tbW := tb_t 174 (by decide +kernel) rfl
theorem q_175 : (Jvm.Cond.soleField "java/lang/Throwable" "detailMessage") ∈ tbW := tb_t 175 (by decide +kernel) rfl
theorem q_176 : (Jvm.Cond.soleField "java/lang/Throwable" "cause") ∈ tbW := tb_t 176 (by decide +kernel) rfl
theorem q_177 : (Jvm.Cond.soleField "java/lang/Throwable" "stackTrace") ∈ tbW := tb_t 177 (by decide +kernel) rfl
theorem q_178 : (Jvm.Cond.lays "java/lang/IndexOutOfBoundsException" "java/lang/Throwable" "depth" "I") ∈ tbW := tb_t 178 (by decide +kernel) rfl
theorem q_179 : (Jvm.Cond.soleField "java/lang/Throwable" "depth") ∈ tbW := tb_t 179 (by decide +kernel) rfl
theorem q_180 : (Jvm.Cond.soleField "java/lang/Throwable" "suppressedExceptions") ∈ tbW := tb_t 180 (by decide +kernel) rfl
theorem q_181 : (Jvm.Cond.superclass "java/lang/IndexOutOfBoundsException" "java/lang/RuntimeException") ∈ tbW := tb_t 181 (by decide +kernel) rfl
theorem q_182 : (Jvm.Cond.arrayClass Jvm.ClassFile.FieldType.byte) ∈ tbW := tb_t 182 (by decide +kernel) rfl
theorem q_183 : (Jvm.Cond.classLink "BlockRows" (44 : Nat) "java/lang/IllegalArgumentException") ∈ tbW := tb_t 183 (by decide +kernel) rfl
theorem q_184 : (Jvm.Cond.instantiable "java/lang/IllegalArgumentException" (6 : Nat)) ∈ tbW := tb_t 184 (by decide +kernel) rfl
theorem q_185 : (Jvm.Cond.castable "java/lang/IllegalArgumentException" "java/lang/IllegalArgumentException") ∈ lw_tbl := tb_r 185 (by decide +kernel)
theorem q_186 : (Jvm.Cond.selects "java/lang/IllegalArgumentException" ({ cls := "java/lang/Throwable", name := "fillInStackTrace", desc := "(I)Ljava/lang/Throwable;" } : Jvm.MethodName) ({ cls := "java/lang/Throwable", name := "fillInStackTrace", desc := "(I)Ljava/lang/Throwable;" } : Jvm.MethodName)) ∈ tbW := tb_t 186 (by decide +kernel) rfl
theorem q_187 : (Jvm.Cond.lays "java/lang/IllegalArgumentException" "java/lang/Throwable" "cause" "Ljava/lang/Throwable;") ∈ tbW := tb_t 187 (by decide +kernel) rfl
theorem q_188 : (Jvm.Cond.lays "java/lang/IllegalArgumentException" "java/lang/Throwable" "stackTrace" "[Ljava/lang/StackTraceElement;") ∈ tbW := tb_t 188 (by decide +kernel) rfl
theorem q_189 : (Jvm.Cond.lays "java/lang/IllegalArgumentException" "java/lang/Throwable" "suppressedExceptions" "Ljava/util/List;") ∈ tbW := tb_t 189 (by decide +kernel) rfl
theorem q_190 : (Jvm.Cond.lays "java/lang/IllegalArgumentException" "java/lang/Throwable" "detailMessage" "Ljava/lang/String;") ∈ tbW := tb_t 190 (by decide +kernel) rfl
theorem q_191 : (Jvm.Cond.lays "java/lang/IllegalArgumentException" "java/lang/Throwable" "backtrace" "Ljava/lang/Object;") ∈ tbW := tb_t 191 (by decide +kernel) rfl
theorem q_192 : (Jvm.Cond.stringRef "BlockRows" (46 : Nat) "not a byte") ∈ lw_tbl := tb_r 192 (by decide +kernel)
theorem q_193 : (Jvm.Cond.methodLink "BlockRows" (48 : Nat) ({ cls := "java/lang/IllegalArgumentException", name := "<init>", desc := "(Ljava/lang/String;)V" } : Jvm.MethodName)) ∈ tbW := tb_t 193 (by decide +kernel) rfl
theorem q_194 : (Jvm.Cond.instanceMethod ({ cls := "java/lang/IllegalArgumentException", name := "<init>", desc := "(Ljava/lang/String;)V" } : Jvm.MethodName)) ∈ tbW := tb_t 194 (by decide +kernel) rfl
theorem q_195 : (Jvm.Cond.code ({ cls := "java/lang/IllegalArgumentException", name := "<init>", desc := "(Ljava/lang/String;)V" } : Jvm.MethodName) prog_6_method_2_code (2 : Nat) (Option.none : Option Jvm.ClassFile.FieldType)) ∈ tbW := tb_t 195 rfl rfl
theorem q_196 : (Jvm.Cond.methodLink "java/lang/IllegalArgumentException" (7 : Nat) ({ cls := "java/lang/RuntimeException", name := "<init>", desc := "(Ljava/lang/String;)V" } : Jvm.MethodName)) ∈ tbW := tb_t 196 (by decide +kernel) rfl
theorem q_197 : (Jvm.Cond.lays "java/lang/IllegalArgumentException" "java/lang/Throwable" "depth" "I") ∈ tbW := tb_t 197 (by decide +kernel) rfl
theorem q_198 : (Jvm.Cond.superclass "java/lang/IllegalArgumentException" "java/lang/RuntimeException") ∈ tbW := tb_t 198 (by decide +kernel) rfl
theorem q_199 : (Jvm.Cond.methodLink "BlockRows" (49 : Nat) ({ cls := "BlockRows", name := "write", desc := "(II)V" } : Jvm.MethodName)) ∈ tbW := tb_t 199 (by decide +kernel) rfl
theorem q_200 : (Jvm.Cond.privateMethod ({ cls := "BlockRows", name := "write", desc := "(II)V" } : Jvm.MethodName)) ∈ lw_tbl := tb_r 200 (by decide +kernel)
theorem q_201 : (Jvm.Cond.instanceMethod ({ cls := "BlockRows", name := "write", desc := "(II)V" } : Jvm.MethodName)) ∈ tbW := tb_t 201 (by decide +kernel) rfl
theorem q_202 : (Cond.code y_X_write c_X_write 4 none) ∈ tbW := tb_t 202 rfl rfl
theorem q_203 : (Jvm.Cond.methodLinkNest "BlockRows" (120 : Nat) ({ cls := "BlockRows$Block", name := "hasByte", desc := "(I)Z" } : Jvm.MethodName) "BlockRows") ∈ lw_tbl := tb_r 203 (by decide +kernel)
theorem q_204 : (Jvm.Cond.privateMethod ({ cls := "BlockRows$Block", name := "hasByte", desc := "(I)Z" } : Jvm.MethodName)) ∈ lw_tbl := tb_r 204 (by decide +kernel)
theorem q_205 : (Jvm.Cond.instanceMethod ({ cls := "BlockRows$Block", name := "hasByte", desc := "(I)Z" } : Jvm.MethodName)) ∈ tbW := tb_t 205 (by decide +kernel) rfl
theorem q_206 : (Cond.code y_B_hasByte c_B_hasByte 2 (some .boolean)) ∈ tbW := tb_t 206 rfl rfl
theorem q_207 : (Jvm.Cond.methodLink "BlockRows$Block" (19 : Nat) ({ cls := "BlockRows$Block", name := "isKept", desc := "()Z" } : Jvm.MethodName)) ∈ tbW := tb_t 207 (by decide +kernel) rfl
theorem q_208 : (Jvm.Cond.methodLink "BlockRowsLaw" (53 : Nat) ({ cls := "BlockRowsLaw", name := "pokeFour", desc := "(LBlockRows;II[J)I" } : Jvm.MethodName)) ∈ tbW := tb_t 208 (by decide +kernel) rfl
theorem q_209 : (Jvm.Cond.static ({ cls := "BlockRowsLaw", name := "pokeFour", desc := "(LBlockRows;II[J)I" } : Jvm.MethodName)) ∈ tbW := tb_t 209 (by decide +kernel) rfl
theorem q_210 : (Cond.codeWith y_L_pokeFour c_L_pokeFour 5 (some .int) [(0, 10, 13, 13)]) ∈ tbW := tb_t 210 rfl rfl
theorem q_211 : (Jvm.Cond.methodLink "BlockRowsLaw" (17 : Nat) ({ cls := "BlockRows", name := "pokeFour", desc := "(II)I" } : Jvm.MethodName)) ∈ tbW := tb_t 211 (by decide +kernel) rfl
theorem q_212 : (Jvm.Cond.instanceMethod ({ cls := "BlockRows", name := "pokeFour", desc := "(II)I" } : Jvm.MethodName)) ∈ tbW := tb_t 212 (by decide +kernel) rfl
theorem q_213 : (Jvm.Cond.selects "BlockRows" ({ cls := "BlockRows", name := "pokeFour", desc := "(II)I" } : Jvm.MethodName) ({ cls := "BlockRows", name := "pokeFour", desc := "(II)I" } : Jvm.MethodName)) ∈ tbW := tb_t 213 (by decide +kernel) rfl
theorem q_214 : (Cond.code y_X_pokeFour c_X_pokeFour 5 (some .int)) ∈ tbW := tb_t 214 rfl rfl
theorem q_215 : (Jvm.Cond.stringRef "BlockRows" (53 : Nat) "no such place") ∈ lw_tbl := tb_r 215 (by decide +kernel)
theorem q_216 : (Jvm.Cond.methodLink "BlockRows" (55 : Nat) ({ cls := "java/lang/Math", name := "min", desc := "(II)I" } : Jvm.MethodName)) ∈ tbW := tb_t 216 (by decide +kernel) rfl
theorem q_217 : (Jvm.Cond.static ({ cls := "java/lang/Math", name := "min", desc := "(II)I" } : Jvm.MethodName)) ∈ tbW := tb_t 217 (by decide +kernel) rfl
theorem q_218 : (Jvm.Cond.code ({ cls := "java/lang/Math", name := "min", desc := "(II)I" } : Jvm.MethodName) prog_8_method_69_code (2 : Nat) (Option.some Jvm.ClassFile.FieldType.int)) ∈ tbW := tb_t 218 rfl rfl
theorem q_219 : (Jvm.Cond.methodLink "BlockRowsLaw" (56 : Nat) ({ cls := "BlockRowsLaw", name := "set", desc := "(LBlockRows;II[J)I" } : Jvm.MethodName)) ∈ tbW := tb_t 219 (by decide +kernel) rfl
theorem q_220 : (Jvm.Cond.static ({ cls := "BlockRowsLaw", name := "set", desc := "(LBlockRows;II[J)I" } : Jvm.MethodName)) ∈ tbW := tb_t 220 (by decide +kernel) rfl
theorem q_221 : (Cond.codeWith y_L_set c_L_set 5 (some .int) [(0, 10, 13, 13)]) ∈ tbW := tb_t 221 rfl rfl
theorem q_222 : (Jvm.Cond.methodLink "BlockRowsLaw" (20 : Nat) ({ cls := "BlockRows", name := "set", desc := "(II)I" } : Jvm.MethodName)) ∈ tbW := tb_t 222 (by decide +kernel) rfl
theorem q_223 : (Jvm.Cond.instanceMethod ({ cls := "BlockRows", name := "set", desc := "(II)I" } : Jvm.MethodName)) ∈ tbW := tb_t 223 (by decide +kernel) rfl
theorem q_224 : (Jvm.Cond.selects "BlockRows" ({ cls := "BlockRows", name := "set", desc := "(II)I" } : Jvm.MethodName) ({ cls := "BlockRows", name := "set", desc := "(II)I" } : Jvm.MethodName)) ∈ tbW := tb_t 224 (by decide +kernel) rfl
theorem q_225 : (Cond.code y_X_set c_X_set 4 (some .int)) ∈ tbW := tb_t 225 rfl rfl
theorem q_226 : (Jvm.Cond.stringRef "BlockRows" (61 : Nat) "no such register") ∈ lw_tbl := tb_r 226 (by decide +kernel)
theorem q_227 : (Jvm.Cond.methodLink "BlockRowsLaw" (59 : Nat) ({ cls := "BlockRowsLaw", name := "go", desc := "(LBlockRows;I[J)I" } : Jvm.MethodName)) ∈ tbW := tb_t 227 (by decide +kernel) rfl
theorem q_228 : (Jvm.Cond.static ({ cls := "BlockRowsLaw", name := "go", desc := "(LBlockRows;I[J)I" } : Jvm.MethodName)) ∈ tbW := tb_t 228 (by decide +kernel) rfl
theorem q_229 : (Cond.codeWith y_L_go c_L_go 4 (some .int) [(0, 9, 12, 13)]) ∈ tbW := tb_t 229 rfl rfl
theorem q_230 : (Jvm.Cond.methodLink "BlockRowsLaw" (23 : Nat) ({ cls := "BlockRows", name := "go", desc := "(I)I" } : Jvm.MethodName)) ∈ tbW := tb_t 230 (by decide +kernel) rfl
theorem q_231 : (Jvm.Cond.instanceMethod ({ cls := "BlockRows", name := "go", desc := "(I)I" } : Jvm.MethodName)) ∈ tbW := tb_t 231 (by decide +kernel) rfl
theorem q_232 : (Jvm.Cond.selects "BlockRows" ({ cls := "BlockRows", name := "go", desc := "(I)I" } : Jvm.MethodName) ({ cls := "BlockRows", name := "go", desc := "(I)I" } : Jvm.MethodName)) ∈ tbW := tb_t 232 (by decide +kernel) rfl
theorem q_233 : (Cond.code y_X_go c_X_go 3 (some .int)) ∈ tbW := tb_t 233 rfl rfl
theorem q_234 : (Jvm.Cond.methodLink "BlockRowsLaw" (63 : Nat) ({ cls := "BlockRowsLaw", name := "run", desc := "(LBlockRows;I[J)I" } : Jvm.MethodName)) ∈ tbW := tb_t 234 (by decide +kernel) rfl
theorem q_235 : (Jvm.Cond.static ({ cls := "BlockRowsLaw", name := "run", desc := "(LBlockRows;I[J)I" } : Jvm.MethodName)) ∈ tbW := tb_t 235 (by decide +kernel) rfl
theorem q_236 : (Cond.codeWith y_L_run c_L_run 4 (some .int) [(0, 9, 12, 15)]) ∈ tbW := tb_t 236 rfl rfl
theorem q_237 : (Jvm.Cond.methodLink "BlockRowsLaw" (27 : Nat) ({ cls := "BlockRows", name := "run", desc := "(I)I" } : Jvm.MethodName)) ∈ tbW := tb_t 237 (by decide +kernel) rfl
theorem q_238 : (Jvm.Cond.instanceMethod ({ cls := "BlockRows", name := "run", desc := "(I)I" } : Jvm.MethodName)) ∈ tbW := tb_t 238 (by decide +kernel) rfl
theorem q_239 : (Jvm.Cond.selects "BlockRows" ({ cls := "BlockRows", name := "run", desc := "(I)I" } : Jvm.MethodName) ({ cls := "BlockRows", name := "run", desc := "(I)I" } : Jvm.MethodName)) ∈ tbW := tb_t 239 (by decide +kernel) rfl
theorem q_240 : (Cond.code y_X_run c_X_run 4 (some .int)) ∈ tbW := tb_t 240 rfl rfl
theorem q_241 : (Jvm.Cond.stringRef "BlockRows" (63 : Nat) "not 1 to 100 steps") ∈ lw_tbl := tb_r 241 (by decide +kernel)
theorem q_242 : (Jvm.Cond.methodLink "BlockRows" (65 : Nat) ({ cls := "BlockRows", name := "doBlock", desc := "(I)I" } : Jvm.MethodName)) ∈ tbW := tb_t 242 (by decide +kernel) rfl
theorem q_243 : (Jvm.Cond.privateMethod ({ cls := "BlockRows", name := "doBlock", desc := "(I)I" } : Jvm.MethodName)) ∈ lw_tbl := tb_r 243 (by decide +kernel)
theorem q_244 : (Jvm.Cond.instanceMethod ({ cls := "BlockRows", name := "doBlock", desc := "(I)I" } : Jvm.MethodName)) ∈ tbW := tb_t 244 (by decide +kernel) rfl
theorem q_245 : (Cond.code y_X_doBlock c_X_doBlock 5 (some .int)) ∈ tbW := tb_t 245 rfl rfl
theorem q_246 : (Jvm.Cond.methodLink "BlockRows" (123 : Nat) ({ cls := "BlockRows", name := "blockAt", desc := "(I)LBlockRows$Block;" } : Jvm.MethodName)) ∈ tbW := tb_t 246 (by decide +kernel) rfl
theorem q_247 : (Jvm.Cond.privateMethod ({ cls := "BlockRows", name := "blockAt", desc := "(I)LBlockRows$Block;" } : Jvm.MethodName)) ∈ lw_tbl := tb_r 247 (by decide +kernel)
theorem q_248 : (Jvm.Cond.instanceMethod ({ cls := "BlockRows", name := "blockAt", desc := "(I)LBlockRows$Block;" } : Jvm.MethodName)) ∈ tbW := tb_t 248 (by decide +kernel) rfl
theorem q_249 : (Cond.code y_X_blockAt c_X_blockAt 3 (some (.object "BlockRows$Block"))) ∈ tbW := tb_t 249 rfl rfl
theorem q_250 : (Jvm.Cond.methodLinkNest "BlockRows" (133 : Nat) ({ cls := "BlockRows$Block", name := "beginsAt", desc := "(I)Z" } : Jvm.MethodName) "BlockRows") ∈ lw_tbl := tb_r 250 (by decide +kernel)
theorem q_251 : (Jvm.Cond.privateMethod ({ cls := "BlockRows$Block", name := "beginsAt", desc := "(I)Z" } : Jvm.MethodName)) ∈ lw_tbl := tb_r 251 (by decide +kernel)
theorem q_252 : (Jvm.Cond.instanceMethod ({ cls := "BlockRows$Block", name := "beginsAt", desc := "(I)Z" } : Jvm.MethodName)) ∈ tbW := tb_t 252 (by decide +kernel) rfl
theorem q_253 : (Cond.code y_B_beginsAt c_B_beginsAt 2 (some .boolean)) ∈ tbW := tb_t 253 rfl rfl
theorem q_254 : (Jvm.Cond.methodLink "BlockRows" (136 : Nat) ({ cls := "BlockRows", name := "decode", desc := "(LBlockRows$Block;I)V" } : Jvm.MethodName)) ∈ tbW := tb_t 254 (by decide +kernel) rfl
theorem q_255 : (Jvm.Cond.privateMethod ({ cls := "BlockRows", name := "decode", desc := "(LBlockRows$Block;I)V" } : Jvm.MethodName)) ∈ lw_tbl := tb_r 255 (by decide +kernel)
theorem q_256 : (Jvm.Cond.instanceMethod ({ cls := "BlockRows", name := "decode", desc := "(LBlockRows$Block;I)V" } : Jvm.MethodName)) ∈ tbW := tb_t 256 (by decide +kernel) rfl
theorem q_257 : (Cond.code y_X_decode c_X_decode 8 none) ∈ tbW := tb_t 257 rfl rfl
theorem q_258 : (Jvm.Cond.methodLink "BlockRows" (140 : Nat) ({ cls := "BlockRows", name := "wordAt", desc := "(I)I" } : Jvm.MethodName)) ∈ tbW := tb_t 258 (by decide +kernel) rfl
theorem q_259 : (Jvm.Cond.privateMethod ({ cls := "BlockRows", name := "wordAt", desc := "(I)I" } : Jvm.MethodName)) ∈ lw_tbl := tb_r 259 (by decide +kernel)
theorem q_260 : (Jvm.Cond.instanceMethod ({ cls := "BlockRows", name := "wordAt", desc := "(I)I" } : Jvm.MethodName)) ∈ tbW := tb_t 260 (by decide +kernel) rfl
theorem q_261 : (Cond.code y_X_wordAt c_X_wordAt 3 (some .int)) ∈ tbW := tb_t 261 rfl rfl
theorem q_262 : (Jvm.Cond.constant "BlockRows" (152 : Nat) (65536 : Int32)) ∈ tbW := tb_t 262 (by decide +kernel) rfl
theorem q_263 : (Jvm.Cond.methodLink "BlockRows" (146 : Nat) ({ cls := "BlockRows", name := "lengthOf", desc := "(I)I" } : Jvm.MethodName)) ∈ tbW := tb_t 263 (by decide +kernel) rfl
theorem q_264 : (Jvm.Cond.static ({ cls := "BlockRows", name := "lengthOf", desc := "(I)I" } : Jvm.MethodName)) ∈ tbW := tb_t 264 (by decide +kernel) rfl
theorem q_265 : (Cond.code y_X_lengthOf c_X_lengthOf 1 (some .int)) ∈ tbW := tb_t 265 rfl rfl
theorem q_266 : (Jvm.Cond.methodLink "BlockRows" (143 : Nat) ({ cls := "BlockRows", name := "bytesOfOutside", desc := "(I)I" } : Jvm.MethodName)) ∈ tbW := tb_t 266 (by decide +kernel) rfl
theorem q_267 : (Jvm.Cond.static ({ cls := "BlockRows", name := "bytesOfOutside", desc := "(I)I" } : Jvm.MethodName)) ∈ tbW := tb_t 267 (by decide +kernel) rfl
theorem q_268 : (Cond.code y_X_bytesOfOutside c_X_bytesOfOutside 1 (some .int)) ∈ tbW := tb_t 268 rfl rfl
theorem q_269 : (Jvm.Cond.methodLink "BlockRows" (149 : Nat) ({ cls := "BlockRows", name := "endsBlock", desc := "(I)Z" } : Jvm.MethodName)) ∈ tbW := tb_t 269 (by decide +kernel) rfl
theorem q_270 : (Jvm.Cond.static ({ cls := "BlockRows", name := "endsBlock", desc := "(I)Z" } : Jvm.MethodName)) ∈ tbW := tb_t 270 (by decide +kernel) rfl
theorem q_271 : (Cond.code y_X_endsBlock c_X_endsBlock 1 (some .boolean)) ∈ tbW := tb_t 271 rfl rfl
theorem q_272 : (Jvm.Cond.methodLink "BlockRows" (130 : Nat) ({ cls := "BlockRows", name := "doWord", desc := "(I)Z" } : Jvm.MethodName)) ∈ tbW := tb_t 272 (by decide +kernel) rfl
theorem q_273 : (Jvm.Cond.privateMethod ({ cls := "BlockRows", name := "doWord", desc := "(I)Z" } : Jvm.MethodName)) ∈ lw_tbl := tb_r 273 (by decide +kernel)
theorem q_274 : (Jvm.Cond.instanceMethod ({ cls := "BlockRows", name := "doWord", desc := "(I)Z" } : Jvm.MethodName)) ∈ tbW := tb_t 274 (by decide +kernel) rfl
theorem q_275 : (Cond.code y_X_doWord c_X_doWord 5 (some .boolean)) ∈ tbW := tb_t 275 rfl rfl
theorem q_276 : (Jvm.Cond.methodLink "BlockRows" (153 : Nat) ({ cls := "BlockRows", name := "stateBefore", desc := "(II)I" } : Jvm.MethodName)) ∈ tbW := tb_t 276 (by decide +kernel) rfl
theorem q_277 : (Jvm.Cond.privateMethod ({ cls := "BlockRows", name := "stateBefore", desc := "(II)I" } : Jvm.MethodName)) ∈ lw_tbl := tb_r 277 (by decide +kernel)
theorem q_278 : (Jvm.Cond.instanceMethod ({ cls := "BlockRows", name := "stateBefore", desc := "(II)I" } : Jvm.MethodName)) ∈ tbW := tb_t 278 (by decide +kernel) rfl
theorem q_279 : (Cond.code y_X_stateBefore c_X_stateBefore 3 (some .int)) ∈ tbW := tb_t 279 rfl rfl
theorem q_280 : (Jvm.Cond.methodLink "BlockRows" (156 : Nat) ({ cls := "BlockRows", name := "perform", desc := "(III)V" } : Jvm.MethodName)) ∈ tbW := tb_t 280 (by decide +kernel) rfl
theorem q_281 : (Jvm.Cond.privateMethod ({ cls := "BlockRows", name := "perform", desc := "(III)V" } : Jvm.MethodName)) ∈ lw_tbl := tb_r 281 (by decide +kernel)
theorem q_282 : (Jvm.Cond.instanceMethod ({ cls := "BlockRows", name := "perform", desc := "(III)V" } : Jvm.MethodName)) ∈ tbW := tb_t 282 (by decide +kernel) rfl
theorem q_283 : (Cond.code y_X_perform c_X_perform 6 none) ∈ tbW := tb_t 283 rfl rfl
theorem q_284 : (Jvm.Cond.methodLink "BlockRows" (160 : Nat) ({ cls := "BlockRows", name := "belowZeroToo", desc := "(I)I" } : Jvm.MethodName)) ∈ tbW := tb_t 284 (by decide +kernel) rfl
theorem q_285 : (Jvm.Cond.static ({ cls := "BlockRows", name := "belowZeroToo", desc := "(I)I" } : Jvm.MethodName)) ∈ tbW := tb_t 285 (by decide +kernel) rfl
theorem q_286 : (Cond.code y_X_belowZeroToo c_X_belowZeroToo 1 (some .int)) ∈ tbW := tb_t 286 rfl rfl
theorem q_287 : (Jvm.Cond.methodLink "BlockRows" (163 : Nat) ({ cls := "BlockRows", name := "holds", desc := "(I)Z" } : Jvm.MethodName)) ∈ tbW := tb_t 287 (by decide +kernel) rfl
theorem q_288 : (Jvm.Cond.privateMethod ({ cls := "BlockRows", name := "holds", desc := "(I)Z" } : Jvm.MethodName)) ∈ lw_tbl := tb_r 288 (by decide +kernel)
theorem q_289 : (Jvm.Cond.instanceMethod ({ cls := "BlockRows", name := "holds", desc := "(I)Z" } : Jvm.MethodName)) ∈ tbW := tb_t 289 (by decide +kernel) rfl
theorem q_290 : (Cond.code y_X_holds c_X_holds 2 (some .boolean)) ∈ tbW := tb_t 290 rfl rfl
theorem q_291 : (Jvm.Cond.methodLink "BlockRows" (69 : Nat) ({ cls := "BlockRows", name := "isZero", desc := "()Z" } : Jvm.MethodName)) ∈ tbW := tb_t 291 (by decide +kernel) rfl
theorem q_292 : (Jvm.Cond.privateMethod ({ cls := "BlockRows", name := "isZero", desc := "()Z" } : Jvm.MethodName)) ∈ lw_tbl := tb_r 292 (by decide +kernel)
theorem q_293 : (Jvm.Cond.instanceMethod ({ cls := "BlockRows", name := "isZero", desc := "()Z" } : Jvm.MethodName)) ∈ tbW := tb_t 293 (by decide +kernel) rfl
theorem q_294 : (Cond.code y_X_isZero c_X_isZero 1 (some .boolean)) ∈ tbW := tb_t 294 rfl rfl
theorem q_295 : (Jvm.Cond.methodLink "BlockRows" (73 : Nat) ({ cls := "BlockRows", name := "isBelow", desc := "()Z" } : Jvm.MethodName)) ∈ tbW := tb_t 295 (by decide +kernel) rfl
theorem q_296 : (Jvm.Cond.privateMethod ({ cls := "BlockRows", name := "isBelow", desc := "()Z" } : Jvm.MethodName)) ∈ lw_tbl := tb_r 296 (by decide +kernel)
theorem q_297 : (Jvm.Cond.instanceMethod ({ cls := "BlockRows", name := "isBelow", desc := "()Z" } : Jvm.MethodName)) ∈ tbW := tb_t 297 (by decide +kernel) rfl
theorem q_298 : (Cond.code y_X_isBelow c_X_isBelow 1 (some .boolean)) ∈ tbW := tb_t 298 rfl rfl
theorem q_299 : (Jvm.Cond.methodLink "BlockRows" (166 : Nat) ({ cls := "BlockRows", name := "worked", desc := "(III)I" } : Jvm.MethodName)) ∈ tbW := tb_t 299 (by decide +kernel) rfl
theorem q_300 : (Jvm.Cond.static ({ cls := "BlockRows", name := "worked", desc := "(III)I" } : Jvm.MethodName)) ∈ tbW := tb_t 300 (by decide +kernel) rfl
theorem q_301 : (Cond.code y_X_worked c_X_worked 3 (some .int)) ∈ tbW := tb_t 301 rfl rfl
theorem q_302 : (Jvm.Cond.methodLink "BlockRowsLaw" (66 : Nat) ({ cls := "BlockRowsLaw", name := "memory", desc := "(LBlockRows;I[J)I" } : Jvm.MethodName)) ∈ tbW := tb_t 302 (by decide +kernel) rfl
theorem q_303 : (Jvm.Cond.static ({ cls := "BlockRowsLaw", name := "memory", desc := "(LBlockRows;I[J)I" } : Jvm.MethodName)) ∈ tbW := tb_t 303 (by decide +kernel) rfl
theorem q_304 : (Cond.codeWith y_L_memory c_L_memory 4 (some .int) [(0, 9, 12, 13)]) ∈ tbW := tb_t 304 rfl rfl
theorem q_305 : (Jvm.Cond.methodLink "BlockRowsLaw" (30 : Nat) ({ cls := "BlockRows", name := "memory", desc := "(I)I" } : Jvm.MethodName)) ∈ tbW := tb_t 305 (by decide +kernel) rfl
theorem q_306 : (Jvm.Cond.instanceMethod ({ cls := "BlockRows", name := "memory", desc := "(I)I" } : Jvm.MethodName)) ∈ tbW := tb_t 306 (by decide +kernel) rfl
theorem q_307 : (Jvm.Cond.selects "BlockRows" ({ cls := "BlockRows", name := "memory", desc := "(I)I" } : Jvm.MethodName) ({ cls := "BlockRows", name := "memory", desc := "(I)I" } : Jvm.MethodName)) ∈ tbW := tb_t 307 (by decide +kernel) rfl
theorem q_308 : (Cond.code y_X_memory c_X_memory 2 (some .int)) ∈ tbW := tb_t 308 rfl rfl
theorem q_309 : (Jvm.Cond.methodLink "BlockRowsLaw" (69 : Nat) ({ cls := "BlockRowsLaw", name := "register", desc := "(LBlockRows;I[J)I" } : Jvm.MethodName)) ∈ tbW := tb_t 309 (by decide +kernel) rfl
theorem q_310 : (Jvm.Cond.static ({ cls := "BlockRowsLaw", name := "register", desc := "(LBlockRows;I[J)I" } : Jvm.MethodName)) ∈ tbW := tb_t 310 (by decide +kernel) rfl
theorem q_311 : (Cond.codeWith y_L_register c_L_register 4 (some .int) [(0, 9, 12, 13)]) ∈ tbW := tb_t 311 rfl rfl
theorem q_312 : (Jvm.Cond.methodLink "BlockRowsLaw" (33 : Nat) ({ cls := "BlockRows", name := "register", desc := "(I)I" } : Jvm.MethodName)) ∈ tbW := tb_t 312 (by decide +kernel) rfl
theorem q_313 : (Jvm.Cond.instanceMethod ({ cls := "BlockRows", name := "register", desc := "(I)I" } : Jvm.MethodName)) ∈ tbW := tb_t 313 (by decide +kernel) rfl
theorem q_314 : (Jvm.Cond.selects "BlockRows" ({ cls := "BlockRows", name := "register", desc := "(I)I" } : Jvm.MethodName) ({ cls := "BlockRows", name := "register", desc := "(I)I" } : Jvm.MethodName)) ∈ tbW := tb_t 314 (by decide +kernel) rfl
theorem q_315 : (Cond.code y_X_register c_X_register 2 (some .int)) ∈ tbW := tb_t 315 rfl rfl
theorem q_316 : (Jvm.Cond.methodLink "BlockRowsLaw" (72 : Nat) ({ cls := "BlockRowsLaw", name := "row", desc := "(LBlockRows;II[J)I" } : Jvm.MethodName)) ∈ tbW := tb_t 316 (by decide +kernel) rfl
theorem q_317 : (Jvm.Cond.static ({ cls := "BlockRowsLaw", name := "row", desc := "(LBlockRows;II[J)I" } : Jvm.MethodName)) ∈ tbW := tb_t 317 (by decide +kernel) rfl
theorem q_318 : (Cond.codeWith y_L_row c_L_row 5 (some .int) [(0, 10, 13, 13)]) ∈ tbW := tb_t 318 rfl rfl
theorem q_319 : (Jvm.Cond.methodLink "BlockRowsLaw" (36 : Nat) ({ cls := "BlockRows", name := "row", desc := "(II)I" } : Jvm.MethodName)) ∈ tbW := tb_t 319 (by decide +kernel) rfl
theorem q_320 : (Jvm.Cond.instanceMethod ({ cls := "BlockRows", name := "row", desc := "(II)I" } : Jvm.MethodName)) ∈ tbW := tb_t 320 (by decide +kernel) rfl
theorem q_321 : (Jvm.Cond.selects "BlockRows" ({ cls := "BlockRows", name := "row", desc := "(II)I" } : Jvm.MethodName) ({ cls := "BlockRows", name := "row", desc := "(II)I" } : Jvm.MethodName)) ∈ tbW := tb_t 321 (by decide +kernel) rfl
theorem q_322 : (Cond.code y_X_row c_X_row 4 (some .int)) ∈ tbW := tb_t 322 rfl rfl
theorem q_323 : (Jvm.Cond.stringRef "BlockRows" (76 : Nat) "no such row or what") ∈ lw_tbl := tb_r 323 (by decide +kernel)
theorem q_324 : (Jvm.Cond.classLink "BlockRowsLaw" (40 : Nat) "BlockRowsModel") ∈ tbW := tb_t 324 (by decide +kernel) rfl
theorem q_325 : (Jvm.Cond.instantiable "BlockRowsModel" (19 : Nat)) ∈ tbW := tb_t 325 (by decide +kernel) rfl
theorem q_326 : (Jvm.Cond.methodLink "BlockRowsLaw" (42 : Nat) ({ cls := "BlockRowsModel", name := "<init>", desc := "()V" } : Jvm.MethodName)) ∈ tbW := tb_t 326 (by decide +kernel) rfl
theorem q_327 : (Jvm.Cond.instanceMethod ({ cls := "BlockRowsModel", name := "<init>", desc := "()V" } : Jvm.MethodName)) ∈ tbW := tb_t 327 (by decide +kernel) rfl
theorem q_328 : (Cond.code y_M_init c_M_init 1 none) ∈ tbW := tb_t 328 rfl rfl
theorem q_329 : (Jvm.Cond.methodLink "BlockRowsModel" (1 : Nat) ({ cls := "java/lang/Object", name := "<init>", desc := "()V" } : Jvm.MethodName)) ∈ tbW := tb_t 329 (by decide +kernel) rfl
theorem q_330 : (Jvm.Cond.fieldLink "BlockRowsModel" (29 : Nat) "BlockRowsModel" "thrown" "I") ∈ tbW := tb_t 330 (by decide +kernel) rfl
theorem q_331 : (Jvm.Cond.fieldLink "BlockRowsModel" (7 : Nat) "BlockRowsModel" "memory" "[I") ∈ tbW := tb_t 331 (by decide +kernel) rfl
theorem q_332 : (Jvm.Cond.fieldLink "BlockRowsModel" (13 : Nat) "BlockRowsModel" "registers" "[I") ∈ tbW := tb_t 332 (by decide +kernel) rfl
theorem q_333 : (Jvm.Cond.fieldLink "BlockRowsModel" (63 : Nat) "BlockRowsModel" "place" "I") ∈ tbW := tb_t 333 (by decide +kernel) rfl
theorem q_334 : (Jvm.Cond.fieldLink "BlockRowsModel" (66 : Nat) "BlockRowsModel" "state" "I") ∈ tbW := tb_t 334 (by decide +kernel) rfl
theorem q_335 : (Jvm.Cond.fieldLink "BlockRowsModel" (91 : Nat) "BlockRowsModel" "zero" "Z") ∈ tbW := tb_t 335 (by decide +kernel) rfl
theorem q_336 : (Jvm.Cond.fieldLink "BlockRowsModel" (94 : Nat) "BlockRowsModel" "less" "Z") ∈ tbW := tb_t 336 (by decide +kernel) rfl
theorem q_337 : (Jvm.Cond.fieldLink "BlockRowsModel" (16 : Nat) "BlockRowsModel" "kept" "[Z") ∈ tbW := tb_t 337 (by decide +kernel) rfl
theorem q_338 : (Jvm.Cond.fieldLink "BlockRowsModel" (20 : Nat) "BlockRowsModel" "places" "[I") ∈ tbW := tb_t 338 (by decide +kernel) rfl
theorem q_339 : (Jvm.Cond.fieldLink "BlockRowsModel" (23 : Nat) "BlockRowsModel" "words" "[I") ∈ tbW := tb_t 339 (by decide +kernel) rfl
theorem q_340 : (Jvm.Cond.fieldLink "BlockRowsModel" (26 : Nat) "BlockRowsModel" "bytes" "[I") ∈ tbW := tb_t 340 (by decide +kernel) rfl
theorem q_341 : (Jvm.Cond.fieldLink "BlockRowsModel" (48 : Nat) "BlockRowsModel" "current" "I") ∈ tbW := tb_t 341 (by decide +kernel) rfl
theorem q_342 : (Jvm.Cond.fieldLink "BlockRowsModel" (44 : Nat) "BlockRowsModel" "isWritten" "Z") ∈ tbW := tb_t 342 (by decide +kernel) rfl
theorem q_343 : (Jvm.Cond.fieldLink "BlockRowsModel" (120 : Nat) "BlockRowsModel" "steps" "I") ∈ tbW := tb_t 343 (by decide +kernel) rfl
theorem q_344 : (Jvm.Cond.fieldLink "BlockRowsModel" (79 : Nat) "BlockRowsModel" "made" "I") ∈ tbW := tb_t 344 (by decide +kernel) rfl
theorem q_345 : (Jvm.Cond.fieldLink "BlockRowsModel" (85 : Nat) "BlockRowsModel" "hits" "I") ∈ tbW := tb_t 345 (by decide +kernel) rfl
theorem q_346 : (Jvm.Cond.fieldLink "BlockRowsModel" (37 : Nat) "BlockRowsModel" "out" "I") ∈ tbW := tb_t 346 (by decide +kernel) rfl
theorem q_347 : (Jvm.Cond.fieldLink "BlockRowsModel" (110 : Nat) "BlockRowsModel" "stored" "I") ∈ tbW := tb_t 347 (by decide +kernel) rfl
theorem q_348 : (Jvm.Cond.fieldLink "BlockRowsModel" (82 : Nat) "BlockRowsModel" "decoded" "I") ∈ tbW := tb_t 348 (by decide +kernel) rfl
theorem q_349 : (Jvm.Cond.lays "BlockRowsModel" "BlockRowsModel" "thrown" "I") ∈ tbW := tb_t 349 (by decide +kernel) rfl
theorem q_350 : (Jvm.Cond.soleField "BlockRowsModel" "thrown") ∈ tbW := tb_t 350 (by decide +kernel) rfl
theorem q_351 : (Jvm.Cond.laysFinal "BlockRowsModel" "BlockRowsModel" "memory" "[I") ∈ tbW := tb_t 351 (by decide +kernel) rfl
theorem q_352 : (Jvm.Cond.soleField "BlockRowsModel" "memory") ∈ tbW := tb_t 352 (by decide +kernel) rfl
theorem q_353 : (Jvm.Cond.laysFinal "BlockRowsModel" "BlockRowsModel" "registers" "[I") ∈ tbW := tb_t 353 (by decide +kernel) rfl
theorem q_354 : (Jvm.Cond.soleField "BlockRowsModel" "registers") ∈ tbW := tb_t 354 (by decide +kernel) rfl
theorem q_355 : (Jvm.Cond.lays "BlockRowsModel" "BlockRowsModel" "place" "I") ∈ tbW := tb_t 355 (by decide +kernel) rfl
theorem q_356 : (Jvm.Cond.soleField "BlockRowsModel" "place") ∈ tbW := tb_t 356 (by decide +kernel) rfl
theorem q_357 : (Jvm.Cond.lays "BlockRowsModel" "BlockRowsModel" "state" "I") ∈ tbW := tb_t 357 (by decide +kernel) rfl
theorem q_358 : (Jvm.Cond.soleField "BlockRowsModel" "state") ∈ tbW := tb_t 358 (by decide +kernel) rfl
theorem q_359 : (Jvm.Cond.lays "BlockRowsModel" "BlockRowsModel" "zero" "Z") ∈ tbW := tb_t 359 (by decide +kernel) rfl
theorem q_360 : (Jvm.Cond.soleField "BlockRowsModel" "zero") ∈ tbW := tb_t 360 (by decide +kernel) rfl
theorem q_361 : (Jvm.Cond.lays "BlockRowsModel" "BlockRowsModel" "less" "Z") ∈ tbW := tb_t 361 (by decide +kernel) rfl
theorem q_362 : (Jvm.Cond.soleField "BlockRowsModel" "less") ∈ tbW := tb_t 362 (by decide +kernel) rfl
theorem q_363 : (Jvm.Cond.laysFinal "BlockRowsModel" "BlockRowsModel" "kept" "[Z") ∈ tbW := tb_t 363 (by decide +kernel) rfl
theorem q_364 : (Jvm.Cond.soleField "BlockRowsModel" "kept") ∈ tbW := tb_t 364 (by decide +kernel) rfl
theorem q_365 : (Jvm.Cond.laysFinal "BlockRowsModel" "BlockRowsModel" "places" "[I") ∈ tbW := tb_t 365 (by decide +kernel) rfl
theorem q_366 : (Jvm.Cond.soleField "BlockRowsModel" "places") ∈ tbW := tb_t 366 (by decide +kernel) rfl
theorem q_367 : (Jvm.Cond.laysFinal "BlockRowsModel" "BlockRowsModel" "words" "[I") ∈ tbW := tb_t 367 (by decide +kernel) rfl
theorem q_368 : (Jvm.Cond.soleField "BlockRowsModel" "words") ∈ tbW := tb_t 368 (by decide +kernel) rfl
theorem q_369 : (Jvm.Cond.laysFinal "BlockRowsModel" "BlockRowsModel" "bytes" "[I") ∈ tbW := tb_t 369 (by decide +kernel) rfl
theorem q_370 : (Jvm.Cond.soleField "BlockRowsModel" "bytes") ∈ tbW := tb_t 370 (by decide +kernel) rfl
theorem q_371 : (Jvm.Cond.lays "BlockRowsModel" "BlockRowsModel" "current" "I") ∈ tbW := tb_t 371 (by decide +kernel) rfl
theorem q_372 : (Jvm.Cond.soleField "BlockRowsModel" "current") ∈ tbW := tb_t 372 (by decide +kernel) rfl
theorem q_373 : (Jvm.Cond.lays "BlockRowsModel" "BlockRowsModel" "isWritten" "Z") ∈ tbW := tb_t 373 (by decide +kernel) rfl
theorem q_374 : (Jvm.Cond.soleField "BlockRowsModel" "isWritten") ∈ tbW := tb_t 374 (by decide +kernel) rfl
theorem q_375 : (Jvm.Cond.lays "BlockRowsModel" "BlockRowsModel" "steps" "I") ∈ tbW := tb_t 375 (by decide +kernel) rfl
theorem q_376 : (Jvm.Cond.soleField "BlockRowsModel" "steps") ∈ tbW := tb_t 376 (by decide +kernel) rfl
theorem q_377 : (Jvm.Cond.lays "BlockRowsModel" "BlockRowsModel" "made" "I") ∈ tbW := tb_t 377 (by decide +kernel) rfl
theorem q_378 : (Jvm.Cond.soleField "BlockRowsModel" "made") ∈ tbW := tb_t 378 (by decide +kernel) rfl
theorem q_379 : (Jvm.Cond.lays "BlockRowsModel" "BlockRowsModel" "hits" "I") ∈ tbW := tb_t 379 (by decide +kernel) rfl
theorem q_380 : (Jvm.Cond.soleField "BlockRowsModel" "hits") ∈ tbW := tb_t 380 (by decide +kernel) rfl
theorem q_381 : (Jvm.Cond.lays "BlockRowsModel" "BlockRowsModel" "out" "I") ∈ tbW := tb_t 381 (by decide +kernel) rfl
theorem q_382 : (Jvm.Cond.soleField "BlockRowsModel" "out") ∈ tbW := tb_t 382 (by decide +kernel) rfl
theorem q_383 : (Jvm.Cond.lays "BlockRowsModel" "BlockRowsModel" "stored" "I") ∈ tbW := tb_t 383 (by decide +kernel) rfl
theorem q_384 : (Jvm.Cond.soleField "BlockRowsModel" "stored") ∈ tbW := tb_t 384 (by decide +kernel) rfl
theorem q_385 : (Jvm.Cond.lays "BlockRowsModel" "BlockRowsModel" "decoded" "I") ∈ tbW := tb_t 385 (by decide +kernel) rfl
theorem q_386 : (Jvm.Cond.soleField "BlockRowsModel" "decoded") ∈ tbW := tb_t 386 (by decide +kernel) rfl
theorem q_387 : (Jvm.Cond.superclass "BlockRowsModel" "java/lang/Object") ∈ tbW := tb_t 387 (by decide +kernel) rfl
theorem q_388 : (Jvm.Cond.arrayClass Jvm.ClassFile.FieldType.boolean) ∈ tbW := tb_t 388 (by decide +kernel) rfl
theorem q_389 : (Jvm.Cond.methodLink "BlockRowsLaw" (49 : Nat) ({ cls := "BlockRowsModel", name := "thrown", desc := "()I" } : Jvm.MethodName)) ∈ tbW := tb_t 389 (by decide +kernel) rfl
theorem q_390 : (Jvm.Cond.instanceMethod ({ cls := "BlockRowsModel", name := "thrown", desc := "()I" } : Jvm.MethodName)) ∈ tbW := tb_t 390 (by decide +kernel) rfl
theorem q_391 : (Jvm.Cond.selects "BlockRowsModel" ({ cls := "BlockRowsModel", name := "thrown", desc := "()I" } : Jvm.MethodName) ({ cls := "BlockRowsModel", name := "thrown", desc := "()I" } : Jvm.MethodName)) ∈ tbW := tb_t 391 (by decide +kernel) rfl
theorem q_392 : (Cond.code y_M_thrown c_M_thrown 1 (some .int)) ∈ tbW := tb_t 392 rfl rfl
theorem q_393 : (Jvm.Cond.methodLink "BlockRowsLaw" (48 : Nat) ({ cls := "BlockRowsModel", name := "poke", desc := "(II)I" } : Jvm.MethodName)) ∈ tbW := tb_t 393 (by decide +kernel) rfl
theorem q_394 : (Jvm.Cond.instanceMethod ({ cls := "BlockRowsModel", name := "poke", desc := "(II)I" } : Jvm.MethodName)) ∈ tbW := tb_t 394 (by decide +kernel) rfl
theorem q_395 : (Jvm.Cond.selects "BlockRowsModel" ({ cls := "BlockRowsModel", name := "poke", desc := "(II)I" } : Jvm.MethodName) ({ cls := "BlockRowsModel", name := "poke", desc := "(II)I" } : Jvm.MethodName)) ∈ tbW := tb_t 395 (by decide +kernel) rfl
theorem q_396 : (Cond.code y_M_poke c_M_poke 4 (some .int)) ∈ tbW := tb_t 396 rfl rfl
theorem q_397 : (Jvm.Cond.methodLink "BlockRowsModel" (51 : Nat) ({ cls := "BlockRowsModel", name := "isThere", desc := "(I)Z" } : Jvm.MethodName)) ∈ tbW := tb_t 397 (by decide +kernel) rfl
theorem q_398 : (Jvm.Cond.static ({ cls := "BlockRowsModel", name := "isThere", desc := "(I)Z" } : Jvm.MethodName)) ∈ tbW := tb_t 398 (by decide +kernel) rfl
theorem q_399 : (Cond.code y_M_isThere c_M_isThere 1 (some .boolean)) ∈ tbW := tb_t 399 rfl rfl
theorem q_400 : (Jvm.Cond.methodLink "BlockRowsModel" (33 : Nat) ({ cls := "BlockRowsModel", name := "in", desc := "(III)Z" } : Jvm.MethodName)) ∈ tbW := tb_t 400 (by decide +kernel) rfl
theorem q_401 : (Jvm.Cond.static ({ cls := "BlockRowsModel", name := "in", desc := "(III)Z" } : Jvm.MethodName)) ∈ tbW := tb_t 401 (by decide +kernel) rfl
theorem q_402 : (Cond.code y_M_in c_M_in 3 (some .boolean)) ∈ tbW := tb_t 402 rfl rfl
theorem q_403 : (Jvm.Cond.methodLink "BlockRowsModel" (55 : Nat) ({ cls := "BlockRowsModel", name := "throwing", desc := "(ZZ)Z" } : Jvm.MethodName)) ∈ tbW := tb_t 403 (by decide +kernel) rfl
theorem q_404 : (Jvm.Cond.privateMethod ({ cls := "BlockRowsModel", name := "throwing", desc := "(ZZ)Z" } : Jvm.MethodName)) ∈ lw_tbl := tb_r 404 (by decide +kernel)
theorem q_405 : (Jvm.Cond.instanceMethod ({ cls := "BlockRowsModel", name := "throwing", desc := "(ZZ)Z" } : Jvm.MethodName)) ∈ tbW := tb_t 405 (by decide +kernel) rfl
theorem q_406 : (Cond.code y_M_throwing c_M_throwing 3 (some .boolean)) ∈ tbW := tb_t 406 rfl rfl
theorem q_407 : (Jvm.Cond.methodLink "BlockRowsModel" (59 : Nat) ({ cls := "BlockRowsModel", name := "write", desc := "(II)V" } : Jvm.MethodName)) ∈ tbW := tb_t 407 (by decide +kernel) rfl
theorem q_408 : (Jvm.Cond.privateMethod ({ cls := "BlockRowsModel", name := "write", desc := "(II)V" } : Jvm.MethodName)) ∈ lw_tbl := tb_r 408 (by decide +kernel)
theorem q_409 : (Jvm.Cond.instanceMethod ({ cls := "BlockRowsModel", name := "write", desc := "(II)V" } : Jvm.MethodName)) ∈ tbW := tb_t 409 (by decide +kernel) rfl
theorem q_410 : (Cond.code y_M_write c_M_write 4 none) ∈ tbW := tb_t 410 rfl rfl
theorem q_411 : (Jvm.Cond.methodLink "BlockRowsModel" (40 : Nat) ({ cls := "BlockRowsModel", name := "throwOut", desc := "(I)V" } : Jvm.MethodName)) ∈ tbW := tb_t 411 (by decide +kernel) rfl
theorem q_412 : (Jvm.Cond.privateMethod ({ cls := "BlockRowsModel", name := "throwOut", desc := "(I)V" } : Jvm.MethodName)) ∈ lw_tbl := tb_r 412 (by decide +kernel)
theorem q_413 : (Jvm.Cond.instanceMethod ({ cls := "BlockRowsModel", name := "throwOut", desc := "(I)V" } : Jvm.MethodName)) ∈ tbW := tb_t 413 (by decide +kernel) rfl
theorem q_414 : (Cond.code y_M_throwOut c_M_throwOut 2 none) ∈ tbW := tb_t 414 rfl rfl
theorem q_415 : (Jvm.Cond.methodLink "BlockRowsLaw" (55 : Nat) ({ cls := "BlockRowsModel", name := "pokeFour", desc := "(II)I" } : Jvm.MethodName)) ∈ tbW := tb_t 415 (by decide +kernel) rfl
theorem q_416 : (Jvm.Cond.instanceMethod ({ cls := "BlockRowsModel", name := "pokeFour", desc := "(II)I" } : Jvm.MethodName)) ∈ tbW := tb_t 416 (by decide +kernel) rfl
theorem q_417 : (Jvm.Cond.selects "BlockRowsModel" ({ cls := "BlockRowsModel", name := "pokeFour", desc := "(II)I" } : Jvm.MethodName) ({ cls := "BlockRowsModel", name := "pokeFour", desc := "(II)I" } : Jvm.MethodName)) ∈ tbW := tb_t 417 (by decide +kernel) rfl
theorem q_418 : (Cond.code y_M_pokeFour c_M_pokeFour 5 (some .int)) ∈ tbW := tb_t 418 rfl rfl
theorem q_419 : (Jvm.Cond.methodLink "BlockRowsLaw" (58 : Nat) ({ cls := "BlockRowsModel", name := "set", desc := "(II)I" } : Jvm.MethodName)) ∈ tbW := tb_t 419 (by decide +kernel) rfl
theorem q_420 : (Jvm.Cond.instanceMethod ({ cls := "BlockRowsModel", name := "set", desc := "(II)I" } : Jvm.MethodName)) ∈ tbW := tb_t 420 (by decide +kernel) rfl
theorem q_421 : (Jvm.Cond.selects "BlockRowsModel" ({ cls := "BlockRowsModel", name := "set", desc := "(II)I" } : Jvm.MethodName) ({ cls := "BlockRowsModel", name := "set", desc := "(II)I" } : Jvm.MethodName)) ∈ tbW := tb_t 421 (by decide +kernel) rfl
theorem q_422 : (Cond.code y_M_set c_M_set 4 (some .int)) ∈ tbW := tb_t 422 rfl rfl
theorem q_423 : (Jvm.Cond.methodLink "BlockRowsLaw" (62 : Nat) ({ cls := "BlockRowsModel", name := "go", desc := "(I)I" } : Jvm.MethodName)) ∈ tbW := tb_t 423 (by decide +kernel) rfl
theorem q_424 : (Jvm.Cond.instanceMethod ({ cls := "BlockRowsModel", name := "go", desc := "(I)I" } : Jvm.MethodName)) ∈ tbW := tb_t 424 (by decide +kernel) rfl
theorem q_425 : (Jvm.Cond.selects "BlockRowsModel" ({ cls := "BlockRowsModel", name := "go", desc := "(I)I" } : Jvm.MethodName) ({ cls := "BlockRowsModel", name := "go", desc := "(I)I" } : Jvm.MethodName)) ∈ tbW := tb_t 425 (by decide +kernel) rfl
theorem q_426 : (Cond.code y_M_go c_M_go 3 (some .int)) ∈ tbW := tb_t 426 rfl rfl
theorem q_427 : (Jvm.Cond.methodLink "BlockRowsLaw" (65 : Nat) ({ cls := "BlockRowsModel", name := "run", desc := "(I)I" } : Jvm.MethodName)) ∈ tbW := tb_t 427 (by decide +kernel) rfl
theorem q_428 : (Jvm.Cond.instanceMethod ({ cls := "BlockRowsModel", name := "run", desc := "(I)I" } : Jvm.MethodName)) ∈ tbW := tb_t 428 (by decide +kernel) rfl
theorem q_429 : (Jvm.Cond.selects "BlockRowsModel" ({ cls := "BlockRowsModel", name := "run", desc := "(I)I" } : Jvm.MethodName) ({ cls := "BlockRowsModel", name := "run", desc := "(I)I" } : Jvm.MethodName)) ∈ tbW := tb_t 429 (by decide +kernel) rfl
theorem q_430 : (Cond.code y_M_run c_M_run 4 (some .int)) ∈ tbW := tb_t 430 rfl rfl
theorem q_431 : (Jvm.Cond.methodLink "BlockRowsModel" (113 : Nat) ({ cls := "BlockRowsModel", name := "find", desc := "()V" } : Jvm.MethodName)) ∈ tbW := tb_t 431 (by decide +kernel) rfl
theorem q_432 : (Jvm.Cond.privateMethod ({ cls := "BlockRowsModel", name := "find", desc := "()V" } : Jvm.MethodName)) ∈ lw_tbl := tb_r 432 (by decide +kernel)
theorem q_433 : (Jvm.Cond.instanceMethod ({ cls := "BlockRowsModel", name := "find", desc := "()V" } : Jvm.MethodName)) ∈ tbW := tb_t 433 (by decide +kernel) rfl
theorem q_434 : (Cond.code y_M_find c_M_find 1 none) ∈ tbW := tb_t 434 rfl rfl
theorem q_435 : (Jvm.Cond.methodLink "BlockRowsModel" (88 : Nat) ({ cls := "BlockRowsModel", name := "make", desc := "(I)V" } : Jvm.MethodName)) ∈ tbW := tb_t 435 (by decide +kernel) rfl
theorem q_436 : (Jvm.Cond.privateMethod ({ cls := "BlockRowsModel", name := "make", desc := "(I)V" } : Jvm.MethodName)) ∈ lw_tbl := tb_r 436 (by decide +kernel)
theorem q_437 : (Jvm.Cond.instanceMethod ({ cls := "BlockRowsModel", name := "make", desc := "(I)V" } : Jvm.MethodName)) ∈ tbW := tb_t 437 (by decide +kernel) rfl
theorem q_438 : (Cond.code y_M_make c_M_make 6 none) ∈ tbW := tb_t 438 rfl rfl
theorem q_439 : (Jvm.Cond.methodLink "BlockRowsModel" (69 : Nat) ({ cls := "BlockRowsModel", name := "kindAt", desc := "(I)I" } : Jvm.MethodName)) ∈ tbW := tb_t 439 (by decide +kernel) rfl
theorem q_440 : (Jvm.Cond.privateMethod ({ cls := "BlockRowsModel", name := "kindAt", desc := "(I)I" } : Jvm.MethodName)) ∈ lw_tbl := tb_r 440 (by decide +kernel)
theorem q_441 : (Jvm.Cond.instanceMethod ({ cls := "BlockRowsModel", name := "kindAt", desc := "(I)I" } : Jvm.MethodName)) ∈ tbW := tb_t 441 (by decide +kernel) rfl
theorem q_442 : (Cond.code y_M_kindAt c_M_kindAt 2 (some .int)) ∈ tbW := tb_t 442 rfl rfl
theorem q_443 : (Jvm.Cond.methodLink "BlockRowsModel" (76 : Nat) ({ cls := "BlockRowsModel", name := "faultAt", desc := "(I)I" } : Jvm.MethodName)) ∈ tbW := tb_t 443 (by decide +kernel) rfl
theorem q_444 : (Jvm.Cond.privateMethod ({ cls := "BlockRowsModel", name := "faultAt", desc := "(I)I" } : Jvm.MethodName)) ∈ lw_tbl := tb_r 444 (by decide +kernel)
theorem q_445 : (Jvm.Cond.instanceMethod ({ cls := "BlockRowsModel", name := "faultAt", desc := "(I)I" } : Jvm.MethodName)) ∈ tbW := tb_t 445 (by decide +kernel) rfl
theorem q_446 : (Cond.code y_M_faultAt c_M_faultAt 3 (some .int)) ∈ tbW := tb_t 446 rfl rfl
theorem q_447 : (Jvm.Cond.methodLink "BlockRowsModel" (73 : Nat) ({ cls := "BlockRowsModel", name := "sizeOf", desc := "(I)I" } : Jvm.MethodName)) ∈ tbW := tb_t 447 (by decide +kernel) rfl
theorem q_448 : (Jvm.Cond.static ({ cls := "BlockRowsModel", name := "sizeOf", desc := "(I)I" } : Jvm.MethodName)) ∈ tbW := tb_t 448 (by decide +kernel) rfl
theorem q_449 : (Cond.code y_M_sizeOf c_M_sizeOf 1 (some .int)) ∈ tbW := tb_t 449 rfl rfl
theorem q_450 : (Jvm.Cond.methodLink "BlockRowsModel" (116 : Nat) ({ cls := "BlockRowsModel", name := "does", desc := "()Z" } : Jvm.MethodName)) ∈ tbW := tb_t 450 (by decide +kernel) rfl
theorem q_451 : (Jvm.Cond.privateMethod ({ cls := "BlockRowsModel", name := "does", desc := "()Z" } : Jvm.MethodName)) ∈ lw_tbl := tb_r 451 (by decide +kernel)
theorem q_452 : (Jvm.Cond.instanceMethod ({ cls := "BlockRowsModel", name := "does", desc := "()Z" } : Jvm.MethodName)) ∈ tbW := tb_t 452 (by decide +kernel) rfl
theorem q_453 : (Cond.code y_M_does c_M_does 8 (some .boolean)) ∈ tbW := tb_t 453 rfl rfl
theorem q_454 : (Jvm.Cond.methodLink "BlockRowsModel" (97 : Nat) ({ cls := "BlockRowsModel", name := "fault", desc := "(I)V" } : Jvm.MethodName)) ∈ tbW := tb_t 454 (by decide +kernel) rfl
theorem q_455 : (Jvm.Cond.privateMethod ({ cls := "BlockRowsModel", name := "fault", desc := "(I)V" } : Jvm.MethodName)) ∈ lw_tbl := tb_r 455 (by decide +kernel)
theorem q_456 : (Jvm.Cond.instanceMethod ({ cls := "BlockRowsModel", name := "fault", desc := "(I)V" } : Jvm.MethodName)) ∈ tbW := tb_t 456 (by decide +kernel) rfl
theorem q_457 : (Cond.code y_M_fault c_M_fault 2 none) ∈ tbW := tb_t 457 rfl rfl
theorem q_458 : (Jvm.Cond.methodLink "BlockRowsModel" (100 : Nat) ({ cls := "BlockRowsModel", name := "holds", desc := "(I)Z" } : Jvm.MethodName)) ∈ tbW := tb_t 458 (by decide +kernel) rfl
theorem q_459 : (Jvm.Cond.privateMethod ({ cls := "BlockRowsModel", name := "holds", desc := "(I)Z" } : Jvm.MethodName)) ∈ lw_tbl := tb_r 459 (by decide +kernel)
theorem q_460 : (Jvm.Cond.instanceMethod ({ cls := "BlockRowsModel", name := "holds", desc := "(I)Z" } : Jvm.MethodName)) ∈ tbW := tb_t 460 (by decide +kernel) rfl
theorem q_461 : (Cond.code y_M_holds c_M_holds 2 (some .boolean)) ∈ tbW := tb_t 461 rfl rfl
theorem q_462 : (Jvm.Cond.methodLink "BlockRowsModel" (103 : Nat) ({ cls := "BlockRowsModel", name := "work", desc := "(IIII)V" } : Jvm.MethodName)) ∈ tbW := tb_t 462 (by decide +kernel) rfl
theorem q_463 : (Jvm.Cond.privateMethod ({ cls := "BlockRowsModel", name := "work", desc := "(IIII)V" } : Jvm.MethodName)) ∈ lw_tbl := tb_r 463 (by decide +kernel)
theorem q_464 : (Jvm.Cond.instanceMethod ({ cls := "BlockRowsModel", name := "work", desc := "(IIII)V" } : Jvm.MethodName)) ∈ tbW := tb_t 464 (by decide +kernel) rfl
theorem q_465 : (Cond.code y_M_work c_M_work 6 none) ∈ tbW := tb_t 465 rfl rfl
theorem q_466 : (Jvm.Cond.methodLink "BlockRowsModel" (107 : Nat) ({ cls := "BlockRowsModel", name := "become", desc := "(II)V" } : Jvm.MethodName)) ∈ tbW := tb_t 466 (by decide +kernel) rfl
theorem q_467 : (Jvm.Cond.privateMethod ({ cls := "BlockRowsModel", name := "become", desc := "(II)V" } : Jvm.MethodName)) ∈ lw_tbl := tb_r 467 (by decide +kernel)
theorem q_468 : (Jvm.Cond.instanceMethod ({ cls := "BlockRowsModel", name := "become", desc := "(II)V" } : Jvm.MethodName)) ∈ tbW := tb_t 468 (by decide +kernel) rfl
theorem q_469 : (Cond.code y_M_become c_M_become 3 none) ∈ tbW := tb_t 469 rfl rfl
theorem q_470 : (Jvm.Cond.methodLink "BlockRowsLaw" (68 : Nat) ({ cls := "BlockRowsModel", name := "memory", desc := "(I)I" } : Jvm.MethodName)) ∈ tbW := tb_t 470 (by decide +kernel) rfl
theorem q_471 : (Jvm.Cond.instanceMethod ({ cls := "BlockRowsModel", name := "memory", desc := "(I)I" } : Jvm.MethodName)) ∈ tbW := tb_t 471 (by decide +kernel) rfl
theorem q_472 : (Jvm.Cond.selects "BlockRowsModel" ({ cls := "BlockRowsModel", name := "memory", desc := "(I)I" } : Jvm.MethodName) ({ cls := "BlockRowsModel", name := "memory", desc := "(I)I" } : Jvm.MethodName)) ∈ tbW := tb_t 472 (by decide +kernel) rfl
theorem q_473 : (Cond.code y_M_memory c_M_memory 2 (some .int)) ∈ tbW := tb_t 473 rfl rfl
theorem q_474 : (Jvm.Cond.methodLink "BlockRowsLaw" (71 : Nat) ({ cls := "BlockRowsModel", name := "register", desc := "(I)I" } : Jvm.MethodName)) ∈ tbW := tb_t 474 (by decide +kernel) rfl
theorem q_475 : (Jvm.Cond.instanceMethod ({ cls := "BlockRowsModel", name := "register", desc := "(I)I" } : Jvm.MethodName)) ∈ tbW := tb_t 475 (by decide +kernel) rfl
theorem q_476 : (Jvm.Cond.selects "BlockRowsModel" ({ cls := "BlockRowsModel", name := "register", desc := "(I)I" } : Jvm.MethodName) ({ cls := "BlockRowsModel", name := "register", desc := "(I)I" } : Jvm.MethodName)) ∈ tbW := tb_t 476 (by decide +kernel) rfl
theorem q_477 : (Cond.code y_M_register c_M_register 2 (some .int)) ∈ tbW := tb_t 477 rfl rfl
theorem q_478 : (Jvm.Cond.methodLink "BlockRowsLaw" (74 : Nat) ({ cls := "BlockRowsModel", name := "row", desc := "(II)I" } : Jvm.MethodName)) ∈ tbW := tb_t 478 (by decide +kernel) rfl
theorem q_479 : (Jvm.Cond.instanceMethod ({ cls := "BlockRowsModel", name := "row", desc := "(II)I" } : Jvm.MethodName)) ∈ tbW := tb_t 479 (by decide +kernel) rfl
theorem q_480 : (Jvm.Cond.selects "BlockRowsModel" ({ cls := "BlockRowsModel", name := "row", desc := "(II)I" } : Jvm.MethodName) ({ cls := "BlockRowsModel", name := "row", desc := "(II)I" } : Jvm.MethodName)) ∈ tbW := tb_t 480 (by decide +kernel) rfl
theorem q_481 : (Cond.code y_M_row c_M_row 3 (some .int)) ∈ tbW := tb_t 481 rfl rfl
theorem q_482 : (Jvm.Cond.methodLink "BlockRowsLaw" (78 : Nat) ({ cls := "BlockRowsModel", name := "forget", desc := "()I" } : Jvm.MethodName)) ∈ tbW := tb_t 482 (by decide +kernel) rfl
theorem q_483 : (Jvm.Cond.instanceMethod ({ cls := "BlockRowsModel", name := "forget", desc := "()I" } : Jvm.MethodName)) ∈ tbW := tb_t 483 (by decide +kernel) rfl
theorem q_484 : (Jvm.Cond.selects "BlockRowsModel" ({ cls := "BlockRowsModel", name := "forget", desc := "()I" } : Jvm.MethodName) ({ cls := "BlockRowsModel", name := "forget", desc := "()I" } : Jvm.MethodName)) ∈ tbW := tb_t 484 (by decide +kernel) rfl
theorem q_485 : (Cond.code y_M_forget c_M_forget 3 (some .int)) ∈ tbW := tb_t 485 rfl rfl
theorem q_486 : (Jvm.Cond.methodLink "BlockRowsLaw" (82 : Nat) ({ cls := "BlockRowsModel", name := "count", desc := "(I)I" } : Jvm.MethodName)) ∈ tbW := tb_t 486 (by decide +kernel) rfl
theorem q_487 : (Jvm.Cond.instanceMethod ({ cls := "BlockRowsModel", name := "count", desc := "(I)I" } : Jvm.MethodName)) ∈ tbW := tb_t 487 (by decide +kernel) rfl
theorem q_488 : (Jvm.Cond.selects "BlockRowsModel" ({ cls := "BlockRowsModel", name := "count", desc := "(I)I" } : Jvm.MethodName) ({ cls := "BlockRowsModel", name := "count", desc := "(I)I" } : Jvm.MethodName)) ∈ tbW := tb_t 488 (by decide +kernel) rfl
theorem q_489 : (Cond.code y_M_count c_M_count 4 (some .int)) ∈ tbW := tb_t 489 rfl rfl
theorem q_490 : (Jvm.Cond.arrayClass Jvm.ClassFile.FieldType.long) ∈ tbW := tb_t 490 (by decide +kernel) rfl
theorem q_491 : (Jvm.Cond.sameMethod "java/lang/Throwable" "java/lang/Throwable" "fillInStackTrace" "(I)Ljava/lang/Throwable;") ∈ tbW := tb_t 491 (by decide +kernel) rfl
theorem sl_B_isKept : (Cond.selects rB y_B_isKept y_B_isKept) ∈ tbW := tb_s 0 (by decide +kernel) rfl
theorem sl_X_throwOut : (Cond.selects rX y_X_throwOut y_X_throwOut) ∈ tbW := tb_s 1 (by decide +kernel) rfl
theorem sl_B_empty : (Cond.selects rB y_B_empty y_B_empty) ∈ tbW := tb_s 2 (by decide +kernel) rfl
theorem sl_X_keptNow : (Cond.selects rX y_X_keptNow y_X_keptNow) ∈ tbW := tb_s 3 (by decide +kernel) rfl
theorem sl_X_write : (Cond.selects rX y_X_write y_X_write) ∈ tbW := tb_s 5 (by decide +kernel) rfl
theorem sl_B_hasByte : (Cond.selects rB y_B_hasByte y_B_hasByte) ∈ tbW := tb_s 6 (by decide +kernel) rfl
theorem sl_X_doBlock : (Cond.selects rX y_X_doBlock y_X_doBlock) ∈ tbW := tb_s 7 (by decide +kernel) rfl
theorem sl_X_blockAt : (Cond.selects rX y_X_blockAt y_X_blockAt) ∈ tbW := tb_s 8 (by decide +kernel) rfl
theorem sl_B_beginsAt : (Cond.selects rB y_B_beginsAt y_B_beginsAt) ∈ tbW := tb_s 9 (by decide +kernel) rfl
theorem sl_X_decode : (Cond.selects rX y_X_decode y_X_decode) ∈ tbW := tb_s 10 (by decide +kernel) rfl
theorem sl_X_wordAt : (Cond.selects rX y_X_wordAt y_X_wordAt) ∈ tbW := tb_s 11 (by decide +kernel) rfl
theorem sl_X_doWord : (Cond.selects rX y_X_doWord y_X_doWord) ∈ tbW := tb_s 12 (by decide +kernel) rfl
theorem sl_X_stateBefore : (Cond.selects rX y_X_stateBefore y_X_stateBefore) ∈ tbW := tb_s 13 (by decide +kernel) rfl
theorem sl_X_perform : (Cond.selects rX y_X_perform y_X_perform) ∈ tbW := tb_s 14 (by decide +kernel) rfl
theorem sl_X_holds : (Cond.selects rX y_X_holds y_X_holds) ∈ tbW := tb_s 15 (by decide +kernel) rfl
theorem sl_X_isZero : (Cond.selects rX y_X_isZero y_X_isZero) ∈ tbW := tb_s 16 (by decide +kernel) rfl
theorem sl_X_isBelow : (Cond.selects rX y_X_isBelow y_X_isBelow) ∈ tbW := tb_s 17 (by decide +kernel) rfl
theorem sl_M_throwing : (Cond.selects rM y_M_throwing y_M_throwing) ∈ tbW := tb_s 18 (by decide +kernel) rfl
theorem sl_M_write : (Cond.selects rM y_M_write y_M_write) ∈ tbW := tb_s 19 (by decide +kernel) rfl
theorem sl_M_throwOut : (Cond.selects rM y_M_throwOut y_M_throwOut) ∈ tbW := tb_s 20 (by decide +kernel) rfl
theorem sl_M_find : (Cond.selects rM y_M_find y_M_find) ∈ tbW := tb_s 21 (by decide +kernel) rfl
theorem sl_M_make : (Cond.selects rM y_M_make y_M_make) ∈ tbW := tb_s 22 (by decide +kernel) rfl
theorem sl_M_kindAt : (Cond.selects rM y_M_kindAt y_M_kindAt) ∈ tbW := tb_s 23 (by decide +kernel) rfl
theorem sl_M_faultAt : (Cond.selects rM y_M_faultAt y_M_faultAt) ∈ tbW := tb_s 24 (by decide +kernel) rfl
theorem sl_M_does : (Cond.selects rM y_M_does y_M_does) ∈ tbW := tb_s 25 (by decide +kernel) rfl
theorem sl_M_fault : (Cond.selects rM y_M_fault y_M_fault) ∈ tbW := tb_s 26 (by decide +kernel) rfl
theorem sl_M_holds : (Cond.selects rM y_M_holds y_M_holds) ∈ tbW := tb_s 27 (by decide +kernel) rfl
theorem sl_M_work : (Cond.selects rM y_M_work y_M_work) ∈ tbW := tb_s 28 (by decide +kernel) rfl
theorem sl_M_become : (Cond.selects rM y_M_become y_M_become) ∈ tbW := tb_s 29 (by decide +kernel) rfl
theorem iB : ∀ w ∈ u_ws rB fB 4, w ∈ tbW := by decide +kernel
theorem iX : ∀ w ∈ u_ws rX fX 12, w ∈ tbW := by decide +kernel
theorem iM : ∀ w ∈ u_ws rM fM 19, w ∈ tbW := by decide +kernel
