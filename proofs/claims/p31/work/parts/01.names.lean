-- ===== PART A: goes FIRST, ahead of the names: the tables' words, and 'selects' of the private methods out of them =====
/-- a private method of a class that the tables say can be made, by its rows of tables_1 -/
def lw_okq (q : MethodName × Nat) : Prop := (q.1.cls ≠ "java/lang/invoke/MethodHandle" ∧ q.1.cls ≠ "java/lang/invoke/VarHandle") ∧ Cond.instantiable q.1.cls q.2 ∈ tables_1 ∧ Cond.privateMethod q.1 ∈ tables_1 ∧ Cond.instanceMethod q.1 ∈ tables_1
theorem lw_p0 : lw_okq (⟨"WindHarp$Reader", "begin", "()V"⟩, 7) := ⟨⟨by decide +kernel, by decide +kernel⟩, List.mem_of_getElem? (i := 26) (by decide +kernel), List.mem_of_getElem? (i := 316) (by decide +kernel), List.mem_of_getElem? (i := 317) (by decide +kernel)⟩
theorem lw_p1 : lw_okq (⟨"WindHarp$Reader", "next", "()V"⟩, 7) := ⟨⟨by decide +kernel, by decide +kernel⟩, List.mem_of_getElem? (i := 26) (by decide +kernel), List.mem_of_getElem? (i := 320) (by decide +kernel), List.mem_of_getElem? (i := 321) (by decide +kernel)⟩
theorem lw_p2 : lw_okq (⟨"WindHarp$Reader", "byteAt", "(I)I"⟩, 7) := ⟨⟨by decide +kernel, by decide +kernel⟩, List.mem_of_getElem? (i := 26) (by decide +kernel), List.mem_of_getElem? (i := 324) (by decide +kernel), List.mem_of_getElem? (i := 325) (by decide +kernel)⟩
theorem lw_p3 : lw_okq (⟨"WindHarp$Reader", "isMore", "()Z"⟩, 7) := ⟨⟨by decide +kernel, by decide +kernel⟩, List.mem_of_getElem? (i := 26) (by decide +kernel), List.mem_of_getElem? (i := 337) (by decide +kernel), List.mem_of_getElem? (i := 338) (by decide +kernel)⟩
theorem lw_p4 : lw_okq (⟨"WindHarp$Reader", "readOrder", "(LWindHarp$Deeds;I)V"⟩, 7) := ⟨⟨by decide +kernel, by decide +kernel⟩, List.mem_of_getElem? (i := 26) (by decide +kernel), List.mem_of_getElem? (i := 341) (by decide +kernel), List.mem_of_getElem? (i := 342) (by decide +kernel)⟩
theorem lw_p5 : lw_okq (⟨"WindHarp$Reader", "orderHere", "()I"⟩, 7) := ⟨⟨by decide +kernel, by decide +kernel⟩, List.mem_of_getElem? (i := 26) (by decide +kernel), List.mem_of_getElem? (i := 345) (by decide +kernel), List.mem_of_getElem? (i := 346) (by decide +kernel)⟩
theorem lw_p6 : lw_okq (⟨"WindHarp$Reader", "isWord", "(Ljava/lang/String;)Z"⟩, 7) := ⟨⟨by decide +kernel, by decide +kernel⟩, List.mem_of_getElem? (i := 26) (by decide +kernel), List.mem_of_getElem? (i := 360) (by decide +kernel), List.mem_of_getElem? (i := 361) (by decide +kernel)⟩
theorem lw_p7 : lw_okq (⟨"WindHarp$Reader", "fail", "(I)V"⟩, 7) := ⟨⟨by decide +kernel, by decide +kernel⟩, List.mem_of_getElem? (i := 26) (by decide +kernel), List.mem_of_getElem? (i := 412) (by decide +kernel), List.mem_of_getElem? (i := 413) (by decide +kernel)⟩
theorem lw_p8 : lw_okq (⟨"WindHarp$Reader", "takeNumber", "(II)I"⟩, 7) := ⟨⟨by decide +kernel, by decide +kernel⟩, List.mem_of_getElem? (i := 26) (by decide +kernel), List.mem_of_getElem? (i := 416) (by decide +kernel), List.mem_of_getElem? (i := 417) (by decide +kernel)⟩
theorem lw_p9 : lw_okq (⟨"WindHarp$Reader", "takeSign", "()V"⟩, 7) := ⟨⟨by decide +kernel, by decide +kernel⟩, List.mem_of_getElem? (i := 26) (by decide +kernel), List.mem_of_getElem? (i := 420) (by decide +kernel), List.mem_of_getElem? (i := 421) (by decide +kernel)⟩
theorem lw_p10 : lw_okq (⟨"WindHarp", "faulted", "()I"⟩, 13) := ⟨⟨by decide +kernel, by decide +kernel⟩, List.mem_of_getElem? (i := 18) (by decide +kernel), List.mem_of_getElem? (i := 428) (by decide +kernel), List.mem_of_getElem? (i := 429) (by decide +kernel)⟩
theorem lw_p11 : lw_okq (⟨"WindHarp$Wood", "carryOut", "(III)V"⟩, 8) := ⟨⟨by decide +kernel, by decide +kernel⟩, List.mem_of_getElem? (i := 79) (by decide +kernel), List.mem_of_getElem? (i := 438) (by decide +kernel), List.mem_of_getElem? (i := 439) (by decide +kernel)⟩
theorem lw_p12 : lw_okq (⟨"WindHarp$Reader", "readPart", "(LWindHarp$Wood;I)I"⟩, 7) := ⟨⟨by decide +kernel, by decide +kernel⟩, List.mem_of_getElem? (i := 26) (by decide +kernel), List.mem_of_getElem? (i := 585) (by decide +kernel), List.mem_of_getElem? (i := 586) (by decide +kernel)⟩
theorem lw_p13 : lw_okq (⟨"WindHarp$Reader", "readTree", "(LWindHarp$Trees;)V"⟩, 7) := ⟨⟨by decide +kernel, by decide +kernel⟩, List.mem_of_getElem? (i := 26) (by decide +kernel), List.mem_of_getElem? (i := 590) (by decide +kernel), List.mem_of_getElem? (i := 591) (by decide +kernel)⟩
theorem lw_p14 : lw_okq (⟨"WindHarp$Reader", "readWind", "(LWindHarp$Winds;)V"⟩, 7) := ⟨⟨by decide +kernel, by decide +kernel⟩, List.mem_of_getElem? (i := 26) (by decide +kernel), List.mem_of_getElem? (i := 599) (by decide +kernel), List.mem_of_getElem? (i := 600) (by decide +kernel)⟩
theorem lw_p15 : lw_okq (⟨"WindHarp$Reader", "readTune", "(LWindHarp$Wood;)V"⟩, 7) := ⟨⟨by decide +kernel, by decide +kernel⟩, List.mem_of_getElem? (i := 26) (by decide +kernel), List.mem_of_getElem? (i := 608) (by decide +kernel), List.mem_of_getElem? (i := 609) (by decide +kernel)⟩
def lw_privs_1 : List (MethodName × Nat) := [(⟨"WindHarp$Reader", "begin", "()V"⟩, 7), (⟨"WindHarp$Reader", "next", "()V"⟩, 7), (⟨"WindHarp$Reader", "byteAt", "(I)I"⟩, 7), (⟨"WindHarp$Reader", "isMore", "()Z"⟩, 7), (⟨"WindHarp$Reader", "readOrder", "(LWindHarp$Deeds;I)V"⟩, 7), (⟨"WindHarp$Reader", "orderHere", "()I"⟩, 7), (⟨"WindHarp$Reader", "isWord", "(Ljava/lang/String;)Z"⟩, 7), (⟨"WindHarp$Reader", "fail", "(I)V"⟩, 7), (⟨"WindHarp$Reader", "takeNumber", "(II)I"⟩, 7), (⟨"WindHarp$Reader", "takeSign", "()V"⟩, 7), (⟨"WindHarp", "faulted", "()I"⟩, 13), (⟨"WindHarp$Wood", "carryOut", "(III)V"⟩, 8), (⟨"WindHarp$Reader", "readPart", "(LWindHarp$Wood;I)I"⟩, 7), (⟨"WindHarp$Reader", "readTree", "(LWindHarp$Trees;)V"⟩, 7), (⟨"WindHarp$Reader", "readWind", "(LWindHarp$Winds;)V"⟩, 7), (⟨"WindHarp$Reader", "readTune", "(LWindHarp$Wood;)V"⟩, 7)]
theorem lw_r1 : ∀ q ∈ lw_privs_1, lw_okq q := List.forall_mem_cons.mpr ⟨lw_p0, List.forall_mem_cons.mpr ⟨lw_p1, List.forall_mem_cons.mpr ⟨lw_p2, List.forall_mem_cons.mpr ⟨lw_p3, List.forall_mem_cons.mpr ⟨lw_p4, List.forall_mem_cons.mpr ⟨lw_p5, List.forall_mem_cons.mpr ⟨lw_p6, List.forall_mem_cons.mpr ⟨lw_p7, List.forall_mem_cons.mpr ⟨lw_p8, List.forall_mem_cons.mpr ⟨lw_p9, List.forall_mem_cons.mpr ⟨lw_p10, List.forall_mem_cons.mpr ⟨lw_p11, List.forall_mem_cons.mpr ⟨lw_p12, List.forall_mem_cons.mpr ⟨lw_p13, List.forall_mem_cons.mpr ⟨lw_p14, List.forall_mem_cons.mpr ⟨lw_p15, fun _ h => absurd h List.not_mem_nil⟩⟩⟩⟩⟩⟩⟩⟩⟩⟩⟩⟩⟩⟩⟩⟩
def lw_privs : List (MethodName × Nat) := lw_privs_1
def lw_tbl : List Cond := k2_sels lw_privs ++ tables_1
theorem lw_privs_ok : ∀ q ∈ lw_privs, lw_okq q := lw_r1
def RX0 : String := "WindHarp$Asks"
def TX0 : u_T := fun k => match k with
  | 0 => ("WindHarp$Asks", "bodies", "[I", true)
  | 1 => ("WindHarp$Asks", "count", "I", false)
  | 2 => ("WindHarp$Asks", "tree", "I", false)
  | 3 => ("WindHarp$Asks", "toldAs", "I", false)
  | 4 => ("WindHarp$Asks", "length", "I", false)
  | _ => ("WindHarp$Asks", "tone", "I", false)
def tyX0 : Nat → FieldType := fun k => match k with
  | 0 => .array .int
  | 1 => .int
  | 2 => .int
  | 3 => .int
  | 4 => .int
  | _ => .int
theorem nmX0 : ∀ a, a < 6 → ∀ b, b < 6 → a ≠ b → (TX0 a).2.1 ≠ (TX0 b).2.1 := by decide +kernel
theorem tyX0_ok : ∀ k, k < 6 → parseFieldDescriptor (TX0 k).2.2.1 = some (tyX0 k) := by decide +kernel
abbrev cX0_init : ByteArray := prog_2_method_1_code
def yX0_init : MethodName := ⟨RX0, "<init>", "()V"⟩
def RX1 : String := "WindHarp$Cuts"
def TX1 : u_T := fun k => match k with
  | 0 => ("WindHarp$Cuts", "chosen", "[I", true)
  | _ => ("WindHarp$Cuts", "count", "I", false)
def tyX1 : Nat → FieldType := fun k => match k with
  | 0 => .array .int
  | _ => .int
theorem nmX1 : ∀ a, a < 2 → ∀ b, b < 2 → a ≠ b → (TX1 a).2.1 ≠ (TX1 b).2.1 := by decide +kernel
theorem tyX1_ok : ∀ k, k < 2 → parseFieldDescriptor (TX1 k).2.2.1 = some (tyX1 k) := by decide +kernel
abbrev cX1_init : ByteArray := prog_3_method_1_code
def yX1_init : MethodName := ⟨RX1, "<init>", "()V"⟩
def RX2 : String := "WindHarp$Deeds"
def TX2 : u_T := fun k => match k with
  | 0 => ("WindHarp$Deeds", "order", "[I", true)
  | 1 => ("WindHarp$Deeds", "tree", "[I", true)
  | 2 => ("WindHarp$Deeds", "number", "[I", true)
  | _ => ("WindHarp$Deeds", "count", "I", false)
def tyX2 : Nat → FieldType := fun k => match k with
  | 0 => .array .int
  | 1 => .array .int
  | 2 => .array .int
  | _ => .int
theorem nmX2 : ∀ a, a < 4 → ∀ b, b < 4 → a ≠ b → (TX2 a).2.1 ≠ (TX2 b).2.1 := by decide +kernel
theorem tyX2_ok : ∀ k, k < 4 → parseFieldDescriptor (TX2 k).2.2.1 = some (tyX2 k) := by decide +kernel
abbrev cX2_init : ByteArray := prog_4_method_1_code
def yX2_init : MethodName := ⟨RX2, "<init>", "()V"⟩
abbrev cX2_add : ByteArray := prog_4_method_2_code
def yX2_add : MethodName := ⟨RX2, "add", "(III)V"⟩
abbrev cX2_takeOver : ByteArray := prog_4_method_3_code
def yX2_takeOver : MethodName := ⟨RX2, "takeOver", "(LWindHarp$Deeds;)V"⟩
def RX3 : String := "WindHarp$Ear"
def TX3 : u_T := fun k => match k with
  | 0 => ("WindHarp$Ear", "tones", "[I", true)
  | 1 => ("WindHarp$Ear", "trees", "[I", true)
  | 2 => ("WindHarp$Ear", "line", "[I", true)
  | _ => ("WindHarp$Ear", "count", "I", false)
def tyX3 : Nat → FieldType := fun k => match k with
  | 0 => .array .int
  | 1 => .array .int
  | 2 => .array .int
  | _ => .int
theorem nmX3 : ∀ a, a < 4 → ∀ b, b < 4 → a ≠ b → (TX3 a).2.1 ≠ (TX3 b).2.1 := by decide +kernel
theorem tyX3_ok : ∀ k, k < 4 → parseFieldDescriptor (TX3 k).2.2.1 = some (tyX3 k) := by decide +kernel
abbrev cX3_init : ByteArray := prog_5_method_1_code
def yX3_init : MethodName := ⟨RX3, "<init>", "()V"⟩
abbrev cX3_listen : ByteArray := prog_5_method_2_code
def yX3_listen : MethodName := ⟨RX3, "listen", "(LWindHarp$Wood;I)V"⟩
def RX4 : String := "WindHarp$Reader"
def TX4 : u_T := fun k => match k with
  | 0 => ("WindHarp$Reader", "tape", "[B", true)
  | 1 => ("WindHarp$Reader", "size", "I", false)
  | 2 => ("WindHarp$Reader", "start", "I", false)
  | 3 => ("WindHarp$Reader", "fault", "I", false)
  | 4 => ("WindHarp$Reader", "at", "I", false)
  | 5 => ("WindHarp$Reader", "sort", "I", false)
  | _ => ("WindHarp$Reader", "value", "I", false)
def tyX4 : Nat → FieldType := fun k => match k with
  | 0 => .array .byte
  | 1 => .int
  | 2 => .int
  | 3 => .int
  | 4 => .int
  | 5 => .int
  | _ => .int
theorem nmX4 : ∀ a, a < 7 → ∀ b, b < 7 → a ≠ b → (TX4 a).2.1 ≠ (TX4 b).2.1 := by decide +kernel
theorem tyX4_ok : ∀ k, k < 7 → parseFieldDescriptor (TX4 k).2.2.1 = some (tyX4 k) := by decide +kernel
abbrev cX4_init : ByteArray := prog_6_method_1_code
def yX4_init : MethodName := ⟨RX4, "<init>", "()V"⟩
abbrev cX4_addBytes : ByteArray := prog_6_method_2_code
def yX4_addBytes : MethodName := ⟨RX4, "addBytes", "(JI)V"⟩
abbrev cX4_readWood : ByteArray := prog_6_method_3_code
def yX4_readWood : MethodName := ⟨RX4, "readWood", "(LWindHarp$Wood;)V"⟩
abbrev cX4_readOrders : ByteArray := prog_6_method_4_code
def yX4_readOrders : MethodName := ⟨RX4, "readOrders", "(LWindHarp$Deeds;I)V"⟩
abbrev cX4_begin : ByteArray := prog_6_method_5_code
def yX4_begin : MethodName := ⟨RX4, "begin", "()V"⟩
abbrev cX4_isMore : ByteArray := prog_6_method_6_code
def yX4_isMore : MethodName := ⟨RX4, "isMore", "()Z"⟩
abbrev cX4_readPart : ByteArray := prog_6_method_7_code
def yX4_readPart : MethodName := ⟨RX4, "readPart", "(LWindHarp$Wood;I)I"⟩
abbrev cX4_readTree : ByteArray := prog_6_method_8_code
def yX4_readTree : MethodName := ⟨RX4, "readTree", "(LWindHarp$Trees;)V"⟩
abbrev cX4_readWind : ByteArray := prog_6_method_9_code
def yX4_readWind : MethodName := ⟨RX4, "readWind", "(LWindHarp$Winds;)V"⟩
abbrev cX4_readTune : ByteArray := prog_6_method_10_code
def yX4_readTune : MethodName := ⟨RX4, "readTune", "(LWindHarp$Wood;)V"⟩
abbrev cX4_readOrder : ByteArray := prog_6_method_11_code
def yX4_readOrder : MethodName := ⟨RX4, "readOrder", "(LWindHarp$Deeds;I)V"⟩
abbrev cX4_orderHere : ByteArray := prog_6_method_12_code
def yX4_orderHere : MethodName := ⟨RX4, "orderHere", "()I"⟩
abbrev cX4_wordOf : ByteArray := prog_6_method_13_code
def yX4_wordOf : MethodName := ⟨RX4, "wordOf", "(I)Ljava/lang/String;"⟩
abbrev cX4_fail : ByteArray := prog_6_method_14_code
def yX4_fail : MethodName := ⟨RX4, "fail", "(I)V"⟩
abbrev cX4_takeNumber : ByteArray := prog_6_method_15_code
def yX4_takeNumber : MethodName := ⟨RX4, "takeNumber", "(II)I"⟩
abbrev cX4_takeSign : ByteArray := prog_6_method_16_code
def yX4_takeSign : MethodName := ⟨RX4, "takeSign", "()V"⟩
abbrev cX4_isWord : ByteArray := prog_6_method_17_code
def yX4_isWord : MethodName := ⟨RX4, "isWord", "(Ljava/lang/String;)Z"⟩
abbrev cX4_next : ByteArray := prog_6_method_18_code
def yX4_next : MethodName := ⟨RX4, "next", "()V"⟩
abbrev cX4_byteAt : ByteArray := prog_6_method_19_code
def yX4_byteAt : MethodName := ⟨RX4, "byteAt", "(I)I"⟩
abbrev cX4_isBlank : ByteArray := prog_6_method_20_code
def yX4_isBlank : MethodName := ⟨RX4, "isBlank", "(I)Z"⟩
abbrev cX4_isLetter : ByteArray := prog_6_method_21_code
def yX4_isLetter : MethodName := ⟨RX4, "isLetter", "(I)Z"⟩
abbrev cX4_isFigure : ByteArray := prog_6_method_22_code
def yX4_isFigure : MethodName := ⟨RX4, "isFigure", "(I)Z"⟩
def RX5 : String := "WindHarp$Rows"
def TX5 : u_T := fun k => match k with
  | 0 => ("WindHarp$Rows", "there", "[Z", true)
  | 1 => ("WindHarp$Rows", "lanes", "[I", true)
  | 2 => ("WindHarp$Rows", "sizes", "[I", true)
  | _ => ("WindHarp$Rows", "items", "[I", true)
def tyX5 : Nat → FieldType := fun k => match k with
  | 0 => .array .boolean
  | 1 => .array .int
  | 2 => .array .int
  | _ => .array .int
theorem nmX5 : ∀ a, a < 4 → ∀ b, b < 4 → a ≠ b → (TX5 a).2.1 ≠ (TX5 b).2.1 := by decide +kernel
theorem tyX5_ok : ∀ k, k < 4 → parseFieldDescriptor (TX5 k).2.2.1 = some (tyX5 k) := by decide +kernel
abbrev cX5_init : ByteArray := prog_7_method_1_code
def yX5_init : MethodName := ⟨RX5, "<init>", "()V"⟩
abbrev cX5_countThere : ByteArray := prog_7_method_11_code
def yX5_countThere : MethodName := ⟨RX5, "countThere", "()I"⟩
def RX6 : String := "WindHarp$Trees"
def TX6 : u_T := fun k => match k with
  | 0 => ("WindHarp$Trees", "length", "[I", true)
  | 1 => ("WindHarp$Trees", "pull", "[I", true)
  | 2 => ("WindHarp$Trees", "side", "[I", true)
  | 3 => ("WindHarp$Trees", "grows", "[I", true)
  | 4 => ("WindHarp$Trees", "ice", "[I", true)
  | 5 => ("WindHarp$Trees", "felled", "[I", true)
  | _ => ("WindHarp$Trees", "count", "I", false)
def tyX6 : Nat → FieldType := fun k => match k with
  | 0 => .array .int
  | 1 => .array .int
  | 2 => .array .int
  | 3 => .array .int
  | 4 => .array .int
  | 5 => .array .int
  | _ => .int
theorem nmX6 : ∀ a, a < 7 → ∀ b, b < 7 → a ≠ b → (TX6 a).2.1 ≠ (TX6 b).2.1 := by decide +kernel
theorem tyX6_ok : ∀ k, k < 7 → parseFieldDescriptor (TX6 k).2.2.1 = some (tyX6 k) := by decide +kernel
abbrev cX6_init : ByteArray := prog_8_method_1_code
def yX6_init : MethodName := ⟨RX6, "<init>", "()V"⟩
abbrev cX6_has : ByteArray := prog_8_method_2_code
def yX6_has : MethodName := ⟨RX6, "has", "(I)Z"⟩
abbrev cX6_add : ByteArray := prog_8_method_3_code
def yX6_add : MethodName := ⟨RX6, "add", "(IIII)V"⟩
abbrev cX6_longer : ByteArray := prog_8_method_4_code
def yX6_longer : MethodName := ⟨RX6, "longer", "(II)I"⟩
abbrev cX6_stretch : ByteArray := prog_8_method_5_code
def yX6_stretch : MethodName := ⟨RX6, "stretch", "(II)I"⟩
abbrev cX6_growAll : ByteArray := prog_8_method_6_code
def yX6_growAll : MethodName := ⟨RX6, "growAll", "(I)V"⟩
abbrev cX6_takeOver : ByteArray := prog_8_method_7_code
def yX6_takeOver : MethodName := ⟨RX6, "takeOver", "(LWindHarp$Trees;)V"⟩
def RX7 : String := "WindHarp$Winds"
def TX7 : u_T := fun k => match k with
  | 0 => ("WindHarp$Winds", "side", "[I", true)
  | 1 => ("WindHarp$Winds", "strength", "[I", true)
  | 2 => ("WindHarp$Winds", "odds", "[I", true)
  | _ => ("WindHarp$Winds", "count", "I", false)
def tyX7 : Nat → FieldType := fun k => match k with
  | 0 => .array .int
  | 1 => .array .int
  | 2 => .array .int
  | _ => .int
theorem nmX7 : ∀ a, a < 4 → ∀ b, b < 4 → a ≠ b → (TX7 a).2.1 ≠ (TX7 b).2.1 := by decide +kernel
theorem tyX7_ok : ∀ k, k < 4 → parseFieldDescriptor (TX7 k).2.2.1 = some (tyX7 k) := by decide +kernel
abbrev cX7_init : ByteArray := prog_9_method_1_code
def yX7_init : MethodName := ⟨RX7, "<init>", "()V"⟩
abbrev cX7_has : ByteArray := prog_9_method_2_code
def yX7_has : MethodName := ⟨RX7, "has", "(I)Z"⟩
abbrev cX7_add : ByteArray := prog_9_method_3_code
def yX7_add : MethodName := ⟨RX7, "add", "(III)V"⟩
abbrev cX7_takeOver : ByteArray := prog_9_method_4_code
def yX7_takeOver : MethodName := ⟨RX7, "takeOver", "(LWindHarp$Winds;)V"⟩
def RX8 : String := "WindHarp$Wood"
def TX8 : u_T := fun k => match k with
  | 0 => ("WindHarp$Wood", "trees", "LWindHarp$Trees;", true)
  | 1 => ("WindHarp$Wood", "winds", "LWindHarp$Winds;", true)
  | 2 => ("WindHarp$Wood", "done", "LWindHarp$Deeds;", true)
  | 3 => ("WindHarp$Wood", "tune", "[I", true)
  | 4 => ("WindHarp$Wood", "toneCount", "I", false)
  | 5 => ("WindHarp$Wood", "years", "I", false)
  | 6 => ("WindHarp$Wood", "wet", "I", false)
  | _ => ("WindHarp$Wood", "isThere", "Z", false)
def tyX8 : Nat → FieldType := fun k => match k with
  | 0 => .object "WindHarp$Trees"
  | 1 => .object "WindHarp$Winds"
  | 2 => .object "WindHarp$Deeds"
  | 3 => .array .int
  | 4 => .int
  | 5 => .int
  | 6 => .int
  | _ => .boolean
theorem nmX8 : ∀ a, a < 8 → ∀ b, b < 8 → a ≠ b → (TX8 a).2.1 ≠ (TX8 b).2.1 := by decide +kernel
theorem tyX8_ok : ∀ k, k < 8 → parseFieldDescriptor (TX8 k).2.2.1 = some (tyX8 k) := by decide +kernel
abbrev cX8_init : ByteArray := prog_10_method_1_code
def yX8_init : MethodName := ⟨RX8, "<init>", "()V"⟩
abbrev cX8_beginAnew : ByteArray := prog_10_method_2_code
def yX8_beginAnew : MethodName := ⟨RX8, "beginAnew", "()V"⟩
abbrev cX8_takeOver : ByteArray := prog_10_method_3_code
def yX8_takeOver : MethodName := ⟨RX8, "takeOver", "(LWindHarp$Wood;)V"⟩
abbrev cX8_addTone : ByteArray := prog_10_method_4_code
def yX8_addTone : MethodName := ⟨RX8, "addTone", "(I)V"⟩
abbrev cX8_dryTone : ByteArray := prog_10_method_5_code
def yX8_dryTone : MethodName := ⟨RX8, "dryTone", "(II)I"⟩
abbrev cX8_toneOf : ByteArray := prog_10_method_6_code
def yX8_toneOf : MethodName := ⟨RX8, "toneOf", "(I)I"⟩
abbrev cX8_sounds : ByteArray := prog_10_method_7_code
def yX8_sounds : MethodName := ⟨RX8, "sounds", "(II)Z"⟩
abbrev cX8_grow : ByteArray := prog_10_method_8_code
def yX8_grow : MethodName := ⟨RX8, "grow", "(I)V"⟩
abbrev cX8_carryOutAll : ByteArray := prog_10_method_9_code
def yX8_carryOutAll : MethodName := ⟨RX8, "carryOutAll", "(LWindHarp$Deeds;)V"⟩
abbrev cX8_carryOut : ByteArray := prog_10_method_10_code
def yX8_carryOut : MethodName := ⟨RX8, "carryOut", "(III)V"⟩
abbrev cX8_takeBack : ByteArray := prog_10_method_11_code
def yX8_takeBack : MethodName := ⟨RX8, "takeBack", "()V"⟩
def RX9 : String := "WindHarp"
def TX9 : u_T := fun k => match k with
  | 0 => ("WindHarp", "reader", "LWindHarp$Reader;", true)
  | 1 => ("WindHarp", "rows", "LWindHarp$Rows;", true)
  | 2 => ("WindHarp", "current", "LWindHarp$Wood;", true)
  | 3 => ("WindHarp", "draft", "LWindHarp$Wood;", true)
  | 4 => ("WindHarp", "firstImage", "LWindHarp$Wood;", true)
  | 5 => ("WindHarp", "secondImage", "LWindHarp$Wood;", true)
  | 6 => ("WindHarp", "told", "LWindHarp$Deeds;", true)
  | 7 => ("WindHarp", "ear", "LWindHarp$Ear;", true)
  | 8 => ("WindHarp", "cuts", "LWindHarp$Cuts;", true)
  | 9 => ("WindHarp", "asks", "LWindHarp$Asks;", true)
  | 10 => ("WindHarp", "heard", "[I", true)
  | 11 => ("WindHarp", "faultNumber", "I", false)
  | _ => ("WindHarp", "finding", "I", false)
def tyX9 : Nat → FieldType := fun k => match k with
  | 0 => .object "WindHarp$Reader"
  | 1 => .object "WindHarp$Rows"
  | 2 => .object "WindHarp$Wood"
  | 3 => .object "WindHarp$Wood"
  | 4 => .object "WindHarp$Wood"
  | 5 => .object "WindHarp$Wood"
  | 6 => .object "WindHarp$Deeds"
  | 7 => .object "WindHarp$Ear"
  | 8 => .object "WindHarp$Cuts"
  | 9 => .object "WindHarp$Asks"
  | 10 => .array .int
  | 11 => .int
  | _ => .int
theorem nmX9 : ∀ a, a < 13 → ∀ b, b < 13 → a ≠ b → (TX9 a).2.1 ≠ (TX9 b).2.1 := by decide +kernel
theorem tyX9_ok : ∀ k, k < 13 → parseFieldDescriptor (TX9 k).2.2.1 = some (tyX9 k) := by decide +kernel
abbrev cX9_init : ByteArray := prog_1_method_1_code
def yX9_init : MethodName := ⟨RX9, "<init>", "()V"⟩
abbrev cX9_feed : ByteArray := prog_1_method_6_code
def yX9_feed : MethodName := ⟨RX9, "feed", "(JI)I"⟩
abbrev cX9_wood : ByteArray := prog_1_method_7_code
def yX9_wood : MethodName := ⟨RX9, "wood", "()I"⟩
abbrev cX9_orders : ByteArray := prog_1_method_8_code
def yX9_orders : MethodName := ⟨RX9, "orders", "()I"⟩
abbrev cX9_undo : ByteArray := prog_1_method_10_code
def yX9_undo : MethodName := ⟨RX9, "undo", "()I"⟩
abbrev cX9_go : ByteArray := prog_1_method_11_code
def yX9_go : MethodName := ⟨RX9, "go", "(I)I"⟩
abbrev cX9_tree : ByteArray := prog_1_method_12_code
def yX9_tree : MethodName := ⟨RX9, "tree", "(II)I"⟩
abbrev cX9_sound : ByteArray := prog_1_method_13_code
def yX9_sound : MethodName := ⟨RX9, "sound", "(II)I"⟩
abbrev cX9_count : ByteArray := prog_1_method_28_code
def yX9_count : MethodName := ⟨RX9, "count", "(I)I"⟩
abbrev cX9_faulted : ByteArray := prog_1_method_32_code
def yX9_faulted : MethodName := ⟨RX9, "faulted", "()I"⟩
def RX10 : String := "WindHarpModel"
def TX10 : u_T := fun k => match k with
  | _ => ("", "", "", false)
def tyX10 : Nat → FieldType := fun k => match k with
  | _ => .int
theorem nmX10 : ∀ a, a < 0 → ∀ b, b < 0 → a ≠ b → (TX10 a).2.1 ≠ (TX10 b).2.1 := by decide +kernel
theorem tyX10_ok : ∀ k, k < 0 → parseFieldDescriptor (TX10 k).2.2.1 = some (tyX10 k) := by decide +kernel
def RJ9 : String := "java/lang/Math"
def TJ9 : u_T := fun k => match k with
  | _ => ("", "", "", false)
def tyJ9 : Nat → FieldType := fun k => match k with
  | _ => .int
theorem nmJ9 : ∀ a, a < 0 → ∀ b, b < 0 → a ≠ b → (TJ9 a).2.1 ≠ (TJ9 b).2.1 := by decide +kernel
theorem tyJ9_ok : ∀ k, k < 0 → parseFieldDescriptor (TJ9 k).2.2.1 = some (tyJ9 k) := by decide +kernel
abbrev cJ9_abs_0f7a4 : ByteArray := prog_13_method_59_code
def yJ9_abs_0f7a4 : MethodName := ⟨RJ9, "abs", "(I)I"⟩
abbrev cJ9_max_7cf53 : ByteArray := prog_13_method_65_code
def yJ9_max_7cf53 : MethodName := ⟨RJ9, "max", "(II)I"⟩
abbrev cJ9_min_7cf53 : ByteArray := prog_13_method_69_code
def yJ9_min_7cf53 : MethodName := ⟨RJ9, "min", "(II)I"⟩
def RJ0 : String := "java/lang/String"
def TJ0 : u_T := fun k => match k with
  | _ => ("", "", "", false)
def tyJ0 : Nat → FieldType := fun k => match k with
  | _ => .int
theorem nmJ0 : ∀ a, a < 0 → ∀ b, b < 0 → a ≠ b → (TJ0 a).2.1 ≠ (TJ0 b).2.1 := by decide +kernel
theorem tyJ0_ok : ∀ k, k < 0 → parseFieldDescriptor (TJ0 k).2.2.1 = some (tyJ0 k) := by decide +kernel
abbrev cJ0_length_8abf5 : ByteArray := prog_14_method_54_code
def yJ0_length_8abf5 : MethodName := ⟨RJ0, "length", "()I"⟩
abbrev cJ0_charAt_5068e : ByteArray := prog_14_method_56_code
def yJ0_charAt_5068e : MethodName := ⟨RJ0, "charAt", "(I)C"⟩
abbrev cJ0_coder_7d493 : ByteArray := prog_14_method_152_code
def yJ0_coder_7d493 : MethodName := ⟨RJ0, "coder", "()B"⟩
abbrev cJ0_isLatin1_aae02 : ByteArray := prog_14_method_154_code
def yJ0_isLatin1_aae02 : MethodName := ⟨RJ0, "isLatin1", "()Z"⟩
abbrev cJ0_checkIndex_df160 : ByteArray := prog_14_method_155_code
def yJ0_checkIndex_df160 : MethodName := ⟨RJ0, "checkIndex", "(II)V"⟩
def RJ1 : String := "java/lang/StringLatin1"
def TJ1 : u_T := fun k => match k with
  | _ => ("", "", "", false)
def tyJ1 : Nat → FieldType := fun k => match k with
  | _ => .int
theorem nmJ1 : ∀ a, a < 0 → ∀ b, b < 0 → a ≠ b → (TJ1 a).2.1 ≠ (TJ1 b).2.1 := by decide +kernel
theorem tyJ1_ok : ∀ k, k < 0 → parseFieldDescriptor (TJ1 k).2.2.1 = some (tyJ1 k) := by decide +kernel
abbrev cJ1_charAt_3b067 : ByteArray := prog_15_method_2_code
def yJ1_charAt_3b067 : MethodName := ⟨RJ1, "charAt", "([BI)C"⟩
def RJ2 : String := "java/lang/StringUTF16"
def TJ2 : u_T := fun k => match k with
  | _ => ("", "", "", false)
def tyJ2 : Nat → FieldType := fun k => match k with
  | _ => .int
theorem nmJ2 : ∀ a, a < 0 → ∀ b, b < 0 → a ≠ b → (TJ2 a).2.1 ≠ (TJ2 b).2.1 := by decide +kernel
theorem tyJ2_ok : ∀ k, k < 0 → parseFieldDescriptor (TJ2 k).2.2.1 = some (tyJ2 k) := by decide +kernel
abbrev cJ2_getChar_3b067 : ByteArray := prog_16_method_5_code
def yJ2_getChar_3b067 : MethodName := ⟨RJ2, "getChar", "([BI)C"⟩
abbrev cJ2_length_9d52b : ByteArray := prog_16_method_6_code
def yJ2_length_9d52b : MethodName := ⟨RJ2, "length", "([B)I"⟩
abbrev cJ2_charAt_3b067 : ByteArray := prog_16_method_83_code
def yJ2_charAt_3b067 : MethodName := ⟨RJ2, "charAt", "([BI)C"⟩
abbrev cJ2_checkIndex_2214a : ByteArray := prog_16_method_91_code
def yJ2_checkIndex_2214a : MethodName := ⟨RJ2, "checkIndex", "(I[B)V"⟩
def RJ10 : String := "java/lang/System"
def TJ10 : u_T := fun k => match k with
  | _ => ("", "", "", false)
def tyJ10 : Nat → FieldType := fun k => match k with
  | _ => .int
theorem nmJ10 : ∀ a, a < 0 → ∀ b, b < 0 → a ≠ b → (TJ10 a).2.1 ≠ (TJ10 b).2.1 := by decide +kernel
theorem tyJ10_ok : ∀ k, k < 0 → parseFieldDescriptor (TJ10 k).2.2.1 = some (tyJ10 k) := by decide +kernel
def RJ3 : String := "jdk/internal/util/Preconditions"
def TJ3 : u_T := fun k => match k with
  | _ => ("", "", "", false)
def tyJ3 : Nat → FieldType := fun k => match k with
  | _ => .int
theorem nmJ3 : ∀ a, a < 0 → ∀ b, b < 0 → a ≠ b → (TJ3 a).2.1 ≠ (TJ3 b).2.1 := by decide +kernel
theorem tyJ3_ok : ∀ k, k < 0 → parseFieldDescriptor (TJ3 k).2.2.1 = some (tyJ3 k) := by decide +kernel
abbrev cJ3_checkIndex_8e157 : ByteArray := prog_18_method_11_code
def yJ3_checkIndex_8e157 : MethodName := ⟨RJ3, "checkIndex", "(IILjava/util/function/BiFunction;)I"⟩
def RL : String := "WindHarpLaw"
abbrev cL_cell : ByteArray := method_2_code
def yL_cell : MethodName := ⟨RL, "cell", "([II)I"⟩
abbrev cL_low : ByteArray := method_3_code
def yL_low : MethodName := ⟨RL, "low", "(II)I"⟩
abbrev cL_number : ByteArray := method_4_code
def yL_number : MethodName := ⟨RL, "number", "(LWindHarp;I)V"⟩
abbrev cL_trees : ByteArray := method_5_code
def yL_trees : MethodName := ⟨RL, "trees", "([I)I"⟩
abbrev cL_winds : ByteArray := method_6_code
def yL_winds : MethodName := ⟨RL, "winds", "([I)I"⟩
abbrev cL_tones : ByteArray := method_7_code
def yL_tones : MethodName := ⟨RL, "tones", "([I)I"⟩
abbrev cL_tree : ByteArray := method_8_code
def yL_tree : MethodName := ⟨RL, "tree", "([III)I"⟩
abbrev cL_wind : ByteArray := method_9_code
def yL_wind : MethodName := ⟨RL, "wind", "([III)I"⟩
abbrev cL_tune : ByteArray := method_10_code
def yL_tune : MethodName := ⟨RL, "tune", "([II)I"⟩
abbrev cL_word : ByteArray := method_11_code
def yL_word : MethodName := ⟨RL, "word", "(LWindHarp;J)V"⟩
abbrev cL_tell : ByteArray := method_12_code
def yL_tell : MethodName := ⟨RL, "tell", "(LWindHarp;[I)Z"⟩
abbrev cL_begins : ByteArray := method_13_code
def yL_begins : MethodName := ⟨RL, "begins", "([I[I)V"⟩
abbrev cL_fit : ByteArray := method_14_code
def yL_fit : MethodName := ⟨RL, "fit", "(I)I"⟩
abbrev cL_tone : ByteArray := method_15_code
def yL_tone : MethodName := ⟨RL, "tone", "([II)I"⟩
abbrev cL_sounds : ByteArray := method_16_code
def yL_sounds : MethodName := ⟨RL, "sounds", "([I[III)Z"⟩
abbrev cL_hears : ByteArray := method_17_code
def yL_hears : MethodName := ⟨RL, "hears", "([I[II[I)V"⟩
abbrev cL_year : ByteArray := method_18_code
def yL_year : MethodName := ⟨RL, "year", "([I[I)V"⟩
abbrev cL_orders : ByteArray := method_19_code
def yL_orders : MethodName := ⟨RL, "orders", "(LWindHarp;[I[II)I"⟩
abbrev cL_undoes : ByteArray := method_20_code
def yL_undoes : MethodName := ⟨RL, "undoes", "([II)V"⟩
abbrev cL_law : ByteArray := code
def yL_law : MethodName := ⟨RL, "law", "([I)Z"⟩
abbrev vwCl : List vw_C := [(RX0, TX0, 6), (RX1, TX1, 2), (RX2, TX2, 4), (RX3, TX3, 4), (RX4, TX4, 7), (RX5, TX5, 4), (RX6, TX6, 7), (RX7, TX7, 4), (RX8, TX8, 8), (RX9, TX9, 13)]
