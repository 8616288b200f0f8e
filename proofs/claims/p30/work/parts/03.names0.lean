def RX0 : String := "CliqueLabels$Bound"
def TX0 : u_T := fun k => match k with
  | 0 => ("CliqueLabels$Bound", "exists", "Z", false)
  | 1 => ("CliqueLabels$Bound", "above", "J", false)
  | 2 => ("CliqueLabels$Bound", "below", "J", false)
  | _ => ("CliqueLabels$Bound", "teller", "I", false)
def tyX0 : Nat → FieldType := fun k => match k with
  | 0 => .boolean
  | 1 => .long
  | 2 => .long
  | _ => .int
abbrev wsX00 : List Cond := u_ws RX0 TX0 4
theorem nmX0 : ∀ a, a < 4 → ∀ b, b < 4 → a ≠ b → (TX0 a).2.1 ≠ (TX0 b).2.1 := by decide +kernel
theorem tyX0_ok : ∀ k, k < 4 → parseFieldDescriptor (TX0 k).2.2.1 = some (tyX0 k) := by decide +kernel
abbrev cX0_init : ByteArray := prog_2_method_1_code
def yX0_init : MethodName := ⟨RX0, "<init>", "()V"⟩
abbrev cX0_tellOf : ByteArray := prog_2_method_2_code
def yX0_tellOf : MethodName := ⟨RX0, "tellOf", "(LCliqueLabels$Graph;)V"⟩
abbrev cX0_tellNone : ByteArray := prog_2_method_3_code
def yX0_tellNone : MethodName := ⟨RX0, "tellNone", "()V"⟩
abbrev cX0_measure : ByteArray := prog_2_method_4_code
def yX0_measure : MethodName := ⟨RX0, "measure", "(LCliqueLabels$Graph;[I)V"⟩
abbrev cX0_raise : ByteArray := prog_2_method_5_code
def yX0_raise : MethodName := ⟨RX0, "raise", "(JJI)V"⟩
abbrev cX0_reduce : ByteArray := prog_2_method_8_code
def yX0_reduce : MethodName := ⟨RX0, "reduce", "()V"⟩
abbrev cX0_partOf : ByteArray := prog_2_method_9_code
def yX0_partOf : MethodName := ⟨RX0, "partOf", "(I)J"⟩
def RX1 : String := "CliqueLabels$Cliques"
def TX1 : u_T := fun k => match k with
  | 0 => ("CliqueLabels$Cliques", "weights", "[I", true)
  | _ => ("CliqueLabels$Cliques", "masks", "I", false)
def tyX1 : Nat → FieldType := fun k => match k with
  | 0 => .array .int
  | _ => .int
abbrev wsX10 : List Cond := u_ws RX1 TX1 2
theorem nmX1 : ∀ a, a < 2 → ∀ b, b < 2 → a ≠ b → (TX1 a).2.1 ≠ (TX1 b).2.1 := by decide +kernel
theorem tyX1_ok : ∀ k, k < 2 → parseFieldDescriptor (TX1 k).2.2.1 = some (tyX1 k) := by decide +kernel
abbrev cX1_init : ByteArray := prog_3_method_1_code
def yX1_init : MethodName := ⟨RX1, "<init>", "()V"⟩
abbrev cX1_find : ByteArray := prog_3_method_2_code
def yX1_find : MethodName := ⟨RX1, "find", "(LCliqueLabels$Graph;)V"⟩
abbrev cX1_weightOf : ByteArray := prog_3_method_3_code
def yX1_weightOf : MethodName := ⟨RX1, "weightOf", "(I)I"⟩
abbrev cX1_heaviestWith : ByteArray := prog_3_method_4_code
def yX1_heaviestWith : MethodName := ⟨RX1, "heaviestWith", "(I)I"⟩
abbrev cX1_mostVertices : ByteArray := prog_3_method_5_code
def yX1_mostVertices : MethodName := ⟨RX1, "mostVertices", "()I"⟩
def RX2 : String := "CliqueLabels$Coloring"
def TX2 : u_T := fun k => match k with
  | 0 => ("CliqueLabels$Coloring", "colors", "[I", true)
  | _ => ("CliqueLabels$Coloring", "number", "I", false)
def tyX2 : Nat → FieldType := fun k => match k with
  | 0 => .array .int
  | _ => .int
abbrev wsX20 : List Cond := u_ws RX2 TX2 2
theorem nmX2 : ∀ a, a < 2 → ∀ b, b < 2 → a ≠ b → (TX2 a).2.1 ≠ (TX2 b).2.1 := by decide +kernel
theorem tyX2_ok : ∀ k, k < 2 → parseFieldDescriptor (TX2 k).2.2.1 = some (tyX2 k) := by decide +kernel
abbrev cX2_init : ByteArray := prog_4_method_1_code
def yX2_init : MethodName := ⟨RX2, "<init>", "()V"⟩
abbrev cX2_find : ByteArray := prog_4_method_2_code
def yX2_find : MethodName := ⟨RX2, "find", "(LCliqueLabels$Graph;)V"⟩
abbrev cX2_paint : ByteArray := prog_4_method_3_code
def yX2_paint : MethodName := ⟨RX2, "paint", "(LCliqueLabels$Graph;[IIII)Z"⟩
abbrev cX2_isFree : ByteArray := prog_4_method_4_code
def yX2_isFree : MethodName := ⟨RX2, "isFree", "(LCliqueLabels$Graph;[III)Z"⟩
def RX3 : String := "CliqueLabels$EdgeText"
def TX3 : u_T := fun k => match k with
  | 0 => ("CliqueLabels$EdgeText", "codes", "[C", true)
  | _ => ("CliqueLabels$EdgeText", "length", "I", false)
def tyX3 : Nat → FieldType := fun k => match k with
  | 0 => .array .char
  | _ => .int
abbrev wsX30 : List Cond := u_ws RX3 TX3 2
theorem nmX3 : ∀ a, a < 2 → ∀ b, b < 2 → a ≠ b → (TX3 a).2.1 ≠ (TX3 b).2.1 := by decide +kernel
theorem tyX3_ok : ∀ k, k < 2 → parseFieldDescriptor (TX3 k).2.2.1 = some (tyX3 k) := by decide +kernel
abbrev cX3_init : ByteArray := prog_5_method_1_code
def yX3_init : MethodName := ⟨RX3, "<init>", "()V"⟩
def RX4 : String := "CliqueLabels$Graph"
def TX4 : u_T := fun k => match k with
  | 0 => ("CliqueLabels$Graph", "n", "I", false)
  | 1 => ("CliqueLabels$Graph", "d", "I", false)
  | 2 => ("CliqueLabels$Graph", "neighbors", "[I", true)
  | 3 => ("CliqueLabels$Graph", "weights", "[I", true)
  | 4 => ("CliqueLabels$Graph", "labels", "[[I", true)
  | _ => ("CliqueLabels$Graph", "handle", "[I", true)
def tyX4 : Nat → FieldType := fun k => match k with
  | 0 => .int
  | 1 => .int
  | 2 => .array .int
  | 3 => .array .int
  | 4 => .array (.array .int)
  | _ => .array .int
abbrev wsX40 : List Cond := u_ws RX4 TX4 6
theorem nmX4 : ∀ a, a < 6 → ∀ b, b < 6 → a ≠ b → (TX4 a).2.1 ≠ (TX4 b).2.1 := by decide +kernel
theorem tyX4_ok : ∀ k, k < 6 → parseFieldDescriptor (TX4 k).2.2.1 = some (tyX4 k) := by decide +kernel
abbrev cX4_init : ByteArray := prog_6_method_1_code
def yX4_init : MethodName := ⟨RX4, "<init>", "()V"⟩
abbrev cX4_clear : ByteArray := prog_6_method_2_code
def yX4_clear : MethodName := ⟨RX4, "clear", "(II)V"⟩
abbrev cX4_copyFrom : ByteArray := prog_6_method_3_code
def yX4_copyFrom : MethodName := ⟨RX4, "copyFrom", "(LCliqueLabels$Graph;)V"⟩
abbrev cX4_areJoined : ByteArray := prog_6_method_4_code
def yX4_areJoined : MethodName := ⟨RX4, "areJoined", "(II)Z"⟩
abbrev cX4_connect : ByteArray := prog_6_method_5_code
def yX4_connect : MethodName := ⟨RX4, "connect", "(IIZ)V"⟩
abbrev cX4_edges : ByteArray := prog_6_method_6_code
def yX4_edges : MethodName := ⟨RX4, "edges", "()I"⟩
abbrev cX4_flipEdges : ByteArray := prog_6_method_7_code
def yX4_flipEdges : MethodName := ⟨RX4, "flipEdges", "()V"⟩
abbrev cX4_drop : ByteArray := prog_6_method_8_code
def yX4_drop : MethodName := ⟨RX4, "drop", "(I)V"⟩
abbrev cX4_unfit : ByteArray := prog_6_method_15_code
def yX4_unfit : MethodName := ⟨RX4, "unfit", "(II)Z"⟩
abbrev cX4_unfitPairs : ByteArray := prog_6_method_16_code
def yX4_unfitPairs : MethodName := ⟨RX4, "unfitPairs", "()I"⟩
abbrev cX4_unfitPartner : ByteArray := prog_6_method_17_code
def yX4_unfitPartner : MethodName := ⟨RX4, "unfitPartner", "(I)I"⟩
abbrev cX4_firstUnfit : ByteArray := prog_6_method_18_code
def yX4_firstUnfit : MethodName := ⟨RX4, "firstUnfit", "()I"⟩
abbrev cX4_firstMissed : ByteArray := prog_6_method_19_code
def yX4_firstMissed : MethodName := ⟨RX4, "firstMissed", "([I)I"⟩
def RX5 : String := "CliqueLabels$HandleSearch"
def TX5 : u_T := fun k => match k with
  | 0 => ("CliqueLabels$HandleSearch", "best", "[I", true)
  | 1 => ("CliqueLabels$HandleSearch", "least", "LCliqueLabels$Bound;", true)
  | 2 => ("CliqueLabels$HandleSearch", "trial", "[I", true)
  | _ => ("CliqueLabels$HandleSearch", "tried", "LCliqueLabels$Bound;", true)
def tyX5 : Nat → FieldType := fun k => match k with
  | 0 => .array .int
  | 1 => .object "CliqueLabels$Bound"
  | 2 => .array .int
  | _ => .object "CliqueLabels$Bound"
abbrev wsX50 : List Cond := u_ws RX5 TX5 4
theorem nmX5 : ∀ a, a < 4 → ∀ b, b < 4 → a ≠ b → (TX5 a).2.1 ≠ (TX5 b).2.1 := by decide +kernel
theorem tyX5_ok : ∀ k, k < 4 → parseFieldDescriptor (TX5 k).2.2.1 = some (tyX5 k) := by decide +kernel
abbrev cX5_init : ByteArray := prog_7_method_1_code
def yX5_init : MethodName := ⟨RX5, "<init>", "()V"⟩
def RX6 : String := "CliqueLabels$History"
def TX6 : u_T := fun k => match k with
  | 0 => ("CliqueLabels$History", "graphs", "[LCliqueLabels$Graph;", true)
  | 1 => ("CliqueLabels$History", "products", "[I", true)
  | 2 => ("CliqueLabels$History", "latest", "I", false)
  | _ => ("CliqueLabels$History", "size", "I", false)
def tyX6 : Nat → FieldType := fun k => match k with
  | 0 => .array (.object "CliqueLabels$Graph")
  | 1 => .array .int
  | 2 => .int
  | _ => .int
abbrev wsX60 : List Cond := u_ws RX6 TX6 4
theorem nmX6 : ∀ a, a < 4 → ∀ b, b < 4 → a ≠ b → (TX6 a).2.1 ≠ (TX6 b).2.1 := by decide +kernel
theorem tyX6_ok : ∀ k, k < 4 → parseFieldDescriptor (TX6 k).2.2.1 = some (tyX6 k) := by decide +kernel
abbrev cX6_init : ByteArray := prog_8_method_1_code
def yX6_init : MethodName := ⟨RX6, "<init>", "()V"⟩
abbrev cX6_save : ByteArray := prog_8_method_2_code
def yX6_save : MethodName := ⟨RX6, "save", "(LCliqueLabels$Graph;I)V"⟩
def RX7 : String := "CliqueLabels"
def TX7 : u_T := fun k => match k with
  | 0 => ("CliqueLabels", "now", "LCliqueLabels$Graph;", true)
  | 1 => ("CliqueLabels", "snapshots", "[LCliqueLabels$Graph;", true)
  | 2 => ("CliqueLabels", "taken", "[Z", true)
  | 3 => ("CliqueLabels", "history", "LCliqueLabels$History;", true)
  | 4 => ("CliqueLabels", "text", "LCliqueLabels$EdgeText;", true)
  | 5 => ("CliqueLabels", "coloring", "LCliqueLabels$Coloring;", true)
  | 6 => ("CliqueLabels", "cliques", "LCliqueLabels$Cliques;", true)
  | 7 => ("CliqueLabels", "told", "LCliqueLabels$Bound;", true)
  | 8 => ("CliqueLabels", "search", "LCliqueLabels$HandleSearch;", true)
  | _ => ("CliqueLabels", "productsMade", "I", false)
def tyX7 : Nat → FieldType := fun k => match k with
  | 0 => .object "CliqueLabels$Graph"
  | 1 => .array (.object "CliqueLabels$Graph")
  | 2 => .array .boolean
  | 3 => .object "CliqueLabels$History"
  | 4 => .object "CliqueLabels$EdgeText"
  | 5 => .object "CliqueLabels$Coloring"
  | 6 => .object "CliqueLabels$Cliques"
  | 7 => .object "CliqueLabels$Bound"
  | 8 => .object "CliqueLabels$HandleSearch"
  | _ => .int
abbrev wsX70 : List Cond := u_ws RX7 TX7 10
theorem nmX7 : ∀ a, a < 10 → ∀ b, b < 10 → a ≠ b → (TX7 a).2.1 ≠ (TX7 b).2.1 := by decide +kernel
theorem tyX7_ok : ∀ k, k < 10 → parseFieldDescriptor (TX7 k).2.2.1 = some (tyX7 k) := by decide +kernel
abbrev cX7_init : ByteArray := prog_1_method_1_code
def yX7_init : MethodName := ⟨RX7, "<init>", "()V"⟩
abbrev cX7_begin : ByteArray := prog_1_method_2_code
def yX7_begin : MethodName := ⟨RX7, "begin", "(II)I"⟩
abbrev cX7_join : ByteArray := prog_1_method_3_code
def yX7_join : MethodName := ⟨RX7, "join", "(IIZ)I"⟩
abbrev cX7_weigh : ByteArray := prog_1_method_4_code
def yX7_weigh : MethodName := ⟨RX7, "weigh", "(II)I"⟩
abbrev cX7_complement : ByteArray := prog_1_method_5_code
def yX7_complement : MethodName := ⟨RX7, "complement", "()I"⟩
abbrev cX7_remove : ByteArray := prog_1_method_6_code
def yX7_remove : MethodName := ⟨RX7, "remove", "(I)I"⟩
abbrev cX7_label : ByteArray := prog_1_method_8_code
def yX7_label : MethodName := ⟨RX7, "label", "(III)I"⟩
abbrev cX7_hold : ByteArray := prog_1_method_9_code
def yX7_hold : MethodName := ⟨RX7, "hold", "(II)I"⟩
abbrev cX7_joined : ByteArray := prog_1_method_19_code
def yX7_joined : MethodName := ⟨RX7, "joined", "(II)I"⟩
abbrev cX7_vertex : ByteArray := prog_1_method_20_code
def yX7_vertex : MethodName := ⟨RX7, "vertex", "(II)I"⟩
abbrev cX7_handle : ByteArray := prog_1_method_21_code
def yX7_handle : MethodName := ⟨RX7, "handle", "(I)I"⟩
abbrev cX7_bound : ByteArray := prog_1_method_22_code
def yX7_bound : MethodName := ⟨RX7, "bound", "(I)J"⟩
abbrev cX7_whyNot : ByteArray := prog_1_method_23_code
def yX7_whyNot : MethodName := ⟨RX7, "whyNot", "(I)I"⟩
abbrev cX7_count : ByteArray := prog_1_method_26_code
def yX7_count : MethodName := ⟨RX7, "count", "(I)I"⟩
abbrev cX7_nearness : ByteArray := prog_1_method_27_code
def yX7_nearness : MethodName := ⟨RX7, "nearness", "()D"⟩
abbrev cX7_checkVertex : ByteArray := prog_1_method_29_code
def yX7_checkVertex : MethodName := ⟨RX7, "checkVertex", "(I)V"⟩
abbrev cX7_checkPlace : ByteArray := prog_1_method_30_code
def yX7_checkPlace : MethodName := ⟨RX7, "checkPlace", "(I)V"⟩
abbrev cX7_checkNumber : ByteArray := prog_1_method_33_code
def yX7_checkNumber : MethodName := ⟨RX7, "checkNumber", "(I)V"⟩
abbrev cX7_checkPart : ByteArray := prog_1_method_35_code
def yX7_checkPart : MethodName := ⟨RX7, "checkPart", "(I)V"⟩
abbrev cX7_saveState : ByteArray := prog_1_method_36_code
def yX7_saveState : MethodName := ⟨RX7, "saveState", "()V"⟩
abbrev cX7_searchGraph : ByteArray := prog_1_method_37_code
def yX7_searchGraph : MethodName := ⟨RX7, "searchGraph", "()V"⟩
abbrev cX7_propertyOf : ByteArray := prog_1_method_38_code
def yX7_propertyOf : MethodName := ⟨RX7, "propertyOf", "(II)I"⟩
abbrev cX7_numberOf : ByteArray := prog_1_method_39_code
def yX7_numberOf : MethodName := ⟨RX7, "numberOf", "(I)I"⟩
abbrev cX7_takenSnapshots : ByteArray := prog_1_method_40_code
def yX7_takenSnapshots : MethodName := ⟨RX7, "takenSnapshots", "()I"⟩
abbrev cX7_share : ByteArray := prog_1_method_41_code
def yX7_share : MethodName := ⟨RX7, "share", "()D"⟩
abbrev cX7_whyNoBound : ByteArray := prog_1_method_42_code
def yX7_whyNoBound : MethodName := ⟨RX7, "whyNoBound", "(I)I"⟩
abbrev cX7_product : ByteArray := prog_1_method_48_code
def yX7_product : MethodName := ⟨RX7, "product", "([I[I)I"⟩
def RX8 : String := "CliqueLabelsModel"
def TX8 : u_T := fun k => match k with
  | _ => ("", "", "", false)
def tyX8 : Nat → FieldType := fun k => match k with
  | _ => .int
abbrev wsX80 : List Cond := u_ws RX8 TX8 0
theorem nmX8 : ∀ a, a < 0 → ∀ b, b < 0 → a ≠ b → (TX8 a).2.1 ≠ (TX8 b).2.1 := by decide +kernel
theorem tyX8_ok : ∀ k, k < 0 → parseFieldDescriptor (TX8 k).2.2.1 = some (tyX8 k) := by decide +kernel
def RJx145de : String := "java/io/Serializable"
def TJx145de : u_T := fun k => match k with
  | _ => ("", "", "", false)
def tyJx145de : Nat → FieldType := fun k => match k with
  | _ => .int
theorem nmJx145de : ∀ a, a < 0 → ∀ b, b < 0 → a ≠ b → (TJx145de a).2.1 ≠ (TJx145de b).2.1 := by decide +kernel
theorem tyJx145de_ok : ∀ k, k < 0 → parseFieldDescriptor (TJx145de k).2.2.1 = some (tyJx145de k) := by decide +kernel
def RJ6 : String := "java/lang/Integer"
def TJ6 : u_T := fun k => match k with
  | _ => ("", "", "", false)
def tyJ6 : Nat → FieldType := fun k => match k with
  | _ => .int
theorem nmJ6 : ∀ a, a < 0 → ∀ b, b < 0 → a ≠ b → (TJ6 a).2.1 ≠ (TJ6 b).2.1 := by decide +kernel
theorem tyJ6_ok : ∀ k, k < 0 → parseFieldDescriptor (TJ6 k).2.2.1 = some (tyJ6 k) := by decide +kernel
abbrev cJ6_bitCount_0f7a4 : ByteArray := prog_15_method_49_code
def yJ6_bitCount_0f7a4 : MethodName := ⟨RJ6, "bitCount", "(I)I"⟩
def RJ9 : String := "java/lang/Math"
def TJ9 : u_T := fun k => match k with
  | _ => ("", "", "", false)
def tyJ9 : Nat → FieldType := fun k => match k with
  | _ => .int
theorem nmJ9 : ∀ a, a < 0 → ∀ b, b < 0 → a ≠ b → (TJ9 a).2.1 ≠ (TJ9 b).2.1 := by decide +kernel
theorem tyJ9_ok : ∀ k, k < 0 → parseFieldDescriptor (TJ9 k).2.2.1 = some (tyJ9 k) := by decide +kernel
abbrev cJ9_max_7cf53 : ByteArray := prog_16_method_65_code
def yJ9_max_7cf53 : MethodName := ⟨RJ9, "max", "(II)I"⟩
abbrev cJ9_min_7cf53 : ByteArray := prog_16_method_69_code
def yJ9_min_7cf53 : MethodName := ⟨RJ9, "min", "(II)I"⟩
def RJ0 : String := "java/lang/String"
def TJ0 : u_T := fun k => match k with
  | _ => ("", "", "", false)
def tyJ0 : Nat → FieldType := fun k => match k with
  | _ => .int
theorem nmJ0 : ∀ a, a < 0 → ∀ b, b < 0 → a ≠ b → (TJ0 a).2.1 ≠ (TJ0 b).2.1 := by decide +kernel
theorem tyJ0_ok : ∀ k, k < 0 → parseFieldDescriptor (TJ0 k).2.2.1 = some (tyJ0 k) := by decide +kernel
def RJ10 : String := "java/lang/System"
def TJ10 : u_T := fun k => match k with
  | _ => ("", "", "", false)
def tyJ10 : Nat → FieldType := fun k => match k with
  | _ => .int
theorem nmJ10 : ∀ a, a < 0 → ∀ b, b < 0 → a ≠ b → (TJ10 a).2.1 ≠ (TJ10 b).2.1 := by decide +kernel
theorem tyJ10_ok : ∀ k, k < 0 → parseFieldDescriptor (TJ10 k).2.2.1 = some (tyJ10 k) := by decide +kernel
def RJ7 : String := "java/util/Arrays"
def TJ7 : u_T := fun k => match k with
  | _ => ("", "", "", false)
def tyJ7 : Nat → FieldType := fun k => match k with
  | _ => .int
theorem nmJ7 : ∀ a, a < 0 → ∀ b, b < 0 → a ≠ b → (TJ7 a).2.1 ≠ (TJ7 b).2.1 := by decide +kernel
theorem tyJ7_ok : ∀ k, k < 0 → parseFieldDescriptor (TJ7 k).2.2.1 = some (tyJ7 k) := by decide +kernel
abbrev cJ7_fill_53178 : ByteArray := prog_21_method_103_code
def yJ7_fill_53178 : MethodName := ⟨RJ7, "fill", "([II)V"⟩
def RL : String := "CliqueLabelsLaw"
abbrev cL_cell : ByteArray := method_2_code
def yL_cell : MethodName := ⟨RL, "cell", "([II)I"⟩
abbrev cL_at : ByteArray := method_3_code
def yL_at : MethodName := ⟨RL, "at", "(II)I"⟩
abbrev cL_product : ByteArray := method_4_code
def yL_product : MethodName := ⟨RL, "product", "([II[II)I"⟩
abbrev cL_misfit : ByteArray := method_5_code
def yL_misfit : MethodName := ⟨RL, "misfit", "([I[I[I)I"⟩
abbrev cL_unreached : ByteArray := method_6_code
def yL_unreached : MethodName := ⟨RL, "unreached", "([I[I[I[I)I"⟩
abbrev cL_gcd : ByteArray := method_7_code
def yL_gcd : MethodName := ⟨RL, "gcd", "(JJ)J"⟩
abbrev cL_bound : ByteArray := method_8_code
def yL_bound : MethodName := ⟨RL, "bound", "(LCliqueLabels;[I[I[I[I[I)Z"⟩
abbrev cL_clique : ByteArray := method_9_code
def yL_clique : MethodName := ⟨RL, "clique", "([I[II)Z"⟩
abbrev cL_cliques : ByteArray := method_10_code
def yL_cliques : MethodName := ⟨RL, "cliques", "(LCliqueLabels;[I[I[I)Z"⟩
abbrev cL_colorAt : ByteArray := method_11_code
def yL_colorAt : MethodName := ⟨RL, "colorAt", "(II)I"⟩
abbrev cL_colors : ByteArray := method_12_code
def yL_colors : MethodName := ⟨RL, "colors", "(LCliqueLabels;[I[I)Z"⟩
abbrev cL_act : ByteArray := method_13_code
def yL_act : MethodName := ⟨RL, "act", "(LCliqueLabels;II[I[I[I[I[I)Z"⟩
abbrev cL_agree : ByteArray := method_14_code
def yL_agree : MethodName := ⟨RL, "agree", "(LCliqueLabels;[I[I[I[I[I)Z"⟩
abbrev cL_law : ByteArray := code
def yL_law : MethodName := ⟨RL, "law", "([I)Z"⟩
abbrev vwCl : List vw_C := [(RX0, TX0, 4), (RX1, TX1, 2), (RX2, TX2, 2), (RX3, TX3, 2), (RX4, TX4, 6), (RX5, TX5, 4), (RX6, TX6, 4), (RX7, TX7, 10)]
