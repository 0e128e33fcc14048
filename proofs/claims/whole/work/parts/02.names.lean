def RX0 : String := "FieldPack$Bytes"
def TX0 : u_T := fun k => match k with
  | 0 => ("FieldPack$Bytes", "row", "[I", false)
  | _ => ("FieldPack$Bytes", "size", "I", false)
def tyX0 : Nat → FieldType := fun k => match k with
  | 0 => .array .int
  | _ => .int
theorem nmX0 : ∀ a, a < 2 → ∀ b, b < 2 → a ≠ b → (TX0 a).2.1 ≠ (TX0 b).2.1 := by decide +kernel
theorem tyX0_ok : ∀ k, k < 2 → parseFieldDescriptor (TX0 k).2.2.1 = some (tyX0 k) := by decide +kernel
abbrev cX0_init : ByteArray := prog_2_method_1_code
def yX0_init : MethodName := ⟨RX0, "<init>", "(I)V"⟩
abbrev cX0_at : ByteArray := prog_2_method_2_code
def yX0_at : MethodName := ⟨RX0, "at", "(I)I"⟩
abbrev cX0_put : ByteArray := prog_2_method_3_code
def yX0_put : MethodName := ⟨RX0, "put", "(I)V"⟩
abbrev cX0_putNumber : ByteArray := prog_2_method_4_code
def yX0_putNumber : MethodName := ⟨RX0, "putNumber", "(III)V"⟩
abbrev cX0_putText : ByteArray := prog_2_method_5_code
def yX0_putText : MethodName := ⟨RX0, "putText", "(IIJ)V"⟩
abbrev cX0_putAll : ByteArray := prog_2_method_6_code
def yX0_putAll : MethodName := ⟨RX0, "putAll", "(LFieldPack$Bytes;)V"⟩
def RX1 : String := "FieldPack$Decoder"
def TX1 : u_T := fun k => match k with
  | 0 => ("FieldPack$Decoder", "table", "LFieldPack$Table;", true)
  | _ => ("FieldPack$Decoder", "toldCome", "I", false)
def tyX1 : Nat → FieldType := fun k => match k with
  | 0 => .object "FieldPack$Table"
  | _ => .int
theorem nmX1 : ∀ a, a < 2 → ∀ b, b < 2 → a ≠ b → (TX1 a).2.1 ≠ (TX1 b).2.1 := by decide +kernel
theorem tyX1_ok : ∀ k, k < 2 → parseFieldDescriptor (TX1 k).2.2.1 = some (tyX1 k) := by decide +kernel
abbrev cX1_init : ByteArray := prog_3_method_1_code
def yX1_init : MethodName := ⟨RX1, "<init>", "(I)V"⟩
abbrev cX1_obey : ByteArray := prog_3_method_2_code
def yX1_obey : MethodName := ⟨RX1, "obey", "(LFieldPack$Reader;)V"⟩
abbrev cX1_obeyOne : ByteArray := prog_3_method_3_code
def yX1_obeyOne : MethodName := ⟨RX1, "obeyOne", "(LFieldPack$Reader;)Z"⟩
abbrev cX1_takeName : ByteArray := prog_3_method_4_code
def yX1_takeName : MethodName := ⟨RX1, "takeName", "(LFieldPack$Reader;)J"⟩
abbrev cX1_receive : ByteArray := prog_3_method_5_code
def yX1_receive : MethodName := ⟨RX1, "receive", "(LFieldPack$Bytes;)LFieldPack$Section;"⟩
abbrev cX1_requiredBy : ByteArray := prog_3_method_6_code
def yX1_requiredBy : MethodName := ⟨RX1, "requiredBy", "(I)I"⟩
abbrev cX1_release : ByteArray := prog_3_method_7_code
def yX1_release : MethodName := ⟨RX1, "release", "(LFieldPack$Lane;LFieldPack$Bytes;)V"⟩
abbrev cX1_readLines : ByteArray := prog_3_method_8_code
def yX1_readLines : MethodName := ⟨RX1, "readLines", "(LFieldPack$Section;)V"⟩
abbrev cX1_readLine : ByteArray := prog_3_method_9_code
def yX1_readLine : MethodName := ⟨RX1, "readLine", "(LFieldPack$Reader;I)LFieldPack$Field;"⟩
abbrev cX1_fieldAt : ByteArray := prog_3_method_10_code
def yX1_fieldAt : MethodName := ⟨RX1, "fieldAt", "(I)LFieldPack$Field;"⟩
abbrev cX1_tellCome : ByteArray := prog_3_method_11_code
def yX1_tellCome : MethodName := ⟨RX1, "tellCome", "(LFieldPack$Bytes;)I"⟩
def RX2 : String := "FieldPack$Encoder"
def TX2 : u_T := fun k => match k with
  | 0 => ("FieldPack$Encoder", "table", "LFieldPack$Table;", true)
  | 1 => ("FieldPack$Encoder", "blocked", "I", true)
  | 2 => ("FieldPack$Encoder", "open", "Ljava/util/ArrayList;", true)
  | 3 => ("FieldPack$Encoder", "known", "I", false)
  | 4 => ("FieldPack$Encoder", "lines", "LFieldPack$Bytes;", true)
  | 5 => ("FieldPack$Encoder", "base", "I", false)
  | 6 => ("FieldPack$Encoder", "required", "I", false)
  | 7 => ("FieldPack$Encoder", "least", "I", false)
  | _ => ("FieldPack$Encoder", "mayRisk", "Z", false)
def tyX2 : Nat → FieldType := fun k => match k with
  | 0 => .object "FieldPack$Table"
  | 1 => .int
  | 2 => .object "java/util/ArrayList"
  | 3 => .int
  | 4 => .object "FieldPack$Bytes"
  | 5 => .int
  | 6 => .int
  | 7 => .int
  | _ => .boolean
theorem nmX2 : ∀ a, a < 9 → ∀ b, b < 9 → a ≠ b → (TX2 a).2.1 ≠ (TX2 b).2.1 := by decide +kernel
theorem tyX2_ok : ∀ k, k < 9 → parseFieldDescriptor (TX2 k).2.2.1 = some (tyX2 k) := by decide +kernel
abbrev cX2_init : ByteArray := prog_4_method_1_code
def yX2_init : MethodName := ⟨RX2, "<init>", "(II)V"⟩
abbrev cX2_makeSection : ByteArray := prog_4_method_2_code
def yX2_makeSection : MethodName := ⟨RX2, "makeSection", "(ILjava/util/ArrayList;LFieldPack$Bytes;)LFieldPack$Bytes;"⟩
abbrev cX2_putFront : ByteArray := prog_4_method_3_code
def yX2_putFront : MethodName := ⟨RX2, "putFront", "(LFieldPack$Bytes;)V"⟩
abbrev cX2_putField : ByteArray := prog_4_method_4_code
def yX2_putField : MethodName := ⟨RX2, "putField", "(LFieldPack$Field;LFieldPack$Bytes;)V"⟩
abbrev cX2_putEntry : ByteArray := prog_4_method_5_code
def yX2_putEntry : MethodName := ⟨RX2, "putEntry", "(I)V"⟩
abbrev cX2_putLiteral : ByteArray := prog_4_method_6_code
def yX2_putLiteral : MethodName := ⟨RX2, "putLiteral", "(LFieldPack$Field;I)V"⟩
abbrev cX2_putNameOf : ByteArray := prog_4_method_7_code
def yX2_putNameOf : MethodName := ⟨RX2, "putNameOf", "(II)V"⟩
abbrev cX2_noteReference : ByteArray := prog_4_method_8_code
def yX2_noteReference : MethodName := ⟨RX2, "noteReference", "(I)V"⟩
abbrev cX2_mayReferTo : ByteArray := prog_4_method_9_code
def yX2_mayReferTo : MethodName := ⟨RX2, "mayReferTo", "(I)Z"⟩
abbrev cX2_canInsert : ByteArray := prog_4_method_10_code
def yX2_canInsert : MethodName := ⟨RX2, "canInsert", "(LFieldPack$Field;)Z"⟩
abbrev cX2_firstBusy : ByteArray := prog_4_method_11_code
def yX2_firstBusy : MethodName := ⟨RX2, "firstBusy", "()I"⟩
abbrev cX2_insert : ByteArray := prog_4_method_12_code
def yX2_insert : MethodName := ⟨RX2, "insert", "(LFieldPack$Field;ILFieldPack$Bytes;)V"⟩
abbrev cX2_isAtRisk : ByteArray := prog_4_method_13_code
def yX2_isAtRisk : MethodName := ⟨RX2, "isAtRisk", "(I)Z"⟩
abbrev cX2_streamsAtRisk : ByteArray := prog_4_method_14_code
def yX2_streamsAtRisk : MethodName := ⟨RX2, "streamsAtRisk", "()I"⟩
abbrev cX2_hear : ByteArray := prog_4_method_15_code
def yX2_hear : MethodName := ⟨RX2, "hear", "(LFieldPack$Reader;)V"⟩
abbrev cX2_hearOne : ByteArray := prog_4_method_16_code
def yX2_hearOne : MethodName := ⟨RX2, "hearOne", "(LFieldPack$Reader;)Z"⟩
abbrev cX2_closeOldest : ByteArray := prog_4_method_17_code
def yX2_closeOldest : MethodName := ⟨RX2, "closeOldest", "(I)V"⟩
abbrev cX2_closeAll : ByteArray := prog_4_method_18_code
def yX2_closeAll : MethodName := ⟨RX2, "closeAll", "(I)V"⟩
def RX3 : String := "FieldPack$Field"
def TX3 : u_T := fun k => match k with
  | 0 => ("FieldPack$Field", "name", "J", true)
  | 1 => ("FieldPack$Field", "value", "J", true)
  | _ => ("FieldPack$Field", "sensitive", "Z", true)
def tyX3 : Nat → FieldType := fun k => match k with
  | 0 => .long
  | 1 => .long
  | _ => .boolean
theorem nmX3 : ∀ a, a < 3 → ∀ b, b < 3 → a ≠ b → (TX3 a).2.1 ≠ (TX3 b).2.1 := by decide +kernel
theorem tyX3_ok : ∀ k, k < 3 → parseFieldDescriptor (TX3 k).2.2.1 = some (tyX3 k) := by decide +kernel
abbrev cX3_init : ByteArray := prog_5_method_1_code
def yX3_init : MethodName := ⟨RX3, "<init>", "(JJZ)V"⟩
def RX4 : String := "FieldPack$Lane"
def TX4 : u_T := fun k => match k with
  | 0 => ("FieldPack$Lane", "stream", "I", true)
  | 1 => ("FieldPack$Lane", "onWire", "Ljava/util/ArrayList;", true)
  | 2 => ("FieldPack$Lane", "waiting", "Ljava/util/ArrayList;", true)
  | 3 => ("FieldPack$Lane", "read", "Ljava/util/ArrayList;", true)
  | _ => ("FieldPack$Lane", "givenUp", "Z", false)
def tyX4 : Nat → FieldType := fun k => match k with
  | 0 => .int
  | 1 => .object "java/util/ArrayList"
  | 2 => .object "java/util/ArrayList"
  | 3 => .object "java/util/ArrayList"
  | _ => .boolean
theorem nmX4 : ∀ a, a < 5 → ∀ b, b < 5 → a ≠ b → (TX4 a).2.1 ≠ (TX4 b).2.1 := by decide +kernel
theorem tyX4_ok : ∀ k, k < 5 → parseFieldDescriptor (TX4 k).2.2.1 = some (tyX4 k) := by decide +kernel
abbrev cX4_init : ByteArray := prog_6_method_1_code
def yX4_init : MethodName := ⟨RX4, "<init>", "(I)V"⟩
def RX5 : String := "FieldPack$Open"
def TX5 : u_T := fun k => match k with
  | 0 => ("FieldPack$Open", "stream", "I", true)
  | 1 => ("FieldPack$Open", "required", "I", true)
  | _ => ("FieldPack$Open", "least", "I", true)
def tyX5 : Nat → FieldType := fun k => match k with
  | 0 => .int
  | 1 => .int
  | _ => .int
theorem nmX5 : ∀ a, a < 3 → ∀ b, b < 3 → a ≠ b → (TX5 a).2.1 ≠ (TX5 b).2.1 := by decide +kernel
theorem tyX5_ok : ∀ k, k < 3 → parseFieldDescriptor (TX5 k).2.2.1 = some (tyX5 k) := by decide +kernel
abbrev cX5_init : ByteArray := prog_7_method_1_code
def yX5_init : MethodName := ⟨RX5, "<init>", "(III)V"⟩
def RX6 : String := "FieldPack$Reader"
def TX6 : u_T := fun k => match k with
  | 0 => ("FieldPack$Reader", "bytes", "LFieldPack$Bytes;", true)
  | 1 => ("FieldPack$Reader", "at", "I", false)
  | 2 => ("FieldPack$Reader", "end", "I", false)
  | _ => ("FieldPack$Reader", "cut", "Z", false)
def tyX6 : Nat → FieldType := fun k => match k with
  | 0 => .object "FieldPack$Bytes"
  | 1 => .int
  | 2 => .int
  | _ => .boolean
theorem nmX6 : ∀ a, a < 4 → ∀ b, b < 4 → a ≠ b → (TX6 a).2.1 ≠ (TX6 b).2.1 := by decide +kernel
theorem tyX6_ok : ∀ k, k < 4 → parseFieldDescriptor (TX6 k).2.2.1 = some (tyX6 k) := by decide +kernel
abbrev cX6_init : ByteArray := prog_8_method_1_code
def yX6_init : MethodName := ⟨RX6, "<init>", "(LFieldPack$Bytes;I)V"⟩
abbrev cX6_left : ByteArray := prog_8_method_2_code
def yX6_left : MethodName := ⟨RX6, "left", "()I"⟩
abbrev cX6_front : ByteArray := prog_8_method_3_code
def yX6_front : MethodName := ⟨RX6, "front", "()I"⟩
abbrev cX6_take : ByteArray := prog_8_method_4_code
def yX6_take : MethodName := ⟨RX6, "take", "()I"⟩
abbrev cX6_takeNumber : ByteArray := prog_8_method_5_code
def yX6_takeNumber : MethodName := ⟨RX6, "takeNumber", "(I)I"⟩
abbrev cX6_takeText : ByteArray := prog_8_method_6_code
def yX6_takeText : MethodName := ⟨RX6, "takeText", "(I)J"⟩
abbrev cX6_rewind : ByteArray := prog_8_method_7_code
def yX6_rewind : MethodName := ⟨RX6, "rewind", "(I)V"⟩
def RX7 : String := "FieldPack$Section"
def TX7 : u_T := fun k => match k with
  | 0 => ("FieldPack$Section", "reader", "LFieldPack$Reader;", true)
  | 1 => ("FieldPack$Section", "required", "I", true)
  | _ => ("FieldPack$Section", "fields", "Ljava/util/ArrayList;", true)
def tyX7 : Nat → FieldType := fun k => match k with
  | 0 => .object "FieldPack$Reader"
  | 1 => .int
  | _ => .object "java/util/ArrayList"
theorem nmX7 : ∀ a, a < 3 → ∀ b, b < 3 → a ≠ b → (TX7 a).2.1 ≠ (TX7 b).2.1 := by decide +kernel
theorem tyX7_ok : ∀ k, k < 3 → parseFieldDescriptor (TX7 k).2.2.1 = some (tyX7 k) := by decide +kernel
abbrev cX7_init : ByteArray := prog_9_method_1_code
def yX7_init : MethodName := ⟨RX7, "<init>", "(LFieldPack$Reader;I)V"⟩
def RX8 : String := "FieldPack$Table"
def TX8 : u_T := fun k => match k with
  | 0 => ("FieldPack$Table", "capacity", "I", true)
  | 1 => ("FieldPack$Table", "names", "[J", true)
  | 2 => ("FieldPack$Table", "values", "[J", true)
  | 3 => ("FieldPack$Table", "sizes", "[I", true)
  | 4 => ("FieldPack$Table", "first", "I", false)
  | 5 => ("FieldPack$Table", "count", "I", false)
  | _ => ("FieldPack$Table", "size", "I", false)
def tyX8 : Nat → FieldType := fun k => match k with
  | 0 => .int
  | 1 => .array .long
  | 2 => .array .long
  | 3 => .array .int
  | 4 => .int
  | 5 => .int
  | _ => .int
theorem nmX8 : ∀ a, a < 7 → ∀ b, b < 7 → a ≠ b → (TX8 a).2.1 ≠ (TX8 b).2.1 := by decide +kernel
theorem tyX8_ok : ∀ k, k < 7 → parseFieldDescriptor (TX8 k).2.2.1 = some (tyX8 k) := by decide +kernel
abbrev cX8_init : ByteArray := prog_10_method_1_code
def yX8_init : MethodName := ⟨RX8, "<init>", "(I)V"⟩
abbrev cX8_has : ByteArray := prog_10_method_2_code
def yX8_has : MethodName := ⟨RX8, "has", "(I)Z"⟩
abbrev cX8_nameAt : ByteArray := prog_10_method_3_code
def yX8_nameAt : MethodName := ⟨RX8, "nameAt", "(I)J"⟩
abbrev cX8_valueAt : ByteArray := prog_10_method_4_code
def yX8_valueAt : MethodName := ⟨RX8, "valueAt", "(I)J"⟩
abbrev cX8_lastNamed : ByteArray := prog_10_method_5_code
def yX8_lastNamed : MethodName := ⟨RX8, "lastNamed", "(J)I"⟩
abbrev cX8_lastOf : ByteArray := prog_10_method_6_code
def yX8_lastOf : MethodName := ⟨RX8, "lastOf", "(JJ)I"⟩
abbrev cX8_firstBeside : ByteArray := prog_10_method_7_code
def yX8_firstBeside : MethodName := ⟨RX8, "firstBeside", "(I)I"⟩
abbrev cX8_insert : ByteArray := prog_10_method_8_code
def yX8_insert : MethodName := ⟨RX8, "insert", "(JJ)V"⟩
def RX9 : String := "FieldPack$Wire"
def TX9 : u_T := fun k => match k with
  | 0 => ("FieldPack$Wire", "bytes", "LFieldPack$Bytes;", true)
  | _ => ("FieldPack$Wire", "reader", "LFieldPack$Reader;", true)
def tyX9 : Nat → FieldType := fun k => match k with
  | 0 => .object "FieldPack$Bytes"
  | _ => .object "FieldPack$Reader"
theorem nmX9 : ∀ a, a < 2 → ∀ b, b < 2 → a ≠ b → (TX9 a).2.1 ≠ (TX9 b).2.1 := by decide +kernel
theorem tyX9_ok : ∀ k, k < 2 → parseFieldDescriptor (TX9 k).2.2.1 = some (tyX9 k) := by decide +kernel
abbrev cX9_init : ByteArray := prog_11_method_1_code
def yX9_init : MethodName := ⟨RX9, "<init>", "()V"⟩
abbrev cX9_left : ByteArray := prog_11_method_2_code
def yX9_left : MethodName := ⟨RX9, "left", "()I"⟩
abbrev cX9_at : ByteArray := prog_11_method_3_code
def yX9_at : MethodName := ⟨RX9, "at", "(I)I"⟩
abbrev cX9_bring : ByteArray := prog_11_method_4_code
def yX9_bring : MethodName := ⟨RX9, "bring", "(I)I"⟩
def RX10 : String := "FieldPack"
def TX10 : u_T := fun k => match k with
  | 0 => ("FieldPack", "instructions", "LFieldPack$Wire;", true)
  | 1 => ("FieldPack", "back", "LFieldPack$Wire;", true)
  | 2 => ("FieldPack", "encoder", "LFieldPack$Encoder;", true)
  | 3 => ("FieldPack", "decoder", "LFieldPack$Decoder;", true)
  | 4 => ("FieldPack", "lanes", "[LFieldPack$Lane;", true)
  | 5 => ("FieldPack", "next", "Ljava/util/ArrayList;", true)
  | _ => ("FieldPack", "made", "I", false)
def tyX10 : Nat → FieldType := fun k => match k with
  | 0 => .object "FieldPack$Wire"
  | 1 => .object "FieldPack$Wire"
  | 2 => .object "FieldPack$Encoder"
  | 3 => .object "FieldPack$Decoder"
  | 4 => .array (.object "FieldPack$Lane")
  | 5 => .object "java/util/ArrayList"
  | _ => .int
theorem nmX10 : ∀ a, a < 7 → ∀ b, b < 7 → a ≠ b → (TX10 a).2.1 ≠ (TX10 b).2.1 := by decide +kernel
theorem tyX10_ok : ∀ k, k < 7 → parseFieldDescriptor (TX10 k).2.2.1 = some (tyX10 k) := by decide +kernel
abbrev cX10_init : ByteArray := prog_1_method_1_code
def yX10_init : MethodName := ⟨RX10, "<init>", "(II)V"⟩
abbrev cX10_field : ByteArray := prog_1_method_2_code
def yX10_field : MethodName := ⟨RX10, "field", "(JJZ)I"⟩
abbrev cX10_encode : ByteArray := prog_1_method_3_code
def yX10_encode : MethodName := ⟨RX10, "encode", "(I)I"⟩
abbrev cX10_move : ByteArray := prog_1_method_4_code
def yX10_move : MethodName := ⟨RX10, "move", "(II)I"⟩
abbrev cX10_deliver : ByteArray := prog_1_method_5_code
def yX10_deliver : MethodName := ⟨RX10, "deliver", "(I)I"⟩
abbrev cX10_increment : ByteArray := prog_1_method_6_code
def yX10_increment : MethodName := ⟨RX10, "increment", "()I"⟩
abbrev cX10_cancel : ByteArray := prog_1_method_7_code
def yX10_cancel : MethodName := ⟨RX10, "cancel", "(I)I"⟩
abbrev cX10_waiting : ByteArray := prog_1_method_8_code
def yX10_waiting : MethodName := ⟨RX10, "waiting", "(I)I"⟩
abbrev cX10_look : ByteArray := prog_1_method_9_code
def yX10_look : MethodName := ⟨RX10, "look", "(II)I"⟩
abbrev cX10_told : ByteArray := prog_1_method_10_code
def yX10_told : MethodName := ⟨RX10, "told", "(II)I"⟩
abbrev cX10_entry : ByteArray := prog_1_method_11_code
def yX10_entry : MethodName := ⟨RX10, "entry", "(III)J"⟩
abbrev cX10_sections : ByteArray := prog_1_method_12_code
def yX10_sections : MethodName := ⟨RX10, "sections", "(I)I"⟩
abbrev cX10_decoded : ByteArray := prog_1_method_13_code
def yX10_decoded : MethodName := ⟨RX10, "decoded", "(IIII)J"⟩
abbrev cX10_laneOf : ByteArray := prog_1_method_14_code
def yX10_laneOf : MethodName := ⟨RX10, "laneOf", "(I)LFieldPack$Lane;"⟩
abbrev cX10_nextSection : ByteArray := prog_1_method_15_code
def yX10_nextSection : MethodName := ⟨RX10, "nextSection", "(I)LFieldPack$Bytes;"⟩
abbrev cX10_tableOf : ByteArray := prog_1_method_16_code
def yX10_tableOf : MethodName := ⟨RX10, "tableOf", "(I)LFieldPack$Table;"⟩
abbrev cX10_toldByEncoder : ByteArray := prog_1_method_17_code
def yX10_toldByEncoder : MethodName := ⟨RX10, "toldByEncoder", "(I)I"⟩
abbrev cX10_toldByDecoder : ByteArray := prog_1_method_18_code
def yX10_toldByDecoder : MethodName := ⟨RX10, "toldByDecoder", "(I)I"⟩
abbrev cX10_isText : ByteArray := prog_1_method_19_code
def yX10_isText : MethodName := ⟨RX10, "isText", "(J)Z"⟩
abbrev cX10_lengthOf : ByteArray := prog_1_method_20_code
def yX10_lengthOf : MethodName := ⟨RX10, "lengthOf", "(J)I"⟩
abbrev cX10_sizeOf : ByteArray := prog_1_method_21_code
def yX10_sizeOf : MethodName := ⟨RX10, "sizeOf", "(JJ)I"⟩
abbrev cX10_fixedNamed : ByteArray := prog_1_method_22_code
def yX10_fixedNamed : MethodName := ⟨RX10, "fixedNamed", "(J)I"⟩
abbrev cX10_fixedValue : ByteArray := prog_1_method_23_code
def yX10_fixedValue : MethodName := ⟨RX10, "fixedValue", "(I)J"⟩
def RX11 : String := "FieldPackModel"
def TX11 : u_T := fun k => match k with
  | 0 => ("FieldPackModel", "capacity", "I", true)
  | 1 => ("FieldPackModel", "blocked", "I", true)
  | 2 => ("FieldPackModel", "fields", "I", false)
  | 3 => ("FieldPackModel", "fieldName", "[J", true)
  | 4 => ("FieldPackModel", "fieldValue", "[J", true)
  | 5 => ("FieldPackModel", "fieldSensitive", "[Z", true)
  | 6 => ("FieldPackModel", "count", "I", false)
  | 7 => ("FieldPackModel", "name", "[J", true)
  | 8 => ("FieldPackModel", "value", "[J", true)
  | 9 => ("FieldPackModel", "ends", "[I", true)
  | 10 => ("FieldPackModel", "first", "I", false)
  | 11 => ("FieldPackModel", "table", "I", false)
  | 12 => ("FieldPackModel", "known", "I", false)
  | 13 => ("FieldPackModel", "said", "I", false)
  | 14 => ("FieldPackModel", "instruction", "[I", true)
  | 15 => ("FieldPackModel", "came", "I", false)
  | 16 => ("FieldPackModel", "told", "I", false)
  | 17 => ("FieldPackModel", "back", "[I", true)
  | 18 => ("FieldPackModel", "heard", "I", false)
  | 19 => ("FieldPackModel", "tells", "I", false)
  | 20 => ("FieldPackModel", "tellKind", "[I", true)
  | 21 => ("FieldPackModel", "tellNumber", "[I", true)
  | 22 => ("FieldPackModel", "tellEnds", "[I", true)
  | 23 => ("FieldPackModel", "tellsHeard", "I", false)
  | 24 => ("FieldPackModel", "got", "I", false)
  | 25 => ("FieldPackModel", "gotFirst", "I", false)
  | 26 => ("FieldPackModel", "gotTable", "I", false)
  | 27 => ("FieldPackModel", "gotTold", "I", false)
  | 28 => ("FieldPackModel", "sections", "I", false)
  | 29 => ("FieldPackModel", "stream", "[I", true)
  | 30 => ("FieldPackModel", "needs", "[I", true)
  | 31 => ("FieldPackModel", "open", "[Z", true)
  | 32 => ("FieldPackModel", "state", "[I", true)
  | 33 => ("FieldPackModel", "many", "[I", true)
  | 34 => ("FieldPackModel", "saysName", "[J", true)
  | 35 => ("FieldPackModel", "saysValue", "[J", true)
  | 36 => ("FieldPackModel", "saysSensitive", "[Z", true)
  | 37 => ("FieldPackModel", "refers", "[I", true)
  | 38 => ("FieldPackModel", "referCount", "[I", true)
  | 39 => ("FieldPackModel", "bytesFrom", "[I", true)
  | 40 => ("FieldPackModel", "bytesCount", "[I", true)
  | 41 => ("FieldPackModel", "bytes", "I", false)
  | 42 => ("FieldPackModel", "all", "[I", true)
  | 43 => ("FieldPackModel", "givenUp", "[Z", true)
  | 44 => ("FieldPackModel", "lines", "I", false)
  | _ => ("FieldPackModel", "line", "[I", true)
def tyX11 : Nat → FieldType := fun k => match k with
  | 0 => .int
  | 1 => .int
  | 2 => .int
  | 3 => .array .long
  | 4 => .array .long
  | 5 => .array .boolean
  | 6 => .int
  | 7 => .array .long
  | 8 => .array .long
  | 9 => .array .int
  | 10 => .int
  | 11 => .int
  | 12 => .int
  | 13 => .int
  | 14 => .array .int
  | 15 => .int
  | 16 => .int
  | 17 => .array .int
  | 18 => .int
  | 19 => .int
  | 20 => .array .int
  | 21 => .array .int
  | 22 => .array .int
  | 23 => .int
  | 24 => .int
  | 25 => .int
  | 26 => .int
  | 27 => .int
  | 28 => .int
  | 29 => .array .int
  | 30 => .array .int
  | 31 => .array .boolean
  | 32 => .array .int
  | 33 => .array .int
  | 34 => .array .long
  | 35 => .array .long
  | 36 => .array .boolean
  | 37 => .array .int
  | 38 => .array .int
  | 39 => .array .int
  | 40 => .array .int
  | 41 => .int
  | 42 => .array .int
  | 43 => .array .boolean
  | 44 => .int
  | _ => .array .int
theorem nmX11 : ∀ a, a < 46 → ∀ b, b < 46 → a ≠ b → (TX11 a).2.1 ≠ (TX11 b).2.1 := by decide +kernel
theorem tyX11_ok : ∀ k, k < 46 → parseFieldDescriptor (TX11 k).2.2.1 = some (tyX11 k) := by decide +kernel
abbrev cX11_init : ByteArray := prog_13_method_1_code
def yX11_init : MethodName := ⟨RX11, "<init>", "(II)V"⟩
abbrev cX11_length : ByteArray := prog_13_method_2_code
def yX11_length : MethodName := ⟨RX11, "length", "(J)I"⟩
abbrev cX11_isWhole : ByteArray := prog_13_method_3_code
def yX11_isWhole : MethodName := ⟨RX11, "isWhole", "(J)Z"⟩
abbrev cX11_sizeOf : ByteArray := prog_13_method_4_code
def yX11_sizeOf : MethodName := ⟨RX11, "sizeOf", "(JJ)I"⟩
abbrev cX11_lay : ByteArray := prog_13_method_5_code
def yX11_lay : MethodName := ⟨RX11, "lay", "(II)V"⟩
abbrev cX11_number : ByteArray := prog_13_method_6_code
def yX11_number : MethodName := ⟨RX11, "number", "(IIII)V"⟩
abbrev cX11_text : ByteArray := prog_13_method_7_code
def yX11_text : MethodName := ⟨RX11, "text", "(IIIJ)V"⟩
abbrev cX11_field : ByteArray := prog_13_method_8_code
def yX11_field : MethodName := ⟨RX11, "field", "(JJZ)I"⟩
abbrev cX11_fixedName : ByteArray := prog_13_method_9_code
def yX11_fixedName : MethodName := ⟨RX11, "fixedName", "(J)I"⟩
abbrev cX11_fixedValue : ByteArray := prog_13_method_10_code
def yX11_fixedValue : MethodName := ⟨RX11, "fixedValue", "(I)J"⟩
abbrev cX11_last : ByteArray := prog_13_method_11_code
def yX11_last : MethodName := ⟨RX11, "last", "(JJZ)I"⟩
abbrev cX11_isAtRisk : ByteArray := prog_13_method_12_code
def yX11_isAtRisk : MethodName := ⟨RX11, "isAtRisk", "(I)Z"⟩
abbrev cX11_atRisk : ByteArray := prog_13_method_13_code
def yX11_atRisk : MethodName := ⟨RX11, "atRisk", "()I"⟩
abbrev cX11_isBusy : ByteArray := prog_13_method_14_code
def yX11_isBusy : MethodName := ⟨RX11, "isBusy", "(I)Z"⟩
abbrev cX11_mayInsert : ByteArray := prog_13_method_15_code
def yX11_mayInsert : MethodName := ⟨RX11, "mayInsert", "(I)Z"⟩
abbrev cX11_insert : ByteArray := prog_13_method_16_code
def yX11_insert : MethodName := ⟨RX11, "insert", "(JJ)V"⟩
abbrev cX11_refer : ByteArray := prog_13_method_17_code
def yX11_refer : MethodName := ⟨RX11, "refer", "(I)V"⟩
abbrev cX11_whole : ByteArray := prog_13_method_18_code
def yX11_whole : MethodName := ⟨RX11, "whole", "(II)V"⟩
abbrev cX11_one : ByteArray := prog_13_method_19_code
def yX11_one : MethodName := ⟨RX11, "one", "(IIZ)V"⟩
abbrev cX11_lying : ByteArray := prog_13_method_20_code
def yX11_lying : MethodName := ⟨RX11, "lying", "(II)I"⟩
abbrev cX11_encode : ByteArray := prog_13_method_21_code
def yX11_encode : MethodName := ⟨RX11, "encode", "(I)I"⟩
abbrev cX11_tell : ByteArray := prog_13_method_22_code
def yX11_tell : MethodName := ⟨RX11, "tell", "(II)V"⟩
abbrev cX11_hear : ByteArray := prog_13_method_23_code
def yX11_hear : MethodName := ⟨RX11, "hear", "(II)V"⟩
abbrev cX11_decode : ByteArray := prog_13_method_24_code
def yX11_decode : MethodName := ⟨RX11, "decode", "(I)V"⟩
abbrev cX11_goOn : ByteArray := prog_13_method_25_code
def yX11_goOn : MethodName := ⟨RX11, "goOn", "(I)V"⟩
abbrev cX11_move : ByteArray := prog_13_method_26_code
def yX11_move : MethodName := ⟨RX11, "move", "(II)I"⟩
abbrev cX11_next : ByteArray := prog_13_method_27_code
def yX11_next : MethodName := ⟨RX11, "next", "(I)I"⟩
abbrev cX11_deliver : ByteArray := prog_13_method_28_code
def yX11_deliver : MethodName := ⟨RX11, "deliver", "(I)I"⟩
abbrev cX11_increment : ByteArray := prog_13_method_29_code
def yX11_increment : MethodName := ⟨RX11, "increment", "()I"⟩
abbrev cX11_cancel : ByteArray := prog_13_method_30_code
def yX11_cancel : MethodName := ⟨RX11, "cancel", "(I)I"⟩
abbrev cX11_waiting : ByteArray := prog_13_method_31_code
def yX11_waiting : MethodName := ⟨RX11, "waiting", "(I)I"⟩
abbrev cX11_look : ByteArray := prog_13_method_32_code
def yX11_look : MethodName := ⟨RX11, "look", "(II)I"⟩
abbrev cX11_told : ByteArray := prog_13_method_33_code
def yX11_told : MethodName := ⟨RX11, "told", "(II)I"⟩
abbrev cX11_opens : ByteArray := prog_13_method_34_code
def yX11_opens : MethodName := ⟨RX11, "opens", "()I"⟩
abbrev cX11_waits : ByteArray := prog_13_method_35_code
def yX11_waits : MethodName := ⟨RX11, "waits", "(Z)I"⟩
abbrev cX11_entry : ByteArray := prog_13_method_36_code
def yX11_entry : MethodName := ⟨RX11, "entry", "(III)J"⟩
abbrev cX11_sections : ByteArray := prog_13_method_37_code
def yX11_sections : MethodName := ⟨RX11, "sections", "(I)I"⟩
abbrev cX11_decoded : ByteArray := prog_13_method_38_code
def yX11_decoded : MethodName := ⟨RX11, "decoded", "(IIII)J"⟩
def RJx145de : String := "java/io/Serializable"
def TJx145de : u_T := fun k => match k with
  | _ => ("", "", "", false)
def tyJx145de : Nat → FieldType := fun k => match k with
  | _ => .int
theorem nmJx145de : ∀ a, a < 0 → ∀ b, b < 0 → a ≠ b → (TJx145de a).2.1 ≠ (TJx145de b).2.1 := by decide +kernel
theorem tyJx145de_ok : ∀ k, k < 0 → parseFieldDescriptor (TJx145de k).2.2.1 = some (tyJx145de k) := by decide +kernel
def RJx8e188 : String := "java/lang/Cloneable"
def TJx8e188 : u_T := fun k => match k with
  | _ => ("", "", "", false)
def tyJx8e188 : Nat → FieldType := fun k => match k with
  | _ => .int
theorem nmJx8e188 : ∀ a, a < 0 → ∀ b, b < 0 → a ≠ b → (TJx8e188 a).2.1 ≠ (TJx8e188 b).2.1 := by decide +kernel
theorem tyJx8e188_ok : ∀ k, k < 0 → parseFieldDescriptor (TJx8e188 k).2.2.1 = some (tyJx8e188 k) := by decide +kernel
def RJxab1ab : String := "java/lang/Iterable"
def TJxab1ab : u_T := fun k => match k with
  | _ => ("", "", "", false)
def tyJxab1ab : Nat → FieldType := fun k => match k with
  | _ => .int
theorem nmJxab1ab : ∀ a, a < 0 → ∀ b, b < 0 → a ≠ b → (TJxab1ab a).2.1 ≠ (TJxab1ab b).2.1 := by decide +kernel
theorem tyJxab1ab_ok : ∀ k, k < 0 → parseFieldDescriptor (TJxab1ab k).2.2.1 = some (tyJxab1ab k) := by decide +kernel
def RJ9 : String := "java/lang/Math"
def TJ9 : u_T := fun k => match k with
  | _ => ("", "", "", false)
def tyJ9 : Nat → FieldType := fun k => match k with
  | _ => .int
theorem nmJ9 : ∀ a, a < 0 → ∀ b, b < 0 → a ≠ b → (TJ9 a).2.1 ≠ (TJ9 b).2.1 := by decide +kernel
theorem tyJ9_ok : ∀ k, k < 0 → parseFieldDescriptor (TJ9 k).2.2.1 = some (tyJ9 k) := by decide +kernel
abbrev cJ9_floorMod_7cf53 : ByteArray := prog_17_method_50_code
def yJ9_floorMod_7cf53 : MethodName := ⟨RJ9, "floorMod", "(II)I"⟩
abbrev cJ9_max_7cf53 : ByteArray := prog_17_method_65_code
def yJ9_max_7cf53 : MethodName := ⟨RJ9, "max", "(II)I"⟩
abbrev cJ9_min_7cf53 : ByteArray := prog_17_method_69_code
def yJ9_min_7cf53 : MethodName := ⟨RJ9, "min", "(II)I"⟩
def RJ10 : String := "java/lang/System"
def TJ10 : u_T := fun k => match k with
  | _ => ("", "", "", false)
def tyJ10 : Nat → FieldType := fun k => match k with
  | _ => .int
theorem nmJ10 : ∀ a, a < 0 → ∀ b, b < 0 → a ≠ b → (TJ10 a).2.1 ≠ (TJ10 b).2.1 := by decide +kernel
theorem tyJ10_ok : ∀ k, k < 0 → parseFieldDescriptor (TJ10 k).2.2.1 = some (tyJ10 k) := by decide +kernel
def RJxa1e45 : String := "java/util/AbstractCollection"
def TJxa1e45 : u_T := fun k => match k with
  | _ => ("", "", "", false)
def tyJxa1e45 : Nat → FieldType := fun k => match k with
  | _ => .int
theorem nmJxa1e45 : ∀ a, a < 0 → ∀ b, b < 0 → a ≠ b → (TJxa1e45 a).2.1 ≠ (TJxa1e45 b).2.1 := by decide +kernel
theorem tyJxa1e45_ok : ∀ k, k < 0 → parseFieldDescriptor (TJxa1e45 k).2.2.1 = some (tyJxa1e45 k) := by decide +kernel
abbrev cJxa1e45_init_da8c8 : ByteArray := prog_19_method_1_code
def yJxa1e45_init_da8c8 : MethodName := ⟨RJxa1e45, "<init>", "()V"⟩
def RJxc12de : String := "java/util/AbstractList"
def TJxc12de : u_T := fun k => match k with
  | _ => ("", "", "", false)
def tyJxc12de : Nat → FieldType := fun k => match k with
  | _ => .int
theorem nmJxc12de : ∀ a, a < 0 → ∀ b, b < 0 → a ≠ b → (TJxc12de a).2.1 ≠ (TJxc12de b).2.1 := by decide +kernel
theorem tyJxc12de_ok : ∀ k, k < 0 → parseFieldDescriptor (TJxc12de k).2.2.1 = some (tyJxc12de k) := by decide +kernel
abbrev cJxc12de_init_da8c8 : ByteArray := prog_20_method_1_code
def yJxc12de_init_da8c8 : MethodName := ⟨RJxc12de, "<init>", "()V"⟩
def RJx4a65c : String := "java/util/ArrayList"
def TJx4a65c : u_T := fun k => match k with
  | 0 => ("java/util/AbstractList", "modCount", "I", false)
  | 1 => ("java/util/ArrayList", "elementData", "[Ljava/lang/Object;", false)
  | _ => ("java/util/ArrayList", "size", "I", false)
def tyJx4a65c : Nat → FieldType := fun k => match k with
  | 0 => .int
  | 1 => .array (.object "java/lang/Object")
  | _ => .int
theorem nmJx4a65c : ∀ a, a < 3 → ∀ b, b < 3 → a ≠ b → (TJx4a65c a).2.1 ≠ (TJx4a65c b).2.1 := by decide +kernel
theorem tyJx4a65c_ok : ∀ k, k < 3 → parseFieldDescriptor (TJx4a65c k).2.2.1 = some (tyJx4a65c k) := by decide +kernel
abbrev cJx4a65c_init_da8c8 : ByteArray := prog_21_method_2_code
def yJx4a65c_init_da8c8 : MethodName := ⟨RJx4a65c, "<init>", "()V"⟩
abbrev cJx4a65c_grow_92f84 : ByteArray := prog_21_method_6_code
def yJx4a65c_grow_92f84 : MethodName := ⟨RJx4a65c, "grow", "(I)[Ljava/lang/Object;"⟩
abbrev cJx4a65c_grow_d5877 : ByteArray := prog_21_method_7_code
def yJx4a65c_grow_d5877 : MethodName := ⟨RJx4a65c, "grow", "()[Ljava/lang/Object;"⟩
abbrev cJx4a65c_size_8abf5 : ByteArray := prog_21_method_8_code
def yJx4a65c_size_8abf5 : MethodName := ⟨RJx4a65c, "size", "()I"⟩
abbrev cJx4a65c_isEmpty_aae02 : ByteArray := prog_21_method_9_code
def yJx4a65c_isEmpty_aae02 : MethodName := ⟨RJx4a65c, "isEmpty", "()Z"⟩
abbrev cJx4a65c_elementData_915e3 : ByteArray := prog_21_method_18_code
def yJx4a65c_elementData_915e3 : MethodName := ⟨RJx4a65c, "elementData", "(I)Ljava/lang/Object;"⟩
abbrev cJx4a65c_get_915e3 : ByteArray := prog_21_method_20_code
def yJx4a65c_get_915e3 : MethodName := ⟨RJx4a65c, "get", "(I)Ljava/lang/Object;"⟩
abbrev cJx4a65c_add_72be8 : ByteArray := prog_21_method_24_code
def yJx4a65c_add_72be8 : MethodName := ⟨RJx4a65c, "add", "(Ljava/lang/Object;[Ljava/lang/Object;I)V"⟩
abbrev cJx4a65c_add_9ea2d : ByteArray := prog_21_method_25_code
def yJx4a65c_add_9ea2d : MethodName := ⟨RJx4a65c, "add", "(Ljava/lang/Object;)Z"⟩
abbrev cJx4a65c_remove_915e3 : ByteArray := prog_21_method_29_code
def yJx4a65c_remove_915e3 : MethodName := ⟨RJx4a65c, "remove", "(I)Ljava/lang/Object;"⟩
abbrev cJx4a65c_fastRemove_b59b0 : ByteArray := prog_21_method_39_code
def yJx4a65c_fastRemove_b59b0 : MethodName := ⟨RJx4a65c, "fastRemove", "([Ljava/lang/Object;I)V"⟩
abbrev cJx4a65c_clear_da8c8 : ByteArray := prog_21_method_40_code
def yJx4a65c_clear_da8c8 : MethodName := ⟨RJx4a65c, "clear", "()V"⟩
def RJ7 : String := "java/util/Arrays"
def TJ7 : u_T := fun k => match k with
  | _ => ("", "", "", false)
def tyJ7 : Nat → FieldType := fun k => match k with
  | _ => .int
theorem nmJ7 : ∀ a, a < 0 → ∀ b, b < 0 → a ≠ b → (TJ7 a).2.1 ≠ (TJ7 b).2.1 := by decide +kernel
theorem tyJ7_ok : ∀ k, k < 0 → parseFieldDescriptor (TJ7 k).2.2.1 = some (tyJ7 k) := by decide +kernel
abbrev cJ7_copyOf_1904c : ByteArray := prog_22_method_119_code
def yJ7_copyOf_1904c : MethodName := ⟨RJ7, "copyOf", "([Ljava/lang/Object;I)[Ljava/lang/Object;"⟩
abbrev cJ7_copyOf_6403c : ByteArray := prog_22_method_120_code
def yJ7_copyOf_6403c : MethodName := ⟨RJ7, "copyOf", "([Ljava/lang/Object;ILjava/lang/Class;)[Ljava/lang/Object;"⟩
abbrev cJ7_copyOf_59c91 : ByteArray := prog_22_method_123_code
def yJ7_copyOf_59c91 : MethodName := ⟨RJ7, "copyOf", "([II)[I"⟩
def RJx5ef63 : String := "java/util/Collection"
def TJx5ef63 : u_T := fun k => match k with
  | _ => ("", "", "", false)
def tyJx5ef63 : Nat → FieldType := fun k => match k with
  | _ => .int
theorem nmJx5ef63 : ∀ a, a < 0 → ∀ b, b < 0 → a ≠ b → (TJx5ef63 a).2.1 ≠ (TJx5ef63 b).2.1 := by decide +kernel
theorem tyJx5ef63_ok : ∀ k, k < 0 → parseFieldDescriptor (TJx5ef63 k).2.2.1 = some (tyJx5ef63 k) := by decide +kernel
def RJxbd725 : String := "java/util/List"
def TJxbd725 : u_T := fun k => match k with
  | _ => ("", "", "", false)
def tyJxbd725 : Nat → FieldType := fun k => match k with
  | _ => .int
theorem nmJxbd725 : ∀ a, a < 0 → ∀ b, b < 0 → a ≠ b → (TJxbd725 a).2.1 ≠ (TJxbd725 b).2.1 := by decide +kernel
theorem tyJxbd725_ok : ∀ k, k < 0 → parseFieldDescriptor (TJxbd725 k).2.2.1 = some (tyJxbd725 k) := by decide +kernel
def RJ15 : String := "java/util/Objects"
def TJ15 : u_T := fun k => match k with
  | _ => ("", "", "", false)
def tyJ15 : Nat → FieldType := fun k => match k with
  | _ => .int
theorem nmJ15 : ∀ a, a < 0 → ∀ b, b < 0 → a ≠ b → (TJ15 a).2.1 ≠ (TJ15 b).2.1 := by decide +kernel
theorem tyJ15_ok : ∀ k, k < 0 → parseFieldDescriptor (TJ15 k).2.2.1 = some (tyJ15 k) := by decide +kernel
abbrev cJ15_checkIndex_7cf53 : ByteArray := prog_25_method_17_code
def yJ15_checkIndex_7cf53 : MethodName := ⟨RJ15, "checkIndex", "(II)I"⟩
def RJxf0a74 : String := "java/util/RandomAccess"
def TJxf0a74 : u_T := fun k => match k with
  | _ => ("", "", "", false)
def tyJxf0a74 : Nat → FieldType := fun k => match k with
  | _ => .int
theorem nmJxf0a74 : ∀ a, a < 0 → ∀ b, b < 0 → a ≠ b → (TJxf0a74 a).2.1 ≠ (TJxf0a74 b).2.1 := by decide +kernel
theorem tyJxf0a74_ok : ∀ k, k < 0 → parseFieldDescriptor (TJxf0a74 k).2.2.1 = some (tyJxf0a74 k) := by decide +kernel
def RJxa66e6 : String := "java/util/SequencedCollection"
def TJxa66e6 : u_T := fun k => match k with
  | _ => ("", "", "", false)
def tyJxa66e6 : Nat → FieldType := fun k => match k with
  | _ => .int
theorem nmJxa66e6 : ∀ a, a < 0 → ∀ b, b < 0 → a ≠ b → (TJxa66e6 a).2.1 ≠ (TJxa66e6 b).2.1 := by decide +kernel
theorem tyJxa66e6_ok : ∀ k, k < 0 → parseFieldDescriptor (TJxa66e6 k).2.2.1 = some (tyJxa66e6 k) := by decide +kernel
def RJ8 : String := "jdk/internal/util/ArraysSupport"
def TJ8 : u_T := fun k => match k with
  | _ => ("", "", "", false)
def tyJ8 : Nat → FieldType := fun k => match k with
  | _ => .int
theorem nmJ8 : ∀ a, a < 0 → ∀ b, b < 0 → a ≠ b → (TJ8 a).2.1 ≠ (TJ8 b).2.1 := by decide +kernel
theorem tyJ8_ok : ∀ k, k < 0 → parseFieldDescriptor (TJ8 k).2.2.1 = some (tyJ8 k) := by decide +kernel
abbrev cJ8_newLength_cabcc : ByteArray := prog_28_method_27_code
def yJ8_newLength_cabcc : MethodName := ⟨RJ8, "newLength", "(III)I"⟩
abbrev cJ8_hugeLength_7cf53 : ByteArray := prog_28_method_28_code
def yJ8_hugeLength_7cf53 : MethodName := ⟨RJ8, "hugeLength", "(II)I"⟩
def RJ3 : String := "jdk/internal/util/Preconditions"
def TJ3 : u_T := fun k => match k with
  | _ => ("", "", "", false)
def tyJ3 : Nat → FieldType := fun k => match k with
  | _ => .int
theorem nmJ3 : ∀ a, a < 0 → ∀ b, b < 0 → a ≠ b → (TJ3 a).2.1 ≠ (TJ3 b).2.1 := by decide +kernel
theorem tyJ3_ok : ∀ k, k < 0 → parseFieldDescriptor (TJ3 k).2.2.1 = some (tyJ3 k) := by decide +kernel
abbrev cJ3_checkIndex_8e157 : ByteArray := prog_29_method_11_code
def yJ3_checkIndex_8e157 : MethodName := ⟨RJ3, "checkIndex", "(IILjava/util/function/BiFunction;)I"⟩
def RL : String := "FieldPackLaw"
abbrev cL_cell : ByteArray := method_2_code
def yL_cell : MethodName := ⟨RL, "cell", "([II)I"⟩
abbrev cL_law : ByteArray := code
def yL_law : MethodName := ⟨RL, "law", "([I)Z"⟩
abbrev vwCl : List vw_C := [(RJx4a65c, TJx4a65c, 3), (RX0, TX0, 2), (RX1, TX1, 2), (RX2, TX2, 9), (RX3, TX3, 3), (RX4, TX4, 5), (RX5, TX5, 3), (RX6, TX6, 4), (RX7, TX7, 3), (RX8, TX8, 7), (RX9, TX9, 2), (RX10, TX10, 7), (RX11, TX11, 46)]
def fp_tw : List Cond := lw_tbl.filter goodWord
theorem fp_good : ∀ w ∈ fp_tw, (w.onTables && w.keeps) = true ∨ ∃ ty, w = .arrayClass ty := fun w hw => good_of_word (List.mem_filter.mp hw).2
def fp_mv (w : Cond) : Bool := match w with
  | .castable _ _ => true
  | .declares _ => true
  | .methodLinkNest _ _ _ _ => true
  | _ => false
def fp_tn : List Cond := lw_tbl.filter fp_mv
abbrev fp_ty : List FieldType := [.int, .long, .boolean, .object "FieldPack$Lane", .object "java/lang/Object"]
theorem tw_i {w : Cond} (i : Nat) (h : lw_tbl[i]? = some w) (hg : goodWord w = true) : w ∈ fp_tw := List.mem_filter.mpr ⟨List.mem_of_getElem? h, hg⟩
theorem tn_i {w : Cond} (i : Nat) (h : lw_tbl[i]? = some w) (hg : fp_mv w = true) : w ∈ fp_tn := List.mem_filter.mpr ⟨List.mem_of_getElem? h, hg⟩
