section
-- ===== PART A: goes FIRST, ahead of the names: the tables' words, and 'selects' of the private methods out of them =====
/-- a private method of a class that the tables say can be made, by its rows of tables_1 -/
def lw_okq (q : MethodName × Nat) : Prop := (q.1.cls ≠ "java/lang/invoke/MethodHandle" ∧ q.1.cls ≠ "java/lang/invoke/VarHandle") ∧ Cond.instantiable q.1.cls q.2 ∈ tables_1 ∧ Cond.privateMethod q.1 ∈ tables_1 ∧ Cond.instanceMethod q.1 ∈ tables_1
theorem lw_p0 : lw_okq (⟨"java/util/ArrayList", "add", "(Ljava/lang/Object;[Ljava/lang/Object;I)V"⟩, 3) := ⟨⟨by decide +kernel, by decide +kernel⟩, List.mem_of_getElem? (i := 138) (by decide +kernel), List.mem_of_getElem? (i := 309) (by decide +kernel), List.mem_of_getElem? (i := 310) (by decide +kernel)⟩
theorem lw_p1 : lw_okq (⟨"java/util/ArrayList", "grow", "()[Ljava/lang/Object;"⟩, 3) := ⟨⟨by decide +kernel, by decide +kernel⟩, List.mem_of_getElem? (i := 138) (by decide +kernel), List.mem_of_getElem? (i := 313) (by decide +kernel), List.mem_of_getElem? (i := 314) (by decide +kernel)⟩
theorem lw_p2 : lw_okq (⟨"java/util/ArrayList", "grow", "(I)[Ljava/lang/Object;"⟩, 3) := ⟨⟨by decide +kernel, by decide +kernel⟩, List.mem_of_getElem? (i := 138) (by decide +kernel), List.mem_of_getElem? (i := 317) (by decide +kernel), List.mem_of_getElem? (i := 318) (by decide +kernel)⟩
theorem lw_p3 : lw_okq (⟨"FieldPack", "laneOf", "(I)LFieldPack$Lane;"⟩, 7) := ⟨⟨by decide +kernel, by decide +kernel⟩, List.mem_of_getElem? (i := 23) (by decide +kernel), List.mem_of_getElem? (i := 365) (by decide +kernel), List.mem_of_getElem? (i := 366) (by decide +kernel)⟩
theorem lw_p4 : lw_okq (⟨"java/util/ArrayList", "fastRemove", "([Ljava/lang/Object;I)V"⟩, 3) := ⟨⟨by decide +kernel, by decide +kernel⟩, List.mem_of_getElem? (i := 138) (by decide +kernel), List.mem_of_getElem? (i := 590) (by decide +kernel), List.mem_of_getElem? (i := 591) (by decide +kernel)⟩
theorem lw_p5 : lw_okq (⟨"FieldPack", "nextSection", "(I)LFieldPack$Bytes;"⟩, 7) := ⟨⟨by decide +kernel, by decide +kernel⟩, List.mem_of_getElem? (i := 23) (by decide +kernel), List.mem_of_getElem? (i := 711) (by decide +kernel), List.mem_of_getElem? (i := 712) (by decide +kernel)⟩
theorem lw_p6 : lw_okq (⟨"FieldPack", "tableOf", "(I)LFieldPack$Table;"⟩, 7) := ⟨⟨by decide +kernel, by decide +kernel⟩, List.mem_of_getElem? (i := 23) (by decide +kernel), List.mem_of_getElem? (i := 730) (by decide +kernel), List.mem_of_getElem? (i := 731) (by decide +kernel)⟩
theorem lw_p7 : lw_okq (⟨"FieldPack", "toldByEncoder", "(I)I"⟩, 7) := ⟨⟨by decide +kernel, by decide +kernel⟩, List.mem_of_getElem? (i := 23) (by decide +kernel), List.mem_of_getElem? (i := 734) (by decide +kernel), List.mem_of_getElem? (i := 735) (by decide +kernel)⟩
theorem lw_p8 : lw_okq (⟨"FieldPack", "toldByDecoder", "(I)I"⟩, 7) := ⟨⟨by decide +kernel, by decide +kernel⟩, List.mem_of_getElem? (i := 23) (by decide +kernel), List.mem_of_getElem? (i := 739) (by decide +kernel), List.mem_of_getElem? (i := 740) (by decide +kernel)⟩
theorem lw_p9 : lw_okq (⟨"FieldPackModel", "lying", "(II)I"⟩, 46) := ⟨⟨by decide +kernel, by decide +kernel⟩, List.mem_of_getElem? (i := 762) (by decide +kernel), List.mem_of_getElem? (i := 924) (by decide +kernel), List.mem_of_getElem? (i := 925) (by decide +kernel)⟩
theorem lw_p10 : lw_okq (⟨"FieldPackModel", "isAtRisk", "(I)Z"⟩, 46) := ⟨⟨by decide +kernel, by decide +kernel⟩, List.mem_of_getElem? (i := 762) (by decide +kernel), List.mem_of_getElem? (i := 928) (by decide +kernel), List.mem_of_getElem? (i := 929) (by decide +kernel)⟩
theorem lw_p11 : lw_okq (⟨"FieldPackModel", "atRisk", "()I"⟩, 46) := ⟨⟨by decide +kernel, by decide +kernel⟩, List.mem_of_getElem? (i := 762) (by decide +kernel), List.mem_of_getElem? (i := 932) (by decide +kernel), List.mem_of_getElem? (i := 933) (by decide +kernel)⟩
theorem lw_p12 : lw_okq (⟨"FieldPackModel", "one", "(IIZ)V"⟩, 46) := ⟨⟨by decide +kernel, by decide +kernel⟩, List.mem_of_getElem? (i := 762) (by decide +kernel), List.mem_of_getElem? (i := 936) (by decide +kernel), List.mem_of_getElem? (i := 937) (by decide +kernel)⟩
theorem lw_p13 : lw_okq (⟨"FieldPackModel", "number", "(IIII)V"⟩, 46) := ⟨⟨by decide +kernel, by decide +kernel⟩, List.mem_of_getElem? (i := 762) (by decide +kernel), List.mem_of_getElem? (i := 949) (by decide +kernel), List.mem_of_getElem? (i := 950) (by decide +kernel)⟩
theorem lw_p14 : lw_okq (⟨"FieldPackModel", "lay", "(II)V"⟩, 46) := ⟨⟨by decide +kernel, by decide +kernel⟩, List.mem_of_getElem? (i := 762) (by decide +kernel), List.mem_of_getElem? (i := 953) (by decide +kernel), List.mem_of_getElem? (i := 954) (by decide +kernel)⟩
theorem lw_p15 : lw_okq (⟨"FieldPackModel", "last", "(JJZ)I"⟩, 46) := ⟨⟨by decide +kernel, by decide +kernel⟩, List.mem_of_getElem? (i := 762) (by decide +kernel), List.mem_of_getElem? (i := 957) (by decide +kernel), List.mem_of_getElem? (i := 958) (by decide +kernel)⟩
def lw_privs_1 : List (MethodName × Nat) := [(⟨"java/util/ArrayList", "add", "(Ljava/lang/Object;[Ljava/lang/Object;I)V"⟩, 3), (⟨"java/util/ArrayList", "grow", "()[Ljava/lang/Object;"⟩, 3), (⟨"java/util/ArrayList", "grow", "(I)[Ljava/lang/Object;"⟩, 3), (⟨"FieldPack", "laneOf", "(I)LFieldPack$Lane;"⟩, 7), (⟨"java/util/ArrayList", "fastRemove", "([Ljava/lang/Object;I)V"⟩, 3), (⟨"FieldPack", "nextSection", "(I)LFieldPack$Bytes;"⟩, 7), (⟨"FieldPack", "tableOf", "(I)LFieldPack$Table;"⟩, 7), (⟨"FieldPack", "toldByEncoder", "(I)I"⟩, 7), (⟨"FieldPack", "toldByDecoder", "(I)I"⟩, 7), (⟨"FieldPackModel", "lying", "(II)I"⟩, 46), (⟨"FieldPackModel", "isAtRisk", "(I)Z"⟩, 46), (⟨"FieldPackModel", "atRisk", "()I"⟩, 46), (⟨"FieldPackModel", "one", "(IIZ)V"⟩, 46), (⟨"FieldPackModel", "number", "(IIII)V"⟩, 46), (⟨"FieldPackModel", "lay", "(II)V"⟩, 46), (⟨"FieldPackModel", "last", "(JJZ)I"⟩, 46)]
theorem lw_r1 : ∀ q ∈ lw_privs_1, lw_okq q := List.forall_mem_cons.mpr ⟨lw_p0, List.forall_mem_cons.mpr ⟨lw_p1, List.forall_mem_cons.mpr ⟨lw_p2, List.forall_mem_cons.mpr ⟨lw_p3, List.forall_mem_cons.mpr ⟨lw_p4, List.forall_mem_cons.mpr ⟨lw_p5, List.forall_mem_cons.mpr ⟨lw_p6, List.forall_mem_cons.mpr ⟨lw_p7, List.forall_mem_cons.mpr ⟨lw_p8, List.forall_mem_cons.mpr ⟨lw_p9, List.forall_mem_cons.mpr ⟨lw_p10, List.forall_mem_cons.mpr ⟨lw_p11, List.forall_mem_cons.mpr ⟨lw_p12, List.forall_mem_cons.mpr ⟨lw_p13, List.forall_mem_cons.mpr ⟨lw_p14, List.forall_mem_cons.mpr ⟨lw_p15, fun _ h => absurd h List.not_mem_nil⟩⟩⟩⟩⟩⟩⟩⟩⟩⟩⟩⟩⟩⟩⟩⟩
theorem lw_p16 : lw_okq (⟨"FieldPackModel", "whole", "(II)V"⟩, 46) := ⟨⟨by decide +kernel, by decide +kernel⟩, List.mem_of_getElem? (i := 762) (by decide +kernel), List.mem_of_getElem? (i := 961) (by decide +kernel), List.mem_of_getElem? (i := 962) (by decide +kernel)⟩
theorem lw_p17 : lw_okq (⟨"FieldPackModel", "refer", "(I)V"⟩, 46) := ⟨⟨by decide +kernel, by decide +kernel⟩, List.mem_of_getElem? (i := 762) (by decide +kernel), List.mem_of_getElem? (i := 965) (by decide +kernel), List.mem_of_getElem? (i := 966) (by decide +kernel)⟩
theorem lw_p18 : lw_okq (⟨"FieldPackModel", "mayInsert", "(I)Z"⟩, 46) := ⟨⟨by decide +kernel, by decide +kernel⟩, List.mem_of_getElem? (i := 762) (by decide +kernel), List.mem_of_getElem? (i := 972) (by decide +kernel), List.mem_of_getElem? (i := 973) (by decide +kernel)⟩
theorem lw_p19 : lw_okq (⟨"FieldPackModel", "isBusy", "(I)Z"⟩, 46) := ⟨⟨by decide +kernel, by decide +kernel⟩, List.mem_of_getElem? (i := 762) (by decide +kernel), List.mem_of_getElem? (i := 976) (by decide +kernel), List.mem_of_getElem? (i := 977) (by decide +kernel)⟩
theorem lw_p20 : lw_okq (⟨"FieldPackModel", "insert", "(JJ)V"⟩, 46) := ⟨⟨by decide +kernel, by decide +kernel⟩, List.mem_of_getElem? (i := 762) (by decide +kernel), List.mem_of_getElem? (i := 980) (by decide +kernel), List.mem_of_getElem? (i := 981) (by decide +kernel)⟩
theorem lw_p21 : lw_okq (⟨"FieldPackModel", "text", "(IIIJ)V"⟩, 46) := ⟨⟨by decide +kernel, by decide +kernel⟩, List.mem_of_getElem? (i := 762) (by decide +kernel), List.mem_of_getElem? (i := 984) (by decide +kernel), List.mem_of_getElem? (i := 985) (by decide +kernel)⟩
theorem lw_p22 : lw_okq (⟨"FieldPackModel", "hear", "(II)V"⟩, 46) := ⟨⟨by decide +kernel, by decide +kernel⟩, List.mem_of_getElem? (i := 762) (by decide +kernel), List.mem_of_getElem? (i := 992) (by decide +kernel), List.mem_of_getElem? (i := 993) (by decide +kernel)⟩
theorem lw_p23 : lw_okq (⟨"FieldPackModel", "goOn", "(I)V"⟩, 46) := ⟨⟨by decide +kernel, by decide +kernel⟩, List.mem_of_getElem? (i := 762) (by decide +kernel), List.mem_of_getElem? (i := 996) (by decide +kernel), List.mem_of_getElem? (i := 997) (by decide +kernel)⟩
theorem lw_p24 : lw_okq (⟨"FieldPackModel", "decode", "(I)V"⟩, 46) := ⟨⟨by decide +kernel, by decide +kernel⟩, List.mem_of_getElem? (i := 762) (by decide +kernel), List.mem_of_getElem? (i := 1000) (by decide +kernel), List.mem_of_getElem? (i := 1001) (by decide +kernel)⟩
theorem lw_p25 : lw_okq (⟨"FieldPackModel", "tell", "(II)V"⟩, 46) := ⟨⟨by decide +kernel, by decide +kernel⟩, List.mem_of_getElem? (i := 762) (by decide +kernel), List.mem_of_getElem? (i := 1004) (by decide +kernel), List.mem_of_getElem? (i := 1005) (by decide +kernel)⟩
theorem lw_p26 : lw_okq (⟨"FieldPackModel", "next", "(I)I"⟩, 46) := ⟨⟨by decide +kernel, by decide +kernel⟩, List.mem_of_getElem? (i := 762) (by decide +kernel), List.mem_of_getElem? (i := 1012) (by decide +kernel), List.mem_of_getElem? (i := 1013) (by decide +kernel)⟩
theorem lw_p27 : lw_okq (⟨"FieldPackModel", "opens", "()I"⟩, 46) := ⟨⟨by decide +kernel, by decide +kernel⟩, List.mem_of_getElem? (i := 762) (by decide +kernel), List.mem_of_getElem? (i := 1037) (by decide +kernel), List.mem_of_getElem? (i := 1038) (by decide +kernel)⟩
theorem lw_p28 : lw_okq (⟨"FieldPackModel", "waits", "(Z)I"⟩, 46) := ⟨⟨by decide +kernel, by decide +kernel⟩, List.mem_of_getElem? (i := 762) (by decide +kernel), List.mem_of_getElem? (i := 1041) (by decide +kernel), List.mem_of_getElem? (i := 1042) (by decide +kernel)⟩
def lw_privs_2 : List (MethodName × Nat) := [(⟨"FieldPackModel", "whole", "(II)V"⟩, 46), (⟨"FieldPackModel", "refer", "(I)V"⟩, 46), (⟨"FieldPackModel", "mayInsert", "(I)Z"⟩, 46), (⟨"FieldPackModel", "isBusy", "(I)Z"⟩, 46), (⟨"FieldPackModel", "insert", "(JJ)V"⟩, 46), (⟨"FieldPackModel", "text", "(IIIJ)V"⟩, 46), (⟨"FieldPackModel", "hear", "(II)V"⟩, 46), (⟨"FieldPackModel", "goOn", "(I)V"⟩, 46), (⟨"FieldPackModel", "decode", "(I)V"⟩, 46), (⟨"FieldPackModel", "tell", "(II)V"⟩, 46), (⟨"FieldPackModel", "next", "(I)I"⟩, 46), (⟨"FieldPackModel", "opens", "()I"⟩, 46), (⟨"FieldPackModel", "waits", "(Z)I"⟩, 46)]
theorem lw_r2 : ∀ q ∈ lw_privs_2, lw_okq q := List.forall_mem_cons.mpr ⟨lw_p16, List.forall_mem_cons.mpr ⟨lw_p17, List.forall_mem_cons.mpr ⟨lw_p18, List.forall_mem_cons.mpr ⟨lw_p19, List.forall_mem_cons.mpr ⟨lw_p20, List.forall_mem_cons.mpr ⟨lw_p21, List.forall_mem_cons.mpr ⟨lw_p22, List.forall_mem_cons.mpr ⟨lw_p23, List.forall_mem_cons.mpr ⟨lw_p24, List.forall_mem_cons.mpr ⟨lw_p25, List.forall_mem_cons.mpr ⟨lw_p26, List.forall_mem_cons.mpr ⟨lw_p27, List.forall_mem_cons.mpr ⟨lw_p28, fun _ h => absurd h List.not_mem_nil⟩⟩⟩⟩⟩⟩⟩⟩⟩⟩⟩⟩⟩
def lw_privs : List (MethodName × Nat) := lw_privs_1 ++ (lw_privs_2)
def lw_tbl : List Cond := k2_sels lw_privs ++ tables_1
theorem lw_privs_ok : ∀ q ∈ lw_privs, lw_okq q := by
  show ∀ q ∈ lw_privs_1 ++ (lw_privs_2), lw_okq q
  exact List.forall_mem_append.mpr ⟨lw_r1, lw_r2⟩
end
section
def RX0 : String := "FieldPack$Bytes"
def TX0 : u_T := fun k => match k with
  | 0 => ("FieldPack$Bytes", "row", "[I", false)
  | _ => ("FieldPack$Bytes", "size", "I", false)
def tyX0 : Nat → FieldType := fun k => match k with
  | 0 => .array .int
  | _ => .int
theorem nmX0 : ∀ a, a < 2 → ∀ b, b < 2 → a ≠ b → (TX0 a).2.1 ≠ (TX0 b).2.1 := by decide +kernel
theorem tyX0_ok : ∀ k, k < 2 → parseFieldDescriptor (TX0 k).2.2.1 = some (tyX0 k) := by decide +kernel
abbrev cX0_init : ByteArray := prog_2_method_1_code
def yX0_init : MethodName := ⟨RX0, "<init>", "(I)V"⟩
abbrev cX0_at : ByteArray := prog_2_method_2_code
def yX0_at : MethodName := ⟨RX0, "at", "(I)I"⟩
abbrev cX0_put : ByteArray := prog_2_method_3_code
def yX0_put : MethodName := ⟨RX0, "put", "(I)V"⟩
abbrev cX0_putNumber : ByteArray := prog_2_method_4_code
def yX0_putNumber : MethodName := ⟨RX0, "putNumber", "(III)V"⟩
abbrev cX0_putText : ByteArray := prog_2_method_5_code
def yX0_putText : MethodName := ⟨RX0, "putText", "(IIJ)V"⟩
abbrev cX0_putAll : ByteArray := prog_2_method_6_code
def yX0_putAll : MethodName := ⟨RX0, "putAll", "(LFieldPack$Bytes;)V"⟩
def RX1 : String := "FieldPack$Decoder"
def TX1 : u_T := fun k => match k with
  | 0 => ("FieldPack$Decoder", "table", "LFieldPack$Table;", true)
  | _ => ("FieldPack$Decoder", "toldCome", "I", false)
def tyX1 : Nat → FieldType := fun k => match k with
  | 0 => .object "FieldPack$Table"
  | _ => .int
theorem nmX1 : ∀ a, a < 2 → ∀ b, b < 2 → a ≠ b → (TX1 a).2.1 ≠ (TX1 b).2.1 := by decide +kernel
theorem tyX1_ok : ∀ k, k < 2 → parseFieldDescriptor (TX1 k).2.2.1 = some (tyX1 k) := by decide +kernel
abbrev cX1_init : ByteArray := prog_3_method_1_code
def yX1_init : MethodName := ⟨RX1, "<init>", "(I)V"⟩
abbrev cX1_obey : ByteArray := prog_3_method_2_code
def yX1_obey : MethodName := ⟨RX1, "obey", "(LFieldPack$Reader;)V"⟩
abbrev cX1_obeyOne : ByteArray := prog_3_method_3_code
def yX1_obeyOne : MethodName := ⟨RX1, "obeyOne", "(LFieldPack$Reader;)Z"⟩
abbrev cX1_takeName : ByteArray := prog_3_method_4_code
def yX1_takeName : MethodName := ⟨RX1, "takeName", "(LFieldPack$Reader;)J"⟩
abbrev cX1_receive : ByteArray := prog_3_method_5_code
def yX1_receive : MethodName := ⟨RX1, "receive", "(LFieldPack$Bytes;)LFieldPack$Section;"⟩
abbrev cX1_requiredBy : ByteArray := prog_3_method_6_code
def yX1_requiredBy : MethodName := ⟨RX1, "requiredBy", "(I)I"⟩
abbrev cX1_release : ByteArray := prog_3_method_7_code
def yX1_release : MethodName := ⟨RX1, "release", "(LFieldPack$Lane;LFieldPack$Bytes;)V"⟩
abbrev cX1_readLines : ByteArray := prog_3_method_8_code
def yX1_readLines : MethodName := ⟨RX1, "readLines", "(LFieldPack$Section;)V"⟩
abbrev cX1_readLine : ByteArray := prog_3_method_9_code
def yX1_readLine : MethodName := ⟨RX1, "readLine", "(LFieldPack$Reader;I)LFieldPack$Field;"⟩
abbrev cX1_fieldAt : ByteArray := prog_3_method_10_code
def yX1_fieldAt : MethodName := ⟨RX1, "fieldAt", "(I)LFieldPack$Field;"⟩
abbrev cX1_tellCome : ByteArray := prog_3_method_11_code
def yX1_tellCome : MethodName := ⟨RX1, "tellCome", "(LFieldPack$Bytes;)I"⟩
def RX2 : String := "FieldPack$Encoder"
def TX2 : u_T := fun k => match k with
  | 0 => ("FieldPack$Encoder", "table", "LFieldPack$Table;", true)
  | 1 => ("FieldPack$Encoder", "blocked", "I", true)
  | 2 => ("FieldPack$Encoder", "open", "Ljava/util/ArrayList;", true)
  | 3 => ("FieldPack$Encoder", "known", "I", false)
  | 4 => ("FieldPack$Encoder", "lines", "LFieldPack$Bytes;", true)
  | 5 => ("FieldPack$Encoder", "base", "I", false)
  | 6 => ("FieldPack$Encoder", "required", "I", false)
  | 7 => ("FieldPack$Encoder", "least", "I", false)
  | _ => ("FieldPack$Encoder", "mayRisk", "Z", false)
def tyX2 : Nat → FieldType := fun k => match k with
  | 0 => .object "FieldPack$Table"
  | 1 => .int
  | 2 => .object "java/util/ArrayList"
  | 3 => .int
  | 4 => .object "FieldPack$Bytes"
  | 5 => .int
  | 6 => .int
  | 7 => .int
  | _ => .boolean
theorem nmX2 : ∀ a, a < 9 → ∀ b, b < 9 → a ≠ b → (TX2 a).2.1 ≠ (TX2 b).2.1 := by decide +kernel
theorem tyX2_ok : ∀ k, k < 9 → parseFieldDescriptor (TX2 k).2.2.1 = some (tyX2 k) := by decide +kernel
abbrev cX2_init : ByteArray := prog_4_method_1_code
def yX2_init : MethodName := ⟨RX2, "<init>", "(II)V"⟩
abbrev cX2_makeSection : ByteArray := prog_4_method_2_code
def yX2_makeSection : MethodName := ⟨RX2, "makeSection", "(ILjava/util/ArrayList;LFieldPack$Bytes;)LFieldPack$Bytes;"⟩
abbrev cX2_putFront : ByteArray := prog_4_method_3_code
def yX2_putFront : MethodName := ⟨RX2, "putFront", "(LFieldPack$Bytes;)V"⟩
abbrev cX2_putField : ByteArray := prog_4_method_4_code
def yX2_putField : MethodName := ⟨RX2, "putField", "(LFieldPack$Field;LFieldPack$Bytes;)V"⟩
abbrev cX2_putEntry : ByteArray := prog_4_method_5_code
def yX2_putEntry : MethodName := ⟨RX2, "putEntry", "(I)V"⟩
abbrev cX2_putLiteral : ByteArray := prog_4_method_6_code
def yX2_putLiteral : MethodName := ⟨RX2, "putLiteral", "(LFieldPack$Field;I)V"⟩
abbrev cX2_putNameOf : ByteArray := prog_4_method_7_code
def yX2_putNameOf : MethodName := ⟨RX2, "putNameOf", "(II)V"⟩
abbrev cX2_noteReference : ByteArray := prog_4_method_8_code
def yX2_noteReference : MethodName := ⟨RX2, "noteReference", "(I)V"⟩
abbrev cX2_mayReferTo : ByteArray := prog_4_method_9_code
def yX2_mayReferTo : MethodName := ⟨RX2, "mayReferTo", "(I)Z"⟩
abbrev cX2_canInsert : ByteArray := prog_4_method_10_code
def yX2_canInsert : MethodName := ⟨RX2, "canInsert", "(LFieldPack$Field;)Z"⟩
abbrev cX2_firstBusy : ByteArray := prog_4_method_11_code
def yX2_firstBusy : MethodName := ⟨RX2, "firstBusy", "()I"⟩
abbrev cX2_insert : ByteArray := prog_4_method_12_code
def yX2_insert : MethodName := ⟨RX2, "insert", "(LFieldPack$Field;ILFieldPack$Bytes;)V"⟩
abbrev cX2_isAtRisk : ByteArray := prog_4_method_13_code
def yX2_isAtRisk : MethodName := ⟨RX2, "isAtRisk", "(I)Z"⟩
abbrev cX2_streamsAtRisk : ByteArray := prog_4_method_14_code
def yX2_streamsAtRisk : MethodName := ⟨RX2, "streamsAtRisk", "()I"⟩
abbrev cX2_hear : ByteArray := prog_4_method_15_code
def yX2_hear : MethodName := ⟨RX2, "hear", "(LFieldPack$Reader;)V"⟩
abbrev cX2_hearOne : ByteArray := prog_4_method_16_code
def yX2_hearOne : MethodName := ⟨RX2, "hearOne", "(LFieldPack$Reader;)Z"⟩
abbrev cX2_closeOldest : ByteArray := prog_4_method_17_code
def yX2_closeOldest : MethodName := ⟨RX2, "closeOldest", "(I)V"⟩
abbrev cX2_closeAll : ByteArray := prog_4_method_18_code
def yX2_closeAll : MethodName := ⟨RX2, "closeAll", "(I)V"⟩
def RX3 : String := "FieldPack$Field"
def TX3 : u_T := fun k => match k with
  | 0 => ("FieldPack$Field", "name", "J", true)
  | 1 => ("FieldPack$Field", "value", "J", true)
  | _ => ("FieldPack$Field", "sensitive", "Z", true)
def tyX3 : Nat → FieldType := fun k => match k with
  | 0 => .long
  | 1 => .long
  | _ => .boolean
theorem nmX3 : ∀ a, a < 3 → ∀ b, b < 3 → a ≠ b → (TX3 a).2.1 ≠ (TX3 b).2.1 := by decide +kernel
theorem tyX3_ok : ∀ k, k < 3 → parseFieldDescriptor (TX3 k).2.2.1 = some (tyX3 k) := by decide +kernel
abbrev cX3_init : ByteArray := prog_5_method_1_code
def yX3_init : MethodName := ⟨RX3, "<init>", "(JJZ)V"⟩
def RX4 : String := "FieldPack$Lane"
def TX4 : u_T := fun k => match k with
  | 0 => ("FieldPack$Lane", "stream", "I", true)
  | 1 => ("FieldPack$Lane", "onWire", "Ljava/util/ArrayList;", true)
  | 2 => ("FieldPack$Lane", "waiting", "Ljava/util/ArrayList;", true)
  | 3 => ("FieldPack$Lane", "read", "Ljava/util/ArrayList;", true)
  | _ => ("FieldPack$Lane", "givenUp", "Z", false)
def tyX4 : Nat → FieldType := fun k => match k with
  | 0 => .int
  | 1 => .object "java/util/ArrayList"
  | 2 => .object "java/util/ArrayList"
  | 3 => .object "java/util/ArrayList"
  | _ => .boolean
theorem nmX4 : ∀ a, a < 5 → ∀ b, b < 5 → a ≠ b → (TX4 a).2.1 ≠ (TX4 b).2.1 := by decide +kernel
theorem tyX4_ok : ∀ k, k < 5 → parseFieldDescriptor (TX4 k).2.2.1 = some (tyX4 k) := by decide +kernel
abbrev cX4_init : ByteArray := prog_6_method_1_code
def yX4_init : MethodName := ⟨RX4, "<init>", "(I)V"⟩
def RX5 : String := "FieldPack$Open"
def TX5 : u_T := fun k => match k with
  | 0 => ("FieldPack$Open", "stream", "I", true)
  | 1 => ("FieldPack$Open", "required", "I", true)
  | _ => ("FieldPack$Open", "least", "I", true)
def tyX5 : Nat → FieldType := fun k => match k with
  | 0 => .int
  | 1 => .int
  | _ => .int
theorem nmX5 : ∀ a, a < 3 → ∀ b, b < 3 → a ≠ b → (TX5 a).2.1 ≠ (TX5 b).2.1 := by decide +kernel
theorem tyX5_ok : ∀ k, k < 3 → parseFieldDescriptor (TX5 k).2.2.1 = some (tyX5 k) := by decide +kernel
abbrev cX5_init : ByteArray := prog_7_method_1_code
def yX5_init : MethodName := ⟨RX5, "<init>", "(III)V"⟩
def RX6 : String := "FieldPack$Reader"
def TX6 : u_T := fun k => match k with
  | 0 => ("FieldPack$Reader", "bytes", "LFieldPack$Bytes;", true)
  | 1 => ("FieldPack$Reader", "at", "I", false)
  | 2 => ("FieldPack$Reader", "end", "I", false)
  | _ => ("FieldPack$Reader", "cut", "Z", false)
def tyX6 : Nat → FieldType := fun k => match k with
  | 0 => .object "FieldPack$Bytes"
  | 1 => .int
  | 2 => .int
  | _ => .boolean
theorem nmX6 : ∀ a, a < 4 → ∀ b, b < 4 → a ≠ b → (TX6 a).2.1 ≠ (TX6 b).2.1 := by decide +kernel
theorem tyX6_ok : ∀ k, k < 4 → parseFieldDescriptor (TX6 k).2.2.1 = some (tyX6 k) := by decide +kernel
abbrev cX6_init : ByteArray := prog_8_method_1_code
def yX6_init : MethodName := ⟨RX6, "<init>", "(LFieldPack$Bytes;I)V"⟩
abbrev cX6_left : ByteArray := prog_8_method_2_code
def yX6_left : MethodName := ⟨RX6, "left", "()I"⟩
abbrev cX6_front : ByteArray := prog_8_method_3_code
def yX6_front : MethodName := ⟨RX6, "front", "()I"⟩
abbrev cX6_take : ByteArray := prog_8_method_4_code
def yX6_take : MethodName := ⟨RX6, "take", "()I"⟩
abbrev cX6_takeNumber : ByteArray := prog_8_method_5_code
def yX6_takeNumber : MethodName := ⟨RX6, "takeNumber", "(I)I"⟩
abbrev cX6_takeText : ByteArray := prog_8_method_6_code
def yX6_takeText : MethodName := ⟨RX6, "takeText", "(I)J"⟩
abbrev cX6_rewind : ByteArray := prog_8_method_7_code
def yX6_rewind : MethodName := ⟨RX6, "rewind", "(I)V"⟩
def RX7 : String := "FieldPack$Section"
def TX7 : u_T := fun k => match k with
  | 0 => ("FieldPack$Section", "reader", "LFieldPack$Reader;", true)
  | 1 => ("FieldPack$Section", "required", "I", true)
  | _ => ("FieldPack$Section", "fields", "Ljava/util/ArrayList;", true)
def tyX7 : Nat → FieldType := fun k => match k with
  | 0 => .object "FieldPack$Reader"
  | 1 => .int
  | _ => .object "java/util/ArrayList"
theorem nmX7 : ∀ a, a < 3 → ∀ b, b < 3 → a ≠ b → (TX7 a).2.1 ≠ (TX7 b).2.1 := by decide +kernel
theorem tyX7_ok : ∀ k, k < 3 → parseFieldDescriptor (TX7 k).2.2.1 = some (tyX7 k) := by decide +kernel
abbrev cX7_init : ByteArray := prog_9_method_1_code
def yX7_init : MethodName := ⟨RX7, "<init>", "(LFieldPack$Reader;I)V"⟩
def RX8 : String := "FieldPack$Table"
def TX8 : u_T := fun k => match k with
  | 0 => ("FieldPack$Table", "capacity", "I", true)
  | 1 => ("FieldPack$Table", "names", "[J", true)
  | 2 => ("FieldPack$Table", "values", "[J", true)
  | 3 => ("FieldPack$Table", "sizes", "[I", true)
  | 4 => ("FieldPack$Table", "first", "I", false)
  | 5 => ("FieldPack$Table", "count", "I", false)
  | _ => ("FieldPack$Table", "size", "I", false)
def tyX8 : Nat → FieldType := fun k => match k with
  | 0 => .int
  | 1 => .array .long
  | 2 => .array .long
  | 3 => .array .int
  | 4 => .int
  | 5 => .int
  | _ => .int
theorem nmX8 : ∀ a, a < 7 → ∀ b, b < 7 → a ≠ b → (TX8 a).2.1 ≠ (TX8 b).2.1 := by decide +kernel
theorem tyX8_ok : ∀ k, k < 7 → parseFieldDescriptor (TX8 k).2.2.1 = some (tyX8 k) := by decide +kernel
abbrev cX8_init : ByteArray := prog_10_method_1_code
def yX8_init : MethodName := ⟨RX8, "<init>", "(I)V"⟩
abbrev cX8_has : ByteArray := prog_10_method_2_code
def yX8_has : MethodName := ⟨RX8, "has", "(I)Z"⟩
abbrev cX8_nameAt : ByteArray := prog_10_method_3_code
def yX8_nameAt : MethodName := ⟨RX8, "nameAt", "(I)J"⟩
abbrev cX8_valueAt : ByteArray := prog_10_method_4_code
def yX8_valueAt : MethodName := ⟨RX8, "valueAt", "(I)J"⟩
abbrev cX8_lastNamed : ByteArray := prog_10_method_5_code
def yX8_lastNamed : MethodName := ⟨RX8, "lastNamed", "(J)I"⟩
abbrev cX8_lastOf : ByteArray := prog_10_method_6_code
def yX8_lastOf : MethodName := ⟨RX8, "lastOf", "(JJ)I"⟩
abbrev cX8_firstBeside : ByteArray := prog_10_method_7_code
def yX8_firstBeside : MethodName := ⟨RX8, "firstBeside", "(I)I"⟩
abbrev cX8_insert : ByteArray := prog_10_method_8_code
def yX8_insert : MethodName := ⟨RX8, "insert", "(JJ)V"⟩
def RX9 : String := "FieldPack$Wire"
def TX9 : u_T := fun k => match k with
  | 0 => ("FieldPack$Wire", "bytes", "LFieldPack$Bytes;", true)
  | _ => ("FieldPack$Wire", "reader", "LFieldPack$Reader;", true)
def tyX9 : Nat → FieldType := fun k => match k with
  | 0 => .object "FieldPack$Bytes"
  | _ => .object "FieldPack$Reader"
theorem nmX9 : ∀ a, a < 2 → ∀ b, b < 2 → a ≠ b → (TX9 a).2.1 ≠ (TX9 b).2.1 := by decide +kernel
theorem tyX9_ok : ∀ k, k < 2 → parseFieldDescriptor (TX9 k).2.2.1 = some (tyX9 k) := by decide +kernel
abbrev cX9_init : ByteArray := prog_11_method_1_code
def yX9_init : MethodName := ⟨RX9, "<init>", "()V"⟩
abbrev cX9_left : ByteArray := prog_11_method_2_code
def yX9_left : MethodName := ⟨RX9, "left", "()I"⟩
abbrev cX9_at : ByteArray := prog_11_method_3_code
def yX9_at : MethodName := ⟨RX9, "at", "(I)I"⟩
abbrev cX9_bring : ByteArray := prog_11_method_4_code
def yX9_bring : MethodName := ⟨RX9, "bring", "(I)I"⟩
def RX10 : String := "FieldPack"
def TX10 : u_T := fun k => match k with
  | 0 => ("FieldPack", "instructions", "LFieldPack$Wire;", true)
  | 1 => ("FieldPack", "back", "LFieldPack$Wire;", true)
  | 2 => ("FieldPack", "encoder", "LFieldPack$Encoder;", true)
  | 3 => ("FieldPack", "decoder", "LFieldPack$Decoder;", true)
  | 4 => ("FieldPack", "lanes", "[LFieldPack$Lane;", true)
  | 5 => ("FieldPack", "next", "Ljava/util/ArrayList;", true)
  | _ => ("FieldPack", "made", "I", false)
def tyX10 : Nat → FieldType := fun k => match k with
  | 0 => .object "FieldPack$Wire"
  | 1 => .object "FieldPack$Wire"
  | 2 => .object "FieldPack$Encoder"
  | 3 => .object "FieldPack$Decoder"
  | 4 => .array (.object "FieldPack$Lane")
  | 5 => .object "java/util/ArrayList"
  | _ => .int
theorem nmX10 : ∀ a, a < 7 → ∀ b, b < 7 → a ≠ b → (TX10 a).2.1 ≠ (TX10 b).2.1 := by decide +kernel
theorem tyX10_ok : ∀ k, k < 7 → parseFieldDescriptor (TX10 k).2.2.1 = some (tyX10 k) := by decide +kernel
abbrev cX10_init : ByteArray := prog_1_method_1_code
def yX10_init : MethodName := ⟨RX10, "<init>", "(II)V"⟩
abbrev cX10_field : ByteArray := prog_1_method_2_code
def yX10_field : MethodName := ⟨RX10, "field", "(JJZ)I"⟩
abbrev cX10_encode : ByteArray := prog_1_method_3_code
def yX10_encode : MethodName := ⟨RX10, "encode", "(I)I"⟩
abbrev cX10_move : ByteArray := prog_1_method_4_code
def yX10_move : MethodName := ⟨RX10, "move", "(II)I"⟩
abbrev cX10_deliver : ByteArray := prog_1_method_5_code
def yX10_deliver : MethodName := ⟨RX10, "deliver", "(I)I"⟩
abbrev cX10_increment : ByteArray := prog_1_method_6_code
def yX10_increment : MethodName := ⟨RX10, "increment", "()I"⟩
abbrev cX10_cancel : ByteArray := prog_1_method_7_code
def yX10_cancel : MethodName := ⟨RX10, "cancel", "(I)I"⟩
abbrev cX10_waiting : ByteArray := prog_1_method_8_code
def yX10_waiting : MethodName := ⟨RX10, "waiting", "(I)I"⟩
abbrev cX10_look : ByteArray := prog_1_method_9_code
def yX10_look : MethodName := ⟨RX10, "look", "(II)I"⟩
abbrev cX10_told : ByteArray := prog_1_method_10_code
def yX10_told : MethodName := ⟨RX10, "told", "(II)I"⟩
abbrev cX10_entry : ByteArray := prog_1_method_11_code
def yX10_entry : MethodName := ⟨RX10, "entry", "(III)J"⟩
abbrev cX10_sections : ByteArray := prog_1_method_12_code
def yX10_sections : MethodName := ⟨RX10, "sections", "(I)I"⟩
abbrev cX10_decoded : ByteArray := prog_1_method_13_code
def yX10_decoded : MethodName := ⟨RX10, "decoded", "(IIII)J"⟩
abbrev cX10_laneOf : ByteArray := prog_1_method_14_code
def yX10_laneOf : MethodName := ⟨RX10, "laneOf", "(I)LFieldPack$Lane;"⟩
abbrev cX10_nextSection : ByteArray := prog_1_method_15_code
def yX10_nextSection : MethodName := ⟨RX10, "nextSection", "(I)LFieldPack$Bytes;"⟩
abbrev cX10_tableOf : ByteArray := prog_1_method_16_code
def yX10_tableOf : MethodName := ⟨RX10, "tableOf", "(I)LFieldPack$Table;"⟩
abbrev cX10_toldByEncoder : ByteArray := prog_1_method_17_code
def yX10_toldByEncoder : MethodName := ⟨RX10, "toldByEncoder", "(I)I"⟩
abbrev cX10_toldByDecoder : ByteArray := prog_1_method_18_code
def yX10_toldByDecoder : MethodName := ⟨RX10, "toldByDecoder", "(I)I"⟩
abbrev cX10_isText : ByteArray := prog_1_method_19_code
def yX10_isText : MethodName := ⟨RX10, "isText", "(J)Z"⟩
abbrev cX10_lengthOf : ByteArray := prog_1_method_20_code
def yX10_lengthOf : MethodName := ⟨RX10, "lengthOf", "(J)I"⟩
abbrev cX10_sizeOf : ByteArray := prog_1_method_21_code
def yX10_sizeOf : MethodName := ⟨RX10, "sizeOf", "(JJ)I"⟩
abbrev cX10_fixedNamed : ByteArray := prog_1_method_22_code
def yX10_fixedNamed : MethodName := ⟨RX10, "fixedNamed", "(J)I"⟩
abbrev cX10_fixedValue : ByteArray := prog_1_method_23_code
def yX10_fixedValue : MethodName := ⟨RX10, "fixedValue", "(I)J"⟩
def RX11 : String := "FieldPackModel"
def TX11 : u_T := fun k => match k with
  | 0 => ("FieldPackModel", "capacity", "I", true)
  | 1 => ("FieldPackModel", "blocked", "I", true)
  | 2 => ("FieldPackModel", "fields", "I", false)
  | 3 => ("FieldPackModel", "fieldName", "[J", true)
  | 4 => ("FieldPackModel", "fieldValue", "[J", true)
  | 5 => ("FieldPackModel", "fieldSensitive", "[Z", true)
  | 6 => ("FieldPackModel", "count", "I", false)
  | 7 => ("FieldPackModel", "name", "[J", true)
  | 8 => ("FieldPackModel", "value", "[J", true)
  | 9 => ("FieldPackModel", "ends", "[I", true)
  | 10 => ("FieldPackModel", "first", "I", false)
  | 11 => ("FieldPackModel", "table", "I", false)
  | 12 => ("FieldPackModel", "known", "I", false)
  | 13 => ("FieldPackModel", "said", "I", false)
  | 14 => ("FieldPackModel", "instruction", "[I", true)
  | 15 => ("FieldPackModel", "came", "I", false)
  | 16 => ("FieldPackModel", "told", "I", false)
  | 17 => ("FieldPackModel", "back", "[I", true)
  | 18 => ("FieldPackModel", "heard", "I", false)
  | 19 => ("FieldPackModel", "tells", "I", false)
  | 20 => ("FieldPackModel", "tellKind", "[I", true)
  | 21 => ("FieldPackModel", "tellNumber", "[I", true)
  | 22 => ("FieldPackModel", "tellEnds", "[I", true)
  | 23 => ("FieldPackModel", "tellsHeard", "I", false)
  | 24 => ("FieldPackModel", "got", "I", false)
  | 25 => ("FieldPackModel", "gotFirst", "I", false)
  | 26 => ("FieldPackModel", "gotTable", "I", false)
  | 27 => ("FieldPackModel", "gotTold", "I", false)
  | 28 => ("FieldPackModel", "sections", "I", false)
  | 29 => ("FieldPackModel", "stream", "[I", true)
  | 30 => ("FieldPackModel", "needs", "[I", true)
  | 31 => ("FieldPackModel", "open", "[Z", true)
  | 32 => ("FieldPackModel", "state", "[I", true)
  | 33 => ("FieldPackModel", "many", "[I", true)
  | 34 => ("FieldPackModel", "saysName", "[J", true)
  | 35 => ("FieldPackModel", "saysValue", "[J", true)
  | 36 => ("FieldPackModel", "saysSensitive", "[Z", true)
  | 37 => ("FieldPackModel", "refers", "[I", true)
  | 38 => ("FieldPackModel", "referCount", "[I", true)
  | 39 => ("FieldPackModel", "bytesFrom", "[I", true)
  | 40 => ("FieldPackModel", "bytesCount", "[I", true)
  | 41 => ("FieldPackModel", "bytes", "I", false)
  | 42 => ("FieldPackModel", "all", "[I", true)
  | 43 => ("FieldPackModel", "givenUp", "[Z", true)
  | 44 => ("FieldPackModel", "lines", "I", false)
  | _ => ("FieldPackModel", "line", "[I", true)
def tyX11 : Nat → FieldType := fun k => match k with
  | 0 => .int
  | 1 => .int
  | 2 => .int
  | 3 => .array .long
  | 4 => .array .long
  | 5 => .array .boolean
  | 6 => .int
  | 7 => .array .long
  | 8 => .array .long
  | 9 => .array .int
  | 10 => .int
  | 11 => .int
  | 12 => .int
  | 13 => .int
  | 14 => .array .int
  | 15 => .int
  | 16 => .int
  | 17 => .array .int
  | 18 => .int
  | 19 => .int
  | 20 => .array .int
  | 21 => .array .int
  | 22 => .array .int
  | 23 => .int
  | 24 => .int
  | 25 => .int
  | 26 => .int
  | 27 => .int
  | 28 => .int
  | 29 => .array .int
  | 30 => .array .int
  | 31 => .array .boolean
  | 32 => .array .int
  | 33 => .array .int
  | 34 => .array .long
  | 35 => .array .long
  | 36 => .array .boolean
  | 37 => .array .int
  | 38 => .array .int
  | 39 => .array .int
  | 40 => .array .int
  | 41 => .int
  | 42 => .array .int
  | 43 => .array .boolean
  | 44 => .int
  | _ => .array .int
theorem nmX11 : ∀ a, a < 46 → ∀ b, b < 46 → a ≠ b → (TX11 a).2.1 ≠ (TX11 b).2.1 := by decide +kernel
theorem tyX11_ok : ∀ k, k < 46 → parseFieldDescriptor (TX11 k).2.2.1 = some (tyX11 k) := by decide +kernel
abbrev cX11_init : ByteArray := prog_13_method_1_code
def yX11_init : MethodName := ⟨RX11, "<init>", "(II)V"⟩
abbrev cX11_length : ByteArray := prog_13_method_2_code
def yX11_length : MethodName := ⟨RX11, "length", "(J)I"⟩
abbrev cX11_isWhole : ByteArray := prog_13_method_3_code
def yX11_isWhole : MethodName := ⟨RX11, "isWhole", "(J)Z"⟩
abbrev cX11_sizeOf : ByteArray := prog_13_method_4_code
def yX11_sizeOf : MethodName := ⟨RX11, "sizeOf", "(JJ)I"⟩
abbrev cX11_lay : ByteArray := prog_13_method_5_code
def yX11_lay : MethodName := ⟨RX11, "lay", "(II)V"⟩
abbrev cX11_number : ByteArray := prog_13_method_6_code
def yX11_number : MethodName := ⟨RX11, "number", "(IIII)V"⟩
abbrev cX11_text : ByteArray := prog_13_method_7_code
def yX11_text : MethodName := ⟨RX11, "text", "(IIIJ)V"⟩
abbrev cX11_field : ByteArray := prog_13_method_8_code
def yX11_field : MethodName := ⟨RX11, "field", "(JJZ)I"⟩
abbrev cX11_fixedName : ByteArray := prog_13_method_9_code
def yX11_fixedName : MethodName := ⟨RX11, "fixedName", "(J)I"⟩
abbrev cX11_fixedValue : ByteArray := prog_13_method_10_code
def yX11_fixedValue : MethodName := ⟨RX11, "fixedValue", "(I)J"⟩
abbrev cX11_last : ByteArray := prog_13_method_11_code
def yX11_last : MethodName := ⟨RX11, "last", "(JJZ)I"⟩
abbrev cX11_isAtRisk : ByteArray := prog_13_method_12_code
def yX11_isAtRisk : MethodName := ⟨RX11, "isAtRisk", "(I)Z"⟩
abbrev cX11_atRisk : ByteArray := prog_13_method_13_code
def yX11_atRisk : MethodName := ⟨RX11, "atRisk", "()I"⟩
abbrev cX11_isBusy : ByteArray := prog_13_method_14_code
def yX11_isBusy : MethodName := ⟨RX11, "isBusy", "(I)Z"⟩
abbrev cX11_mayInsert : ByteArray := prog_13_method_15_code
def yX11_mayInsert : MethodName := ⟨RX11, "mayInsert", "(I)Z"⟩
abbrev cX11_insert : ByteArray := prog_13_method_16_code
def yX11_insert : MethodName := ⟨RX11, "insert", "(JJ)V"⟩
abbrev cX11_refer : ByteArray := prog_13_method_17_code
def yX11_refer : MethodName := ⟨RX11, "refer", "(I)V"⟩
abbrev cX11_whole : ByteArray := prog_13_method_18_code
def yX11_whole : MethodName := ⟨RX11, "whole", "(II)V"⟩
abbrev cX11_one : ByteArray := prog_13_method_19_code
def yX11_one : MethodName := ⟨RX11, "one", "(IIZ)V"⟩
abbrev cX11_lying : ByteArray := prog_13_method_20_code
def yX11_lying : MethodName := ⟨RX11, "lying", "(II)I"⟩
abbrev cX11_encode : ByteArray := prog_13_method_21_code
def yX11_encode : MethodName := ⟨RX11, "encode", "(I)I"⟩
abbrev cX11_tell : ByteArray := prog_13_method_22_code
def yX11_tell : MethodName := ⟨RX11, "tell", "(II)V"⟩
abbrev cX11_hear : ByteArray := prog_13_method_23_code
def yX11_hear : MethodName := ⟨RX11, "hear", "(II)V"⟩
abbrev cX11_decode : ByteArray := prog_13_method_24_code
def yX11_decode : MethodName := ⟨RX11, "decode", "(I)V"⟩
abbrev cX11_goOn : ByteArray := prog_13_method_25_code
def yX11_goOn : MethodName := ⟨RX11, "goOn", "(I)V"⟩
abbrev cX11_move : ByteArray := prog_13_method_26_code
def yX11_move : MethodName := ⟨RX11, "move", "(II)I"⟩
abbrev cX11_next : ByteArray := prog_13_method_27_code
def yX11_next : MethodName := ⟨RX11, "next", "(I)I"⟩
abbrev cX11_deliver : ByteArray := prog_13_method_28_code
def yX11_deliver : MethodName := ⟨RX11, "deliver", "(I)I"⟩
abbrev cX11_increment : ByteArray := prog_13_method_29_code
def yX11_increment : MethodName := ⟨RX11, "increment", "()I"⟩
abbrev cX11_cancel : ByteArray := prog_13_method_30_code
def yX11_cancel : MethodName := ⟨RX11, "cancel", "(I)I"⟩
abbrev cX11_waiting : ByteArray := prog_13_method_31_code
def yX11_waiting : MethodName := ⟨RX11, "waiting", "(I)I"⟩
abbrev cX11_look : ByteArray := prog_13_method_32_code
def yX11_look : MethodName := ⟨RX11, "look", "(II)I"⟩
abbrev cX11_told : ByteArray := prog_13_method_33_code
def yX11_told : MethodName := ⟨RX11, "told", "(II)I"⟩
abbrev cX11_opens : ByteArray := prog_13_method_34_code
def yX11_opens : MethodName := ⟨RX11, "opens", "()I"⟩
abbrev cX11_waits : ByteArray := prog_13_method_35_code
def yX11_waits : MethodName := ⟨RX11, "waits", "(Z)I"⟩
abbrev cX11_entry : ByteArray := prog_13_method_36_code
def yX11_entry : MethodName := ⟨RX11, "entry", "(III)J"⟩
abbrev cX11_sections : ByteArray := prog_13_method_37_code
def yX11_sections : MethodName := ⟨RX11, "sections", "(I)I"⟩
abbrev cX11_decoded : ByteArray := prog_13_method_38_code
def yX11_decoded : MethodName := ⟨RX11, "decoded", "(IIII)J"⟩
def RJx145de : String := "java/io/Serializable"
def TJx145de : u_T := fun k => match k with
  | _ => ("", "", "", false)
def tyJx145de : Nat → FieldType := fun k => match k with
  | _ => .int
theorem nmJx145de : ∀ a, a < 0 → ∀ b, b < 0 → a ≠ b → (TJx145de a).2.1 ≠ (TJx145de b).2.1 := by decide +kernel
theorem tyJx145de_ok : ∀ k, k < 0 → parseFieldDescriptor (TJx145de k).2.2.1 = some (tyJx145de k) := by decide +kernel
def RJx8e188 : String := "java/lang/Cloneable"
def TJx8e188 : u_T := fun k => match k with
  | _ => ("", "", "", false)
def tyJx8e188 : Nat → FieldType := fun k => match k with
  | _ => .int
theorem nmJx8e188 : ∀ a, a < 0 → ∀ b, b < 0 → a ≠ b → (TJx8e188 a).2.1 ≠ (TJx8e188 b).2.1 := by decide +kernel
theorem tyJx8e188_ok : ∀ k, k < 0 → parseFieldDescriptor (TJx8e188 k).2.2.1 = some (tyJx8e188 k) := by decide +kernel
def RJxab1ab : String := "java/lang/Iterable"
def TJxab1ab : u_T := fun k => match k with
  | _ => ("", "", "", false)
def tyJxab1ab : Nat → FieldType := fun k => match k with
  | _ => .int
theorem nmJxab1ab : ∀ a, a < 0 → ∀ b, b < 0 → a ≠ b → (TJxab1ab a).2.1 ≠ (TJxab1ab b).2.1 := by decide +kernel
theorem tyJxab1ab_ok : ∀ k, k < 0 → parseFieldDescriptor (TJxab1ab k).2.2.1 = some (tyJxab1ab k) := by decide +kernel
def RJ9 : String := "java/lang/Math"
def TJ9 : u_T := fun k => match k with
  | _ => ("", "", "", false)
def tyJ9 : Nat → FieldType := fun k => match k with
  | _ => .int
theorem nmJ9 : ∀ a, a < 0 → ∀ b, b < 0 → a ≠ b → (TJ9 a).2.1 ≠ (TJ9 b).2.1 := by decide +kernel
theorem tyJ9_ok : ∀ k, k < 0 → parseFieldDescriptor (TJ9 k).2.2.1 = some (tyJ9 k) := by decide +kernel
abbrev cJ9_floorMod_7cf53 : ByteArray := prog_17_method_50_code
def yJ9_floorMod_7cf53 : MethodName := ⟨RJ9, "floorMod", "(II)I"⟩
abbrev cJ9_max_7cf53 : ByteArray := prog_17_method_65_code
def yJ9_max_7cf53 : MethodName := ⟨RJ9, "max", "(II)I"⟩
abbrev cJ9_min_7cf53 : ByteArray := prog_17_method_69_code
def yJ9_min_7cf53 : MethodName := ⟨RJ9, "min", "(II)I"⟩
def RJ10 : String := "java/lang/System"
def TJ10 : u_T := fun k => match k with
  | _ => ("", "", "", false)
def tyJ10 : Nat → FieldType := fun k => match k with
  | _ => .int
theorem nmJ10 : ∀ a, a < 0 → ∀ b, b < 0 → a ≠ b → (TJ10 a).2.1 ≠ (TJ10 b).2.1 := by decide +kernel
theorem tyJ10_ok : ∀ k, k < 0 → parseFieldDescriptor (TJ10 k).2.2.1 = some (tyJ10 k) := by decide +kernel
def RJxa1e45 : String := "java/util/AbstractCollection"
def TJxa1e45 : u_T := fun k => match k with
  | _ => ("", "", "", false)
def tyJxa1e45 : Nat → FieldType := fun k => match k with
  | _ => .int
theorem nmJxa1e45 : ∀ a, a < 0 → ∀ b, b < 0 → a ≠ b → (TJxa1e45 a).2.1 ≠ (TJxa1e45 b).2.1 := by decide +kernel
theorem tyJxa1e45_ok : ∀ k, k < 0 → parseFieldDescriptor (TJxa1e45 k).2.2.1 = some (tyJxa1e45 k) := by decide +kernel
abbrev cJxa1e45_init_da8c8 : ByteArray := prog_19_method_1_code
def yJxa1e45_init_da8c8 : MethodName := ⟨RJxa1e45, "<init>", "()V"⟩
def RJxc12de : String := "java/util/AbstractList"
def TJxc12de : u_T := fun k => match k with
  | _ => ("", "", "", false)
def tyJxc12de : Nat → FieldType := fun k => match k with
  | _ => .int
theorem nmJxc12de : ∀ a, a < 0 → ∀ b, b < 0 → a ≠ b → (TJxc12de a).2.1 ≠ (TJxc12de b).2.1 := by decide +kernel
theorem tyJxc12de_ok : ∀ k, k < 0 → parseFieldDescriptor (TJxc12de k).2.2.1 = some (tyJxc12de k) := by decide +kernel
abbrev cJxc12de_init_da8c8 : ByteArray := prog_20_method_1_code
def yJxc12de_init_da8c8 : MethodName := ⟨RJxc12de, "<init>", "()V"⟩
def RJx4a65c : String := "java/util/ArrayList"
def TJx4a65c : u_T := fun k => match k with
  | 0 => ("java/util/AbstractList", "modCount", "I", false)
  | 1 => ("java/util/ArrayList", "elementData", "[Ljava/lang/Object;", false)
  | _ => ("java/util/ArrayList", "size", "I", false)
def tyJx4a65c : Nat → FieldType := fun k => match k with
  | 0 => .int
  | 1 => .array (.object "java/lang/Object")
  | _ => .int
theorem nmJx4a65c : ∀ a, a < 3 → ∀ b, b < 3 → a ≠ b → (TJx4a65c a).2.1 ≠ (TJx4a65c b).2.1 := by decide +kernel
theorem tyJx4a65c_ok : ∀ k, k < 3 → parseFieldDescriptor (TJx4a65c k).2.2.1 = some (tyJx4a65c k) := by decide +kernel
abbrev cJx4a65c_init_da8c8 : ByteArray := prog_21_method_2_code
def yJx4a65c_init_da8c8 : MethodName := ⟨RJx4a65c, "<init>", "()V"⟩
abbrev cJx4a65c_grow_92f84 : ByteArray := prog_21_method_6_code
def yJx4a65c_grow_92f84 : MethodName := ⟨RJx4a65c, "grow", "(I)[Ljava/lang/Object;"⟩
abbrev cJx4a65c_grow_d5877 : ByteArray := prog_21_method_7_code
def yJx4a65c_grow_d5877 : MethodName := ⟨RJx4a65c, "grow", "()[Ljava/lang/Object;"⟩
abbrev cJx4a65c_size_8abf5 : ByteArray := prog_21_method_8_code
def yJx4a65c_size_8abf5 : MethodName := ⟨RJx4a65c, "size", "()I"⟩
abbrev cJx4a65c_isEmpty_aae02 : ByteArray := prog_21_method_9_code
def yJx4a65c_isEmpty_aae02 : MethodName := ⟨RJx4a65c, "isEmpty", "()Z"⟩
abbrev cJx4a65c_elementData_915e3 : ByteArray := prog_21_method_18_code
def yJx4a65c_elementData_915e3 : MethodName := ⟨RJx4a65c, "elementData", "(I)Ljava/lang/Object;"⟩
abbrev cJx4a65c_get_915e3 : ByteArray := prog_21_method_20_code
def yJx4a65c_get_915e3 : MethodName := ⟨RJx4a65c, "get", "(I)Ljava/lang/Object;"⟩
abbrev cJx4a65c_add_72be8 : ByteArray := prog_21_method_24_code
def yJx4a65c_add_72be8 : MethodName := ⟨RJx4a65c, "add", "(Ljava/lang/Object;[Ljava/lang/Object;I)V"⟩
abbrev cJx4a65c_add_9ea2d : ByteArray := prog_21_method_25_code
def yJx4a65c_add_9ea2d : MethodName := ⟨RJx4a65c, "add", "(Ljava/lang/Object;)Z"⟩
abbrev cJx4a65c_remove_915e3 : ByteArray := prog_21_method_29_code
def yJx4a65c_remove_915e3 : MethodName := ⟨RJx4a65c, "remove", "(I)Ljava/lang/Object;"⟩
abbrev cJx4a65c_fastRemove_b59b0 : ByteArray := prog_21_method_39_code
def yJx4a65c_fastRemove_b59b0 : MethodName := ⟨RJx4a65c, "fastRemove", "([Ljava/lang/Object;I)V"⟩
abbrev cJx4a65c_clear_da8c8 : ByteArray := prog_21_method_40_code
def yJx4a65c_clear_da8c8 : MethodName := ⟨RJx4a65c, "clear", "()V"⟩
def RJ7 : String := "java/util/Arrays"
def TJ7 : u_T := fun k => match k with
  | _ => ("", "", "", false)
def tyJ7 : Nat → FieldType := fun k => match k with
  | _ => .int
theorem nmJ7 : ∀ a, a < 0 → ∀ b, b < 0 → a ≠ b → (TJ7 a).2.1 ≠ (TJ7 b).2.1 := by decide +kernel
theorem tyJ7_ok : ∀ k, k < 0 → parseFieldDescriptor (TJ7 k).2.2.1 = some (tyJ7 k) := by decide +kernel
abbrev cJ7_copyOf_1904c : ByteArray := prog_22_method_119_code
def yJ7_copyOf_1904c : MethodName := ⟨RJ7, "copyOf", "([Ljava/lang/Object;I)[Ljava/lang/Object;"⟩
abbrev cJ7_copyOf_6403c : ByteArray := prog_22_method_120_code
def yJ7_copyOf_6403c : MethodName := ⟨RJ7, "copyOf", "([Ljava/lang/Object;ILjava/lang/Class;)[Ljava/lang/Object;"⟩
abbrev cJ7_copyOf_59c91 : ByteArray := prog_22_method_123_code
def yJ7_copyOf_59c91 : MethodName := ⟨RJ7, "copyOf", "([II)[I"⟩
def RJx5ef63 : String := "java/util/Collection"
def TJx5ef63 : u_T := fun k => match k with
  | _ => ("", "", "", false)
def tyJx5ef63 : Nat → FieldType := fun k => match k with
  | _ => .int
theorem nmJx5ef63 : ∀ a, a < 0 → ∀ b, b < 0 → a ≠ b → (TJx5ef63 a).2.1 ≠ (TJx5ef63 b).2.1 := by decide +kernel
theorem tyJx5ef63_ok : ∀ k, k < 0 → parseFieldDescriptor (TJx5ef63 k).2.2.1 = some (tyJx5ef63 k) := by decide +kernel
def RJxbd725 : String := "java/util/List"
def TJxbd725 : u_T := fun k => match k with
  | _ => ("", "", "", false)
def tyJxbd725 : Nat → FieldType := fun k => match k with
  | _ => .int
theorem nmJxbd725 : ∀ a, a < 0 → ∀ b, b < 0 → a ≠ b → (TJxbd725 a).2.1 ≠ (TJxbd725 b).2.1 := by decide +kernel
theorem tyJxbd725_ok : ∀ k, k < 0 → parseFieldDescriptor (TJxbd725 k).2.2.1 = some (tyJxbd725 k) := by decide +kernel
def RJ15 : String := "java/util/Objects"
def TJ15 : u_T := fun k => match k with
  | _ => ("", "", "", false)
def tyJ15 : Nat → FieldType := fun k => match k with
  | _ => .int
theorem nmJ15 : ∀ a, a < 0 → ∀ b, b < 0 → a ≠ b → (TJ15 a).2.1 ≠ (TJ15 b).2.1 := by decide +kernel
theorem tyJ15_ok : ∀ k, k < 0 → parseFieldDescriptor (TJ15 k).2.2.1 = some (tyJ15 k) := by decide +kernel
abbrev cJ15_checkIndex_7cf53 : ByteArray := prog_25_method_17_code
def yJ15_checkIndex_7cf53 : MethodName := ⟨RJ15, "checkIndex", "(II)I"⟩
def RJxf0a74 : String := "java/util/RandomAccess"
def TJxf0a74 : u_T := fun k => match k with
  | _ => ("", "", "", false)
def tyJxf0a74 : Nat → FieldType := fun k => match k with
  | _ => .int
theorem nmJxf0a74 : ∀ a, a < 0 → ∀ b, b < 0 → a ≠ b → (TJxf0a74 a).2.1 ≠ (TJxf0a74 b).2.1 := by decide +kernel
theorem tyJxf0a74_ok : ∀ k, k < 0 → parseFieldDescriptor (TJxf0a74 k).2.2.1 = some (tyJxf0a74 k) := by decide +kernel
def RJxa66e6 : String := "java/util/SequencedCollection"
def TJxa66e6 : u_T := fun k => match k with
  | _ => ("", "", "", false)
def tyJxa66e6 : Nat → FieldType := fun k => match k with
  | _ => .int
theorem nmJxa66e6 : ∀ a, a < 0 → ∀ b, b < 0 → a ≠ b → (TJxa66e6 a).2.1 ≠ (TJxa66e6 b).2.1 := by decide +kernel
theorem tyJxa66e6_ok : ∀ k, k < 0 → parseFieldDescriptor (TJxa66e6 k).2.2.1 = some (tyJxa66e6 k) := by decide +kernel
def RJ8 : String := "jdk/internal/util/ArraysSupport"
def TJ8 : u_T := fun k => match k with
  | _ => ("", "", "", false)
def tyJ8 : Nat → FieldType := fun k => match k with
  | _ => .int
theorem nmJ8 : ∀ a, a < 0 → ∀ b, b < 0 → a ≠ b → (TJ8 a).2.1 ≠ (TJ8 b).2.1 := by decide +kernel
theorem tyJ8_ok : ∀ k, k < 0 → parseFieldDescriptor (TJ8 k).2.2.1 = some (tyJ8 k) := by decide +kernel
abbrev cJ8_newLength_cabcc : ByteArray := prog_28_method_27_code
def yJ8_newLength_cabcc : MethodName := ⟨RJ8, "newLength", "(III)I"⟩
abbrev cJ8_hugeLength_7cf53 : ByteArray := prog_28_method_28_code
def yJ8_hugeLength_7cf53 : MethodName := ⟨RJ8, "hugeLength", "(II)I"⟩
def RJ3 : String := "jdk/internal/util/Preconditions"
def TJ3 : u_T := fun k => match k with
  | _ => ("", "", "", false)
def tyJ3 : Nat → FieldType := fun k => match k with
  | _ => .int
theorem nmJ3 : ∀ a, a < 0 → ∀ b, b < 0 → a ≠ b → (TJ3 a).2.1 ≠ (TJ3 b).2.1 := by decide +kernel
theorem tyJ3_ok : ∀ k, k < 0 → parseFieldDescriptor (TJ3 k).2.2.1 = some (tyJ3 k) := by decide +kernel
abbrev cJ3_checkIndex_8e157 : ByteArray := prog_29_method_11_code
def yJ3_checkIndex_8e157 : MethodName := ⟨RJ3, "checkIndex", "(IILjava/util/function/BiFunction;)I"⟩
def RL : String := "FieldPackLaw"
abbrev cL_cell : ByteArray := method_2_code
def yL_cell : MethodName := ⟨RL, "cell", "([II)I"⟩
abbrev cL_law : ByteArray := code
def yL_law : MethodName := ⟨RL, "law", "([I)Z"⟩
abbrev vwCl : List vw_C := [(RJx4a65c, TJx4a65c, 3), (RX0, TX0, 2), (RX1, TX1, 2), (RX2, TX2, 9), (RX3, TX3, 3), (RX4, TX4, 5), (RX5, TX5, 3), (RX6, TX6, 4), (RX7, TX7, 3), (RX8, TX8, 7), (RX9, TX9, 2), (RX10, TX10, 7), (RX11, TX11, 46)]
def fp_tw : List Cond := lw_tbl.filter goodWord
theorem fp_good : ∀ w ∈ fp_tw, (w.onTables && w.keeps) = true ∨ ∃ ty, w = .arrayClass ty := fun w hw => good_of_word (List.mem_filter.mp hw).2
def fp_mv (w : Cond) : Bool := match w with
  | .castable _ _ => true
  | .declares _ => true
  | .methodLinkNest _ _ _ _ => true
  | _ => false
def fp_tn : List Cond := lw_tbl.filter fp_mv
abbrev fp_ty : List FieldType := [.int, .long, .boolean, .object "FieldPack$Lane", .object "java/lang/Object"]
theorem tw_i {w : Cond} (i : Nat) (h : lw_tbl[i]? = some w) (hg : goodWord w = true) : w ∈ fp_tw := List.mem_filter.mpr ⟨List.mem_of_getElem? h, hg⟩
theorem tn_i {w : Cond} (i : Nat) (h : lw_tbl[i]? = some w) (hg : fp_mv w = true) : w ∈ fp_tn := List.mem_filter.mpr ⟨List.mem_of_getElem? h, hg⟩
end
section
/-! THE BASE: an exact picture of the heap (cells by address, the next address, slots used), and a calculus of exact runs over it -/
abbrev fp_E : Type := (Nat × vp_A) ⊕ (Nat × List Value)
abbrev fp_H : Type := (Nat → Option (Nat × fp_E)) × Nat × Nat
abbrev fp_G : Type := Heap × va_G × (Nat → ClassId) × (Nat → Nat) × (Nat → Int32)
abbrev fp_M : Type := MethodName × ByteArray × Nat × Option FieldType
def fp_cv (G : fp_G) (e : fp_E) : va_E := match e with
  | .inl x => .inl (G.2.2.1 x.1, x.2)
  | .inr o => .inr o
def fp_rep (G : fp_G) (h : fp_H) (H : Heap) : Prop := H.size = h.2.1 ∧ G.1.size ≤ h.2.1 ∧ (∀ q : Nat, q < G.1.size → H[q]? = G.1[q]?) ∧ ∀ (q t : Nat) (e : fp_E), h.1 q = some (t, e) → G.1.size ≤ q ∧ va_at G.2.1 vwCl (q, fp_cv G e) H
def fp_put (h : fp_H) (q t : Nat) (e : fp_E) : fp_H := (fun x => if x = q then some (t, e) else h.1 x, h.2.1, h.2.2)
def fp_new (h : fp_H) (t : Nat) (e : fp_E) (k : Nat) : fp_H := (fun x => if x = h.2.1 then some (t, e) else h.1 x, h.2.1 + 1, h.2.2 + k)
def fp_tys (G : fp_G) : List (ClassId × FieldType) := fp_ty.zipIdx.map (fun x => (G.2.2.1 x.2, x.1))
theorem fp_tys_gen (f : Nat → ClassId) (l : List FieldType) {k : Nat} {t : FieldType} (h : l[k]? = some t) : (l.zipIdx.map (fun x => (f x.2, x.1)))[k]? = some (f k, t) := by
  simp [List.getElem?_map, List.getElem?_zipIdx, h]
theorem fp_tys_at {G : fp_G} {k : Nat} {t : FieldType} (h : fp_ty[k]? = some t) : (fp_tys G)[k]? = some (G.2.2.1 k, t) := fp_tys_gen _ _ h
/-- what stood before the start: the empty array of ArrayList, the Class object of Object[], the script -/
def fp_old (G : fp_G) : Nat → Prop := fun q => G.1.size ≤ q
def fp_X (G : fp_G) (U : State) : Prop := va_Z "java/util/ArrayList" "DEFAULTCAPACITY_EMPTY_ELEMENTDATA" "[Ljava/lang/Object;" (.ref (G.2.2.2.1 0)) (fp_old G) U G.1 ∧ va_T (.object "java/lang/Object") (G.2.2.2.1 0) 0 (fun _ => .null) (fp_old G) U G.1 ∧ va_Mi "[Ljava/lang/Object;" (G.2.2.2.1 1) U ∧ va_T .int (G.2.2.2.1 2) (G.2.2.2.1 3) (fun j => .int (G.2.2.2.2 j)) (fp_old G) U G.1 ∧ va_AO "FieldPack$Lane" U ∧ va_AO "java/lang/Object" U
def fp_K (G : fp_G) (U : State) : Prop := va_K G.2.1 vwCl (fp_tys G) U ∧ fp_X G U ∧ ∀ w ∈ fp_tn, va_Nw w U
theorem fp_mv_moved {w : Cond} (h : fp_mv w = true) {u U : State} (hW : u.WarmedH U.vm) (hn : va_Nw w u) : va_Nw w U := by
  cases w <;> first | (simp [fp_mv] at h; done) | exact va_Nw.warmC hW hn | exact va_Nw.warmD hW hn | exact va_Nw.warmM hW hn
theorem fp_K.moved {G : fp_G} {u U : State} (hW : u.WarmedH U.vm) (h : fp_K G u) : fp_K G U :=
  have hvm := hW.alike
  ⟨va_K.moved hvm h.1, ⟨h.2.1.1.moved hvm, h.2.1.2.1.moved hvm, h.2.1.2.2.1.moved hvm, h.2.1.2.2.2.1.moved hvm, h.2.1.2.2.2.2.1.moved hvm, h.2.1.2.2.2.2.2.moved hvm⟩, fun w hw => fp_mv_moved (List.mem_filter.mp hw).2 hW (h.2.2 w hw)⟩
def fp_Cx (M : fp_M) (p : Program) (s : State) (m : MethodId) (args : Array Value) (meth : Method) (c : Code) : Prop :=
  p.tables.exec = Jvm.exec ∧ c.code = M.2.1 ∧ c.maxLocals = M.2.2.1 ∧ meth.sig.returnType = M.2.2.2 ∧ meth.locks = false ∧ s.vm.findClass M.1.cls = some m.cls ∧ meth.name = M.1.name ∧ ∀ w ∈ fp_tw, w.before args s = true
def fp_L (ls : Array Slot) (L : List (Option Value)) : Prop := ls.size = L.length ∧ lv_wf ls ∧ ∀ (i : Nat) (v : Value), L[i]? = some (some v) → ls[i]? = some (.val v)
def fp_lv (L : List (Option Value)) : List (Nat × Value) := L.zipIdx.filterMap (fun x => x.1.map (fun v => (x.2, v)))
theorem fp_lv_mem {L : List (Option Value)} {q : Nat × Value} : q ∈ fp_lv L ↔ L[q.1]? = some (some q.2) := by
  unfold fp_lv
  rw [List.mem_filterMap]
  constructor
  · rintro ⟨⟨o, i⟩, h1, h2⟩
    have h3 := List.mem_zipIdx_iff_getElem?.mp h1
    cases o with
    | none => simp at h2
    | some v => simp at h2; subst h2; exact h3
  · intro h
    exact ⟨(some q.2, q.1), List.mem_zipIdx_iff_getElem?.mpr h, by simp⟩
theorem fp_L.has {ls : Array Slot} {L : List (Option Value)} (h : fp_L ls L) : lv_has ls L.length (fp_lv L) := ⟨h.1, h.2.1, fun q hq => h.2.2 q.1 q.2 (fp_lv_mem.mp hq)⟩
/-- no value of two slots begins just ahead of place i -/
def fp_ok (L : List (Option Value)) (i : Nat) : Bool := match i with
  | 0 => true
  | j + 1 => match L[j]? with
    | some (some v) => v.category == 1
    | _ => true
theorem fp_ok_spec {L : List (Option Value)} {i j : Nat} {v : Value} (h : fp_ok L i = true) (hj : j + 1 = i) (hv : L[j]? = some (some v)) : ¬ v.category = 2 := by
  subst hj
  simp [fp_ok, hv] at h
  omega
theorem fp_L.set1 {ls' : Array Slot} {L : List (Option Value)} {i : Nat} {v : Value} (ho : fp_ok L i = true) (h : lv_has ls' L.length ((i, v) :: (fp_lv L).filter (fun q => !(q.1 == i) && !(q.1 + 1 == i && q.2.category == 2)))) : fp_L ls' (L.set i (some v)) := by
  refine ⟨by rw [List.length_set]; exact h.1, h.2.1, fun j w hj => ?_⟩
  by_cases e : i = j
  · subst e
    rw [List.getElem?_set_self'] at hj
    cases hL : L[i]? with
    | none => rw [hL] at hj; simp at hj
    | some x => rw [hL] at hj; simp at hj; subst hj; exact h.2.2 (i, v) List.mem_cons_self
  · rw [List.getElem?_set_ne e] at hj
    refine h.2.2 (j, w) (List.mem_cons_of_mem _ (List.mem_filter.mpr ⟨fp_lv_mem.mpr hj, ?_⟩))
    have e2 : (j == i) = false := by simpa using fun q => e q.symm
    simp only [e2, Bool.not_false, Bool.true_and]
    by_cases e3 : j + 1 = i
    · have := fp_ok_spec ho e3 hj
      simp [this]
    · simp [e3]
theorem fp_L.set2 {ls' : Array Slot} {L : List (Option Value)} {i : Nat} {v : Value} (ho : fp_ok L i = true) (h : lv_has ls' L.length ((i, v) :: (fp_lv L).filter (fun q => !(q.1 == i) && (!(q.1 == i + 1) && !(q.1 + 1 == i && q.2.category == 2))))) : fp_L ls' ((L.set i (some v)).set (i + 1) none) := by
  refine ⟨by rw [List.length_set, List.length_set]; exact h.1, h.2.1, fun j w hj => ?_⟩
  by_cases e0 : i + 1 = j
  · subst e0
    rw [List.getElem?_set_self'] at hj
    cases hL : (L.set i (some v))[i + 1]? with
    | none => rw [hL] at hj; simp at hj
    | some x => rw [hL] at hj; simp at hj
  rw [List.getElem?_set_ne e0] at hj
  by_cases e : i = j
  · subst e
    rw [List.getElem?_set_self'] at hj
    cases hL : L[i]? with
    | none => rw [hL] at hj; simp at hj
    | some x => rw [hL] at hj; simp at hj; subst hj; exact h.2.2 (i, v) List.mem_cons_self
  · rw [List.getElem?_set_ne e] at hj
    refine h.2.2 (j, w) (List.mem_cons_of_mem _ (List.mem_filter.mpr ⟨fp_lv_mem.mpr hj, ?_⟩))
    have e2 : (j == i) = false := by simpa using fun q => e q.symm
    have e4 : (j == i + 1) = false := by simpa using fun q => e0 q.symm
    simp only [e2, e4, Bool.not_false, Bool.true_and]
    by_cases e3 : j + 1 = i
    · have := fp_ok_spec ho e3 hj
      simp [this]
    · simp [e3]
def fp_ent (av : List Value) (n : Nat) : List (Option Value) := let a := av.flatMap (fun v => if v.category = 2 then [some v, none] else [some v]); a ++ List.replicate (n - a.length) none
def fp_rm (d : Nat × Nat) (mc ms : Nat) : Room := { frames := d.1, cells := mc, slots := ms, locals := d.2 }
def fp_free (G : fp_G) : Addr → Prop := fun q => G.1.size ≤ q
def fp_Qc (G : fp_G) (r : Option Value) (h' : fp_H) : Array Value → State → Outcome → State → Prop := fun _ _ o t => o = .returned r ∧ fp_rep G h' t.heap
def fp_ws (M : fp_M) : List Cond := .code M.1 M.2.1 M.2.2.1 M.2.2.2 :: fp_tw
/-- the method M, called with av over h, returns r, the heap being h' -/
def fp_R (G : fp_G) (d : Nat × Nat) (M : fp_M) (av : List Value) (h : fp_H) (r : Option Value) (h' : fp_H) : Prop := h.2.1 ≤ h'.2.1 ∧ h.2.2 ≤ h'.2.2 ∧ ∀ l : Launch,
  Met l M.1 (fp_ws M) (fp_rm d (h'.2.1 - h.2.1) (h'.2.2 - h.2.2)) (va_Pc av (fun U => fp_rep G h U.heap ∧ fp_K G U)) (fp_Qc G r h') (h'.2.1 - h.2.1) (h'.2.2 - h.2.2) (fp_free G)
/-- from this frame on the method M returns r, the heap being h' -/
def fp_W (G : fp_G) (d : Nat × Nat) (M : fp_M) (pc : Nat) (L : List (Option Value)) (st : List Value) (h : fp_H) (r : Option Value) (h' : fp_H) : Prop := h.2.1 ≤ h'.2.1 ∧ h.2.2 ≤ h'.2.2 ∧
  ∀ (p : Program) (l : Launch) (e : Env) (s : State) (m : MethodId) (args : Array Value) (below : List Frame) (meth : Method) (c : Code) (H : Heap) (locs : List Loc) (cells slots mc ms : Nat) (ls : Array Slot),
    fp_Cx M p s m args meth c → fp_K G s → fp_rep G h H → (∀ q ∈ locs, fp_free G q.base) → fp_L ls L → cells + (h'.2.1 - h.2.1) = mc → slots + (h'.2.2 - h.2.2) = ms →
    W p l e (fp_rm d mc ms) s m args below meth c H locs cells slots (MQ below (fp_Qc G r h') args s mc ms (fp_free G)) (F0 m pc ls st)
def fp_ct (G : fp_G) (d : Nat × Nat) (M : fp_M) (av : List Value) (h : fp_H) (Q : Option Value → fp_H → Prop) : Prop := ∃ r h', fp_R G d M av h r h' ∧ Q r h'
def fp_wp (G : fp_G) (d : Nat × Nat) (M : fp_M) (pc : Nat) (L : List (Option Value)) (st : List Value) (h : fp_H) (Q : Option Value → fp_H → Prop) : Prop := ∃ r h', fp_W G d M pc L st h r h' ∧ Q r h'
theorem fp_wp.mono {G : fp_G} {d : Nat × Nat} {M : fp_M} {pc : Nat} {L : List (Option Value)} {st : List Value} {h : fp_H} {Q Q' : Option Value → fp_H → Prop} (k : fp_wp G d M pc L st h Q) (f : ∀ r h', Q r h' → Q' r h') : fp_wp G d M pc L st h Q' := by
  obtain ⟨r, h', a, b⟩ := k
  exact ⟨r, h', a, f r h' b⟩
theorem fp_ct.mono {G : fp_G} {d : Nat × Nat} {M : fp_M} {av : List Value} {h : fp_H} {Q Q' : Option Value → fp_H → Prop} (k : fp_ct G d M av h Q) (f : ∀ r h', Q r h' → Q' r h') : fp_ct G d M av h Q' := by
  obtain ⟨r, h', a, b⟩ := k
  exact ⟨r, h', a, f r h' b⟩
section FPL
variable {G : fp_G} {d : Nat × Nat} {M : fp_M} {pc : Nat} {L : List (Option Value)} {st : List Value} {h : fp_H} {Q : Option Value → fp_H → Prop}
/-- a step that leaves the heap alone -/
theorem fp_lift {pc' : Nat} {L' : List (Option Value)} {st' : List Value} (step : ∀ (p : Program) (l : Launch) (e : Env) (R : Room) (s : State) (m : MethodId) (args : Array Value) (below : List Frame) (meth : Method) (c : Code) (H : Heap) (locs : List Loc) (cells slots : Nat) (Qz : State → Prop) (ls : Array Slot),
    fp_Cx M p s m args meth c → fp_K G s → fp_rep G h H → fp_L ls L → (∀ ls', fp_L ls' L' → W p l e R s m args below meth c H locs cells slots Qz (F0 m pc' ls' st')) → W p l e R s m args below meth c H locs cells slots Qz (F0 m pc ls st))
    (k : fp_wp G d M pc' L' st' h Q) : fp_wp G d M pc L st h Q := by
  obtain ⟨r, h', ⟨m1, m2, w⟩, q⟩ := k
  exact ⟨r, h', ⟨m1, m2, fun p l e s m args below meth c H locs cells slots mc ms ls C K P F hl e1 e2 => step p l e _ s m args below meth c H locs cells slots _ ls C K P hl (fun ls' hl' => w p l e s m args below meth c H locs cells slots mc ms ls' C K P F hl' e1 e2)⟩, q⟩
/-- a step that changes the heap -/
theorem fp_liftH {h1 : fp_H} {dc ds pc' : Nat} {st' : List Value} (hn : h1.2.1 = h.2.1 + dc) (hs : h1.2.2 = h.2.2 + ds)
    (step : ∀ (p : Program) (l : Launch) (e : Env) (mc ms : Nat) (s : State) (m : MethodId) (args : Array Value) (below : List Frame) (meth : Method) (c : Code) (H : Heap) (locs : List Loc) (cells slots : Nat) (Qz : State → Prop) (ls : Array Slot),
    fp_Cx M p s m args meth c → fp_K G s → fp_rep G h H → (∀ q ∈ locs, fp_free G q.base) → fp_L ls L → cells + dc ≤ mc → slots + ds ≤ ms →
    (∀ (H1 : Heap) (locs1 : List Loc), fp_rep G h1 H1 → (∀ q ∈ locs1, fp_free G q.base) → W p l e (fp_rm d mc ms) s m args below meth c H1 locs1 (cells + dc) (slots + ds) Qz (F0 m pc' ls st')) → W p l e (fp_rm d mc ms) s m args below meth c H locs cells slots Qz (F0 m pc ls st))
    (k : fp_wp G d M pc' L st' h1 Q) : fp_wp G d M pc L st h Q := by
  obtain ⟨r, h', ⟨m1, m2, w⟩, q⟩ := k
  refine ⟨r, h', ⟨by omega, by omega, fun p l e s m args below meth c H locs cells slots mc ms ls C K P F hl e1 e2 => step p l e mc ms s m args below meth c H locs cells slots _ ls C K P F hl ?_ ?_ (fun H1 locs1 P1 F1 => w p l e s m args below meth c H1 locs1 (cells + dc) (slots + ds) mc ms ls C K P1 F1 hl ?_ ?_)⟩, q⟩
  · omega
  · omega
  · omega
  · omega
end FPL

section FPI
variable {G : fp_G} {d : Nat × Nat} {M : fp_M} {pc : Nat} {L : List (Option Value)} {rest : List Value} {h : fp_H} {Q : Option Value → fp_H → Prop}
theorem wp_iconst {n : Int} {v : Int32} (hd : decode M.2.1 pc = .ok (.iconst n, 1)) (hv : Int32.ofInt n = v) (k : fp_wp G d M (pc + 1) L (.int v :: rest) h Q) : fp_wp G d M pc L (rest) h Q := fp_lift (fun p l e R s m args below meth c H locs cells slots Qz ls C K P hl kk => lv_iconst C.1 C.2.1 hd hv (kk ls hl)) k
theorem wp_bipush {n : Int} {v : Int32} (hd : decode M.2.1 pc = .ok (.bipush n, 2)) (hv : (Int8.ofInt n).toInt32 = v) (k : fp_wp G d M (pc + 2) L (.int v :: rest) h Q) : fp_wp G d M pc L (rest) h Q := fp_lift (fun p l e R s m args below meth c H locs cells slots Qz ls C K P hl kk => lv_bipush C.1 C.2.1 hd hv (kk ls hl)) k
theorem wp_sipush {n : Int} {v : Int32} (hd : decode M.2.1 pc = .ok (.sipush n, 3)) (hv : (Int16.ofInt n).toInt32 = v) (k : fp_wp G d M (pc + 3) L (.int v :: rest) h Q) : fp_wp G d M pc L (rest) h Q := fp_lift (fun p l e R s m args below meth c H locs cells slots Qz ls C K P hl kk => lv_sipush C.1 C.2.1 hd hv (kk ls hl)) k
theorem wp_lconst {n : Fin 2} {v : Int64} (hd : decode M.2.1 pc = .ok (.lconst n, 1)) (hv : Int64.ofNat (n : Nat) = v) (k : fp_wp G d M (pc + 1) L (.long v :: rest) h Q) : fp_wp G d M pc L (rest) h Q := fp_lift (fun p l e R s m args below meth c H locs cells slots Qz ls C K P hl kk => lv_lconst C.1 C.2.1 hd hv (kk ls hl)) k
theorem wp_null (hd : decode M.2.1 pc = .ok (.aconst_null, 1)) (k : fp_wp G d M (pc + 1) L (.null :: rest) h Q) : fp_wp G d M pc L (rest) h Q := fp_lift (fun p l e R s m args below meth c H locs cells slots Qz ls C K P hl kk => lv_null C.1 C.2.1 hd (kk ls hl)) k
theorem wp_ldc {i : Nat} {v : Int32} (hd : decode M.2.1 pc = .ok (.ldc i, 2)) (hw : Cond.constant M.1.cls i v ∈ fp_tw) (k : fp_wp G d M (pc + 2) L (.int v :: rest) h Q) : fp_wp G d M pc L (rest) h Q := fp_lift (fun p l e R s m args below meth c H locs cells slots Qz ls C K P hl kk => lv_ldc C.1 C.2.1 C.2.2.2.2.2.1 (C.2.2.2.2.2.2.2 _ hw) hd (kk ls hl)) k
theorem wp_ldc2 {i : Nat} {v : Int64} (hd : decode M.2.1 pc = .ok (.ldc2_w i, 3)) (hw : Cond.constantLong M.1.cls i v ∈ fp_tw) (k : fp_wp G d M (pc + 3) L (.long v :: rest) h Q) : fp_wp G d M pc L (rest) h Q := fp_lift (fun p l e R s m args below meth c H locs cells slots Qz ls C K P hl kk => lv_ldc2 C.1 C.2.1 C.2.2.2.2.2.1 (C.2.2.2.2.2.2.2 _ hw) hd (kk ls hl)) k
theorem wp_iload_n {k0 : Fin 4} {x : Int32} (hd : decode M.2.1 pc = .ok (.iload_n k0, 1)) (hl0 : L[(k0 : Nat)]? = some (some (.int x))) (k : fp_wp G d M (pc + 1) L (.int x :: rest) h Q) : fp_wp G d M pc L (rest) h Q := fp_lift (fun p l e R s m args below meth c H locs cells slots Qz ls C K P hl kk => lv_iload_n C.1 C.2.1 hd rfl (hl.2.2 _ _ hl0) (kk ls hl)) k
theorem wp_iload {i : Nat} {x : Int32} (hd : decode M.2.1 pc = .ok (.iload i, 2)) (hl0 : L[i]? = some (some (.int x))) (k : fp_wp G d M (pc + 2) L (.int x :: rest) h Q) : fp_wp G d M pc L (rest) h Q := fp_lift (fun p l e R s m args below meth c H locs cells slots Qz ls C K P hl kk => lv_iload C.1 C.2.1 hd (hl.2.2 _ _ hl0) (kk ls hl)) k
theorem wp_lload_n {k0 : Fin 4} {x : Int64} (hd : decode M.2.1 pc = .ok (.lload_n k0, 1)) (hl0 : L[(k0 : Nat)]? = some (some (.long x))) (k : fp_wp G d M (pc + 1) L (.long x :: rest) h Q) : fp_wp G d M pc L (rest) h Q := fp_lift (fun p l e R s m args below meth c H locs cells slots Qz ls C K P hl kk => lv_lload_n C.1 C.2.1 hd rfl (hl.2.2 _ _ hl0) (kk ls hl)) k
theorem wp_lload {i : Nat} {x : Int64} (hd : decode M.2.1 pc = .ok (.lload i, 2)) (hl0 : L[i]? = some (some (.long x))) (k : fp_wp G d M (pc + 2) L (.long x :: rest) h Q) : fp_wp G d M pc L (rest) h Q := fp_lift (fun p l e R s m args below meth c H locs cells slots Qz ls C K P hl kk => lv_lload C.1 C.2.1 hd (hl.2.2 _ _ hl0) (kk ls hl)) k
theorem wp_aload_n {k0 : Fin 4} {x : Nat} (hd : decode M.2.1 pc = .ok (.aload_n k0, 1)) (hl0 : L[(k0 : Nat)]? = some (some (.ref x))) (k : fp_wp G d M (pc + 1) L (.ref x :: rest) h Q) : fp_wp G d M pc L (rest) h Q := fp_lift (fun p l e R s m args below meth c H locs cells slots Qz ls C K P hl kk => lv_aload_n C.1 C.2.1 hd rfl (hl.2.2 _ _ hl0) (kk ls hl)) k
theorem wp_aload {i : Nat} {x : Nat} (hd : decode M.2.1 pc = .ok (.aload i, 2)) (hl0 : L[i]? = some (some (.ref x))) (k : fp_wp G d M (pc + 2) L (.ref x :: rest) h Q) : fp_wp G d M pc L (rest) h Q := fp_lift (fun p l e R s m args below meth c H locs cells slots Qz ls C K P hl kk => lv_aload C.1 C.2.1 hd (hl.2.2 _ _ hl0) (kk ls hl)) k
theorem wp_aload_nN {k0 : Fin 4} (hd : decode M.2.1 pc = .ok (.aload_n k0, 1)) (hl0 : L[(k0 : Nat)]? = some (some .null)) (k : fp_wp G d M (pc + 1) L (.null :: rest) h Q) : fp_wp G d M pc L (rest) h Q := fp_lift (fun p l e R s m args below meth c H locs cells slots Qz ls C K P hl kk => lv_aload_nN C.1 C.2.1 hd rfl (hl.2.2 _ _ hl0) (kk ls hl)) k
theorem wp_aloadN {i : Nat} (hd : decode M.2.1 pc = .ok (.aload i, 2)) (hl0 : L[i]? = some (some .null)) (k : fp_wp G d M (pc + 2) L (.null :: rest) h Q) : fp_wp G d M pc L (rest) h Q := fp_lift (fun p l e R s m args below meth c H locs cells slots Qz ls C K P hl kk => lv_aloadN C.1 C.2.1 hd (hl.2.2 _ _ hl0) (kk ls hl)) k
theorem wp_istore_n {k0 : Fin 4} {x : Int32} (hd : decode M.2.1 pc = .ok (.istore_n k0, 1)) (hi : (k0 : Nat) < L.length) (ho : fp_ok L (k0 : Nat) = true) (k : fp_wp G d M (pc + 1) (L.set (k0 : Nat) (some (.int x))) rest h Q) : fp_wp G d M pc L (.int x :: rest) h Q := fp_lift (fun p l e R s m args below meth c H locs cells slots Qz ls C K P hl kk => lv_istore_n C.1 C.2.1 hd rfl hl.has hi rfl (fun ls2 h2 => kk ls2 (fp_L.set1 ho h2))) k
theorem wp_istore {i : Nat} {x : Int32} (hd : decode M.2.1 pc = .ok (.istore i, 2)) (hi : i < L.length) (ho : fp_ok L i = true) (k : fp_wp G d M (pc + 2) (L.set i (some (.int x))) rest h Q) : fp_wp G d M pc L (.int x :: rest) h Q := fp_lift (fun p l e R s m args below meth c H locs cells slots Qz ls C K P hl kk => lv_istore C.1 C.2.1 hd hl.has hi rfl (fun ls2 h2 => kk ls2 (fp_L.set1 ho h2))) k
theorem wp_lstore_n {k0 : Fin 4} {x : Int64} (hd : decode M.2.1 pc = .ok (.lstore_n k0, 1)) (hi : (k0 : Nat) + 1 < L.length) (ho : fp_ok L (k0 : Nat) = true) (k : fp_wp G d M (pc + 1) ((L.set (k0 : Nat) (some (.long x))).set ((k0 : Nat) + 1) none) rest h Q) : fp_wp G d M pc L (.long x :: rest) h Q := fp_lift (fun p l e R s m args below meth c H locs cells slots Qz ls C K P hl kk => lv_lstore_n C.1 C.2.1 hd rfl hl.has hi rfl (fun ls2 h2 => kk ls2 (fp_L.set2 ho h2))) k
theorem wp_lstore {i : Nat} {x : Int64} (hd : decode M.2.1 pc = .ok (.lstore i, 2)) (hi : i + 1 < L.length) (ho : fp_ok L i = true) (k : fp_wp G d M (pc + 2) ((L.set i (some (.long x))).set (i + 1) none) rest h Q) : fp_wp G d M pc L (.long x :: rest) h Q := fp_lift (fun p l e R s m args below meth c H locs cells slots Qz ls C K P hl kk => lv_lstore C.1 C.2.1 hd hl.has hi rfl (fun ls2 h2 => kk ls2 (fp_L.set2 ho h2))) k
theorem wp_astore_n {k0 : Fin 4} {x : Nat} (hd : decode M.2.1 pc = .ok (.astore_n k0, 1)) (hi : (k0 : Nat) < L.length) (ho : fp_ok L (k0 : Nat) = true) (k : fp_wp G d M (pc + 1) (L.set (k0 : Nat) (some (.ref x))) rest h Q) : fp_wp G d M pc L (.ref x :: rest) h Q := fp_lift (fun p l e R s m args below meth c H locs cells slots Qz ls C K P hl kk => lv_astore_n C.1 C.2.1 hd rfl hl.has hi rfl (fun ls2 h2 => kk ls2 (fp_L.set1 ho h2))) k
theorem wp_astore {i : Nat} {x : Nat} (hd : decode M.2.1 pc = .ok (.astore i, 2)) (hi : i < L.length) (ho : fp_ok L i = true) (k : fp_wp G d M (pc + 2) (L.set i (some (.ref x))) rest h Q) : fp_wp G d M pc L (.ref x :: rest) h Q := fp_lift (fun p l e R s m args below meth c H locs cells slots Qz ls C K P hl kk => lv_astore C.1 C.2.1 hd hl.has hi rfl (fun ls2 h2 => kk ls2 (fp_L.set1 ho h2))) k
theorem wp_astore_nN {k0 : Fin 4} (hd : decode M.2.1 pc = .ok (.astore_n k0, 1)) (hi : (k0 : Nat) < L.length) (ho : fp_ok L (k0 : Nat) = true) (k : fp_wp G d M (pc + 1) (L.set (k0 : Nat) (some (.null))) rest h Q) : fp_wp G d M pc L (.null :: rest) h Q := fp_lift (fun p l e R s m args below meth c H locs cells slots Qz ls C K P hl kk => lv_astore_nN C.1 C.2.1 hd rfl hl.has hi rfl (fun ls2 h2 => kk ls2 (fp_L.set1 ho h2))) k
theorem wp_astoreN {i : Nat} (hd : decode M.2.1 pc = .ok (.astore i, 2)) (hi : i < L.length) (ho : fp_ok L i = true) (k : fp_wp G d M (pc + 2) (L.set i (some (.null))) rest h Q) : fp_wp G d M pc L (.null :: rest) h Q := fp_lift (fun p l e R s m args below meth c H locs cells slots Qz ls C K P hl kk => lv_astoreN C.1 C.2.1 hd hl.has hi rfl (fun ls2 h2 => kk ls2 (fp_L.set1 ho h2))) k
theorem fp_lv_place {L : List (Option Value)} {i : Nat} {v : Value} (h : L[i]? = some (some v)) : ∃ k : Nat, (fp_lv L)[k]? = some (i, v) := List.getElem?_of_mem (fp_lv_mem.mpr h)
theorem wp_iinc {i : Nat} {n : Int} {x : Int32} (hd : decode M.2.1 pc = .ok (.iinc i n, 3)) (hl0 : L[i]? = some (some (.int x))) (ho : fp_ok L i = true) (k : fp_wp G d M (pc + 3) (L.set i (some (.int (x + Int32.ofInt n)))) rest h Q) : fp_wp G d M pc L rest h Q := by
  obtain ⟨kp, hkp⟩ := fp_lv_place hl0
  exact fp_lift (fun p l e R s m args below meth c H locs cells slots Qz ls C K P hl kk => lv_iinc C.1 C.2.1 hd hl.has hkp rfl (List.getElem?_eq_some_iff.mp hl0).1 rfl (fun ls2 h2 => kk ls2 (fp_L.set1 ho h2))) k
theorem wp_iadd {x y : Int32} (hd : decode M.2.1 pc = .ok (.iadd, 1)) (k : fp_wp G d M (pc + 1) L (.int (x + y) :: rest) h Q) : fp_wp G d M pc L (.int y :: .int x :: rest) h Q := fp_lift (fun p l e R s m args below meth c H locs cells slots Qz ls C K P hl kk => lv_iadd C.1 C.2.1 hd (kk ls hl)) k
theorem wp_isub {x y : Int32} (hd : decode M.2.1 pc = .ok (.isub, 1)) (k : fp_wp G d M (pc + 1) L (.int (x - y) :: rest) h Q) : fp_wp G d M pc L (.int y :: .int x :: rest) h Q := fp_lift (fun p l e R s m args below meth c H locs cells slots Qz ls C K P hl kk => lv_isub C.1 C.2.1 hd (kk ls hl)) k
theorem wp_imul {x y : Int32} (hd : decode M.2.1 pc = .ok (.imul, 1)) (k : fp_wp G d M (pc + 1) L (.int (x * y) :: rest) h Q) : fp_wp G d M pc L (.int y :: .int x :: rest) h Q := fp_lift (fun p l e R s m args below meth c H locs cells slots Qz ls C K P hl kk => lv_imul C.1 C.2.1 hd (kk ls hl)) k
theorem wp_iand {x y : Int32} (hd : decode M.2.1 pc = .ok (.iand, 1)) (k : fp_wp G d M (pc + 1) L (.int (x &&& y) :: rest) h Q) : fp_wp G d M pc L (.int y :: .int x :: rest) h Q := fp_lift (fun p l e R s m args below meth c H locs cells slots Qz ls C K P hl kk => lv_iand C.1 C.2.1 hd (kk ls hl)) k
theorem wp_ior {x y : Int32} (hd : decode M.2.1 pc = .ok (.ior, 1)) (k : fp_wp G d M (pc + 1) L (.int (x ||| y) :: rest) h Q) : fp_wp G d M pc L (.int y :: .int x :: rest) h Q := fp_lift (fun p l e R s m args below meth c H locs cells slots Qz ls C K P hl kk => lv_ior C.1 C.2.1 hd (kk ls hl)) k
theorem wp_ixor {x y : Int32} (hd : decode M.2.1 pc = .ok (.ixor, 1)) (k : fp_wp G d M (pc + 1) L (.int (x ^^^ y) :: rest) h Q) : fp_wp G d M pc L (.int y :: .int x :: rest) h Q := fp_lift (fun p l e R s m args below meth c H locs cells slots Qz ls C K P hl kk => lv_ixor C.1 C.2.1 hd (kk ls hl)) k
theorem wp_ishl {x y : Int32} (hd : decode M.2.1 pc = .ok (.ishl, 1)) (k : fp_wp G d M (pc + 1) L (.int (x <<< (y &&& 31)) :: rest) h Q) : fp_wp G d M pc L (.int y :: .int x :: rest) h Q := fp_lift (fun p l e R s m args below meth c H locs cells slots Qz ls C K P hl kk => lv_ishl C.1 C.2.1 hd (kk ls hl)) k
theorem wp_ishr {x y : Int32} (hd : decode M.2.1 pc = .ok (.ishr, 1)) (k : fp_wp G d M (pc + 1) L (.int (x >>> (y &&& 31)) :: rest) h Q) : fp_wp G d M pc L (.int y :: .int x :: rest) h Q := fp_lift (fun p l e R s m args below meth c H locs cells slots Qz ls C K P hl kk => lv_ishr C.1 C.2.1 hd (kk ls hl)) k
theorem wp_iushr {x y : Int32} (hd : decode M.2.1 pc = .ok (.iushr, 1)) (k : fp_wp G d M (pc + 1) L (.int ((x.toUInt32 >>> (y.toUInt32 &&& Int32.toUInt32 31)).toInt32) :: rest) h Q) : fp_wp G d M pc L (.int y :: .int x :: rest) h Q := fp_lift (fun p l e R s m args below meth c H locs cells slots Qz ls C K P hl kk => lv_iushr C.1 C.2.1 hd rfl (kk ls hl)) k
theorem wp_idiv {x y : Int32} (hd : decode M.2.1 pc = .ok (.idiv, 1)) (hne : ¬ y = 0) (k : fp_wp G d M (pc + 1) L (.int (x / y) :: rest) h Q) : fp_wp G d M pc L (.int y :: .int x :: rest) h Q := fp_lift (fun p l e R s m args below meth c H locs cells slots Qz ls C K P hl kk => lv_idiv C.1 C.2.1 hd hne (kk ls hl)) k
theorem wp_irem {x y : Int32} (hd : decode M.2.1 pc = .ok (.irem, 1)) (hne : ¬ y = 0) (k : fp_wp G d M (pc + 1) L (.int (x - x / y * y) :: rest) h Q) : fp_wp G d M pc L (.int y :: .int x :: rest) h Q := fp_lift (fun p l e R s m args below meth c H locs cells slots Qz ls C K P hl kk => lv_irem C.1 C.2.1 hd hne (kk ls hl)) k
theorem wp_ineg {x : Int32} (hd : decode M.2.1 pc = .ok (.ineg, 1)) (k : fp_wp G d M (pc + 1) L (.int (-x) :: rest) h Q) : fp_wp G d M pc L (.int x :: rest) h Q := fp_lift (fun p l e R s m args below meth c H locs cells slots Qz ls C K P hl kk => lv_ineg C.1 C.2.1 hd (kk ls hl)) k
theorem wp_ladd {x y : Int64} (hd : decode M.2.1 pc = .ok (.ladd, 1)) (k : fp_wp G d M (pc + 1) L (.long (x + y) :: rest) h Q) : fp_wp G d M pc L (.long y :: .long x :: rest) h Q := fp_lift (fun p l e R s m args below meth c H locs cells slots Qz ls C K P hl kk => lv_ladd C.1 C.2.1 hd (kk ls hl)) k
theorem wp_lsub {x y : Int64} (hd : decode M.2.1 pc = .ok (.lsub, 1)) (k : fp_wp G d M (pc + 1) L (.long (x - y) :: rest) h Q) : fp_wp G d M pc L (.long y :: .long x :: rest) h Q := fp_lift (fun p l e R s m args below meth c H locs cells slots Qz ls C K P hl kk => lv_lsub C.1 C.2.1 hd (kk ls hl)) k
theorem wp_lmul {x y : Int64} (hd : decode M.2.1 pc = .ok (.lmul, 1)) (k : fp_wp G d M (pc + 1) L (.long (x * y) :: rest) h Q) : fp_wp G d M pc L (.long y :: .long x :: rest) h Q := fp_lift (fun p l e R s m args below meth c H locs cells slots Qz ls C K P hl kk => lv_lmul C.1 C.2.1 hd (kk ls hl)) k
theorem wp_land {x y : Int64} (hd : decode M.2.1 pc = .ok (.land, 1)) (k : fp_wp G d M (pc + 1) L (.long (x &&& y) :: rest) h Q) : fp_wp G d M pc L (.long y :: .long x :: rest) h Q := fp_lift (fun p l e R s m args below meth c H locs cells slots Qz ls C K P hl kk => lv_land C.1 C.2.1 hd (kk ls hl)) k
theorem wp_lor {x y : Int64} (hd : decode M.2.1 pc = .ok (.lor, 1)) (k : fp_wp G d M (pc + 1) L (.long (x ||| y) :: rest) h Q) : fp_wp G d M pc L (.long y :: .long x :: rest) h Q := fp_lift (fun p l e R s m args below meth c H locs cells slots Qz ls C K P hl kk => lv_lor C.1 C.2.1 hd (kk ls hl)) k
theorem wp_lxor {x y : Int64} (hd : decode M.2.1 pc = .ok (.lxor, 1)) (k : fp_wp G d M (pc + 1) L (.long (x ^^^ y) :: rest) h Q) : fp_wp G d M pc L (.long y :: .long x :: rest) h Q := fp_lift (fun p l e R s m args below meth c H locs cells slots Qz ls C K P hl kk => lv_lxor C.1 C.2.1 hd (kk ls hl)) k
theorem wp_lushr {x : Int64} {y : Int32} (hd : decode M.2.1 pc = .ok (.lushr, 1)) (k : fp_wp G d M (pc + 1) L (.long ((x.toUInt64 >>> (y.toInt64.toUInt64 &&& Int64.toUInt64 63)).toInt64) :: rest) h Q) : fp_wp G d M pc L (.int y :: .long x :: rest) h Q := fp_lift (fun p l e R s m args below meth c H locs cells slots Qz ls C K P hl kk => lv_lushr C.1 C.2.1 hd rfl (kk ls hl)) k
theorem wp_lshl {x : Int64} {y : Int32} (hd : decode M.2.1 pc = .ok (.lshl, 1)) (k : fp_wp G d M (pc + 1) L (.long (x <<< (y.toInt64 &&& 63)) :: rest) h Q) : fp_wp G d M pc L (.int y :: .long x :: rest) h Q := fp_lift (fun p l e R s m args below meth c H locs cells slots Qz ls C K P hl kk => lv_lshl C.1 C.2.1 hd rfl (kk ls hl)) k
theorem wp_lshr {x : Int64} {y : Int32} (hd : decode M.2.1 pc = .ok (.lshr, 1)) (k : fp_wp G d M (pc + 1) L (.long (x >>> (y.toInt64 &&& 63)) :: rest) h Q) : fp_wp G d M pc L (.int y :: .long x :: rest) h Q := fp_lift (fun p l e R s m args below meth c H locs cells slots Qz ls C K P hl kk => lv_lshr C.1 C.2.1 hd rfl (kk ls hl)) k
theorem wp_lcmp {x y : Int64} (hd : decode M.2.1 pc = .ok (.lcmp, 1)) (k : fp_wp G d M (pc + 1) L (.int (lg_cmp x y) :: rest) h Q) : fp_wp G d M pc L (.long y :: .long x :: rest) h Q := fp_lift (fun p l e R s m args below meth c H locs cells slots Qz ls C K P hl kk => W.lcmp C.1 C.2.1 hd (kk ls hl)) k
theorem wp_i2l {x : Int32} (hd : decode M.2.1 pc = .ok (.i2l, 1)) (k : fp_wp G d M (pc + 1) L (.long x.toInt64 :: rest) h Q) : fp_wp G d M pc L (.int x :: rest) h Q := fp_lift (fun p l e R s m args below meth c H locs cells slots Qz ls C K P hl kk => lv_i2l C.1 C.2.1 hd rfl (kk ls hl)) k
theorem wp_l2i {x : Int64} (hd : decode M.2.1 pc = .ok (.l2i, 1)) (k : fp_wp G d M (pc + 1) L (.int x.toInt32 :: rest) h Q) : fp_wp G d M pc L (.long x :: rest) h Q := fp_lift (fun p l e R s m args below meth c H locs cells slots Qz ls C K P hl kk => lv_l2i C.1 C.2.1 hd rfl (kk ls hl)) k
theorem wp_i2b {x : Int32} (hd : decode M.2.1 pc = .ok (.i2b, 1)) (k : fp_wp G d M (pc + 1) L (.int x.toInt8.toInt32 :: rest) h Q) : fp_wp G d M pc L (.int x :: rest) h Q := fp_lift (fun p l e R s m args below meth c H locs cells slots Qz ls C K P hl kk => lv_i2b C.1 C.2.1 hd rfl (kk ls hl)) k
theorem wp_dup {va : Value} (hd : decode M.2.1 pc = .ok (.dup, 1)) (hva : va.category = 1) (k : fp_wp G d M (pc + 1) L (va :: va :: rest) h Q) : fp_wp G d M pc L (va :: rest) h Q := fp_lift (fun p l e R s m args below meth c H locs cells slots Qz ls C K P hl kk => lv_dup C.1 C.2.1 hd hva (kk ls hl)) k
theorem wp_pop {va : Value} (hd : decode M.2.1 pc = .ok (.pop, 1)) (hva : va.category = 1) (k : fp_wp G d M (pc + 1) L (rest) h Q) : fp_wp G d M pc L (va :: rest) h Q := fp_lift (fun p l e R s m args below meth c H locs cells slots Qz ls C K P hl kk => lv_pop C.1 C.2.1 hd hva (kk ls hl)) k
theorem wp_dup_x1 {va vb : Value} (hd : decode M.2.1 pc = .ok (.dup_x1, 1)) (hva : va.category = 1) (hvb : vb.category = 1) (k : fp_wp G d M (pc + 1) L (va :: vb :: va :: rest) h Q) : fp_wp G d M pc L (va :: vb :: rest) h Q := fp_lift (fun p l e R s m args below meth c H locs cells slots Qz ls C K P hl kk => lv_dup_x1 C.1 C.2.1 hd hva hvb (kk ls hl)) k
theorem wp_dup_x2 {va vb vd : Value} (hd : decode M.2.1 pc = .ok (.dup_x2, 1)) (hva : va.category = 1) (hvb : vb.category = 1) (hvd : vd.category = 1) (k : fp_wp G d M (pc + 1) L (va :: vb :: vd :: va :: rest) h Q) : fp_wp G d M pc L (va :: vb :: vd :: rest) h Q := fp_lift (fun p l e R s m args below meth c H locs cells slots Qz ls C K P hl kk => lv_dup_x2 C.1 C.2.1 hd hva hvb hvd (kk ls hl)) k
theorem wp_dup2_11 {va vb : Value} (hd : decode M.2.1 pc = .ok (.dup2, 1)) (hva : va.category = 1) (hvb : vb.category = 1) (k : fp_wp G d M (pc + 1) L (va :: vb :: va :: vb :: rest) h Q) : fp_wp G d M pc L (va :: vb :: rest) h Q := fp_lift (fun p l e R s m args below meth c H locs cells slots Qz ls C K P hl kk => lv_dup2_11 C.1 C.2.1 hd hva hvb (kk ls hl)) k
theorem wp_dup2_2 {va : Value} (hd : decode M.2.1 pc = .ok (.dup2, 1)) (hva : va.category = 2) (k : fp_wp G d M (pc + 1) L (va :: va :: rest) h Q) : fp_wp G d M pc L (va :: rest) h Q := fp_lift (fun p l e R s m args below meth c H locs cells slots Qz ls C K P hl kk => lv_dup2_2 C.1 C.2.1 hd hva (kk ls hl)) k
theorem wp_pop2_2 {va : Value} (hd : decode M.2.1 pc = .ok (.pop2, 1)) (hva : va.category = 2) (k : fp_wp G d M (pc + 1) L (rest) h Q) : fp_wp G d M pc L (va :: rest) h Q := fp_lift (fun p l e R s m args below meth c H locs cells slots Qz ls C K P hl kk => lv_pop2_2 C.1 C.2.1 hd hva (kk ls hl)) k
theorem wp_if_eq {x : Int32} {off : Int} {tgt : Nat} (hd : decode M.2.1 pc = .ok (.ifCond .eq off, 3)) (ht : (pc : Int) + off = (tgt : Int)) (kt : (x = 0) → fp_wp G d M tgt L rest h Q) (kf : ¬ (x = 0) → fp_wp G d M (pc + 3) L rest h Q) : fp_wp G d M pc L (.int x :: rest) h Q := by
  by_cases hc : (x = 0)
  · exact fp_lift (fun p l e R s m args below meth c H locs cells slots Qz ls C K P hl kk => lv_if_eq C.1 C.2.1 hd ht (fun _ => kk ls hl) (fun n => absurd hc n)) (kt hc)
  · exact fp_lift (fun p l e R s m args below meth c H locs cells slots Qz ls C K P hl kk => lv_if_eq C.1 C.2.1 hd ht (fun y => absurd y hc) (fun _ => kk ls hl)) (kf hc)
theorem wp_if_lt {x : Int32} {off : Int} {tgt : Nat} (hd : decode M.2.1 pc = .ok (.ifCond .lt off, 3)) (ht : (pc : Int) + off = (tgt : Int)) (kt : (x < 0) → fp_wp G d M tgt L rest h Q) (kf : ¬ (x < 0) → fp_wp G d M (pc + 3) L rest h Q) : fp_wp G d M pc L (.int x :: rest) h Q := by
  by_cases hc : (x < 0)
  · exact fp_lift (fun p l e R s m args below meth c H locs cells slots Qz ls C K P hl kk => lv_if_lt C.1 C.2.1 hd ht (fun _ => kk ls hl) (fun n => absurd hc n)) (kt hc)
  · exact fp_lift (fun p l e R s m args below meth c H locs cells slots Qz ls C K P hl kk => lv_if_lt C.1 C.2.1 hd ht (fun y => absurd y hc) (fun _ => kk ls hl)) (kf hc)
theorem wp_if_ge {x : Int32} {off : Int} {tgt : Nat} (hd : decode M.2.1 pc = .ok (.ifCond .ge off, 3)) (ht : (pc : Int) + off = (tgt : Int)) (kt : (0 ≤ x) → fp_wp G d M tgt L rest h Q) (kf : ¬ (0 ≤ x) → fp_wp G d M (pc + 3) L rest h Q) : fp_wp G d M pc L (.int x :: rest) h Q := by
  by_cases hc : (0 ≤ x)
  · exact fp_lift (fun p l e R s m args below meth c H locs cells slots Qz ls C K P hl kk => lv_if_ge C.1 C.2.1 hd ht (fun _ => kk ls hl) (fun n => absurd hc n)) (kt hc)
  · exact fp_lift (fun p l e R s m args below meth c H locs cells slots Qz ls C K P hl kk => lv_if_ge C.1 C.2.1 hd ht (fun y => absurd y hc) (fun _ => kk ls hl)) (kf hc)
theorem wp_if_gt {x : Int32} {off : Int} {tgt : Nat} (hd : decode M.2.1 pc = .ok (.ifCond .gt off, 3)) (ht : (pc : Int) + off = (tgt : Int)) (kt : (0 < x) → fp_wp G d M tgt L rest h Q) (kf : ¬ (0 < x) → fp_wp G d M (pc + 3) L rest h Q) : fp_wp G d M pc L (.int x :: rest) h Q := by
  by_cases hc : (0 < x)
  · exact fp_lift (fun p l e R s m args below meth c H locs cells slots Qz ls C K P hl kk => lv_if_gt C.1 C.2.1 hd ht (fun _ => kk ls hl) (fun n => absurd hc n)) (kt hc)
  · exact fp_lift (fun p l e R s m args below meth c H locs cells slots Qz ls C K P hl kk => lv_if_gt C.1 C.2.1 hd ht (fun y => absurd y hc) (fun _ => kk ls hl)) (kf hc)
theorem wp_if_le {x : Int32} {off : Int} {tgt : Nat} (hd : decode M.2.1 pc = .ok (.ifCond .le off, 3)) (ht : (pc : Int) + off = (tgt : Int)) (kt : (x ≤ 0) → fp_wp G d M tgt L rest h Q) (kf : ¬ (x ≤ 0) → fp_wp G d M (pc + 3) L rest h Q) : fp_wp G d M pc L (.int x :: rest) h Q := by
  by_cases hc : (x ≤ 0)
  · exact fp_lift (fun p l e R s m args below meth c H locs cells slots Qz ls C K P hl kk => lv_if_le C.1 C.2.1 hd ht (fun _ => kk ls hl) (fun n => absurd hc n)) (kt hc)
  · exact fp_lift (fun p l e R s m args below meth c H locs cells slots Qz ls C K P hl kk => lv_if_le C.1 C.2.1 hd ht (fun y => absurd y hc) (fun _ => kk ls hl)) (kf hc)
theorem wp_icmp_eq {x y : Int32} {off : Int} {tgt : Nat} (hd : decode M.2.1 pc = .ok (.if_icmp .eq off, 3)) (ht : (pc : Int) + off = (tgt : Int)) (kt : (x = y) → fp_wp G d M tgt L rest h Q) (kf : ¬ (x = y) → fp_wp G d M (pc + 3) L rest h Q) : fp_wp G d M pc L (.int y :: .int x :: rest) h Q := by
  by_cases hc : (x = y)
  · exact fp_lift (fun p l e R s m args below meth c H locs cells slots Qz ls C K P hl kk => lv_icmp_eq C.1 C.2.1 hd ht (fun _ => kk ls hl) (fun n => absurd hc n)) (kt hc)
  · exact fp_lift (fun p l e R s m args below meth c H locs cells slots Qz ls C K P hl kk => lv_icmp_eq C.1 C.2.1 hd ht (fun y => absurd y hc) (fun _ => kk ls hl)) (kf hc)
theorem wp_icmp_lt {x y : Int32} {off : Int} {tgt : Nat} (hd : decode M.2.1 pc = .ok (.if_icmp .lt off, 3)) (ht : (pc : Int) + off = (tgt : Int)) (kt : (x < y) → fp_wp G d M tgt L rest h Q) (kf : ¬ (x < y) → fp_wp G d M (pc + 3) L rest h Q) : fp_wp G d M pc L (.int y :: .int x :: rest) h Q := by
  by_cases hc : (x < y)
  · exact fp_lift (fun p l e R s m args below meth c H locs cells slots Qz ls C K P hl kk => lv_icmp_lt C.1 C.2.1 hd ht (fun _ => kk ls hl) (fun n => absurd hc n)) (kt hc)
  · exact fp_lift (fun p l e R s m args below meth c H locs cells slots Qz ls C K P hl kk => lv_icmp_lt C.1 C.2.1 hd ht (fun y => absurd y hc) (fun _ => kk ls hl)) (kf hc)
theorem wp_icmp_ge {x y : Int32} {off : Int} {tgt : Nat} (hd : decode M.2.1 pc = .ok (.if_icmp .ge off, 3)) (ht : (pc : Int) + off = (tgt : Int)) (kt : (y ≤ x) → fp_wp G d M tgt L rest h Q) (kf : ¬ (y ≤ x) → fp_wp G d M (pc + 3) L rest h Q) : fp_wp G d M pc L (.int y :: .int x :: rest) h Q := by
  by_cases hc : (y ≤ x)
  · exact fp_lift (fun p l e R s m args below meth c H locs cells slots Qz ls C K P hl kk => lv_icmp_ge C.1 C.2.1 hd ht (fun _ => kk ls hl) (fun n => absurd hc n)) (kt hc)
  · exact fp_lift (fun p l e R s m args below meth c H locs cells slots Qz ls C K P hl kk => lv_icmp_ge C.1 C.2.1 hd ht (fun y => absurd y hc) (fun _ => kk ls hl)) (kf hc)
theorem wp_icmp_gt {x y : Int32} {off : Int} {tgt : Nat} (hd : decode M.2.1 pc = .ok (.if_icmp .gt off, 3)) (ht : (pc : Int) + off = (tgt : Int)) (kt : (y < x) → fp_wp G d M tgt L rest h Q) (kf : ¬ (y < x) → fp_wp G d M (pc + 3) L rest h Q) : fp_wp G d M pc L (.int y :: .int x :: rest) h Q := by
  by_cases hc : (y < x)
  · exact fp_lift (fun p l e R s m args below meth c H locs cells slots Qz ls C K P hl kk => lv_icmp_gt C.1 C.2.1 hd ht (fun _ => kk ls hl) (fun n => absurd hc n)) (kt hc)
  · exact fp_lift (fun p l e R s m args below meth c H locs cells slots Qz ls C K P hl kk => lv_icmp_gt C.1 C.2.1 hd ht (fun y => absurd y hc) (fun _ => kk ls hl)) (kf hc)
theorem wp_icmp_le {x y : Int32} {off : Int} {tgt : Nat} (hd : decode M.2.1 pc = .ok (.if_icmp .le off, 3)) (ht : (pc : Int) + off = (tgt : Int)) (kt : (x ≤ y) → fp_wp G d M tgt L rest h Q) (kf : ¬ (x ≤ y) → fp_wp G d M (pc + 3) L rest h Q) : fp_wp G d M pc L (.int y :: .int x :: rest) h Q := by
  by_cases hc : (x ≤ y)
  · exact fp_lift (fun p l e R s m args below meth c H locs cells slots Qz ls C K P hl kk => lv_icmp_le C.1 C.2.1 hd ht (fun _ => kk ls hl) (fun n => absurd hc n)) (kt hc)
  · exact fp_lift (fun p l e R s m args below meth c H locs cells slots Qz ls C K P hl kk => lv_icmp_le C.1 C.2.1 hd ht (fun y => absurd y hc) (fun _ => kk ls hl)) (kf hc)
theorem wp_if_ne {x : Int32} {off : Int} {tgt : Nat} (hd : decode M.2.1 pc = .ok (.ifCond .ne off, 3)) (ht : (pc : Int) + off = (tgt : Int)) (kt : ¬ x = 0 → fp_wp G d M tgt L rest h Q) (kf : x = 0 → fp_wp G d M (pc + 3) L rest h Q) : fp_wp G d M pc L (.int x :: rest) h Q := by
  by_cases hc : x = 0
  · exact fp_lift (fun p l e R s m args below meth c H locs cells slots Qz ls C K P hl kk => lv_if_ne C.1 C.2.1 hd ht (fun n => absurd hc n) (fun _ => kk ls hl)) (kf hc)
  · exact fp_lift (fun p l e R s m args below meth c H locs cells slots Qz ls C K P hl kk => lv_if_ne C.1 C.2.1 hd ht (fun _ => kk ls hl) (fun y => absurd y hc)) (kt hc)
theorem wp_icmp_ne {x y : Int32} {off : Int} {tgt : Nat} (hd : decode M.2.1 pc = .ok (.if_icmp .ne off, 3)) (ht : (pc : Int) + off = (tgt : Int)) (kt : ¬ x = y → fp_wp G d M tgt L rest h Q) (kf : x = y → fp_wp G d M (pc + 3) L rest h Q) : fp_wp G d M pc L (.int y :: .int x :: rest) h Q := by
  by_cases hc : x = y
  · exact fp_lift (fun p l e R s m args below meth c H locs cells slots Qz ls C K P hl kk => lv_icmp_ne C.1 C.2.1 hd ht (fun n => absurd hc n) (fun _ => kk ls hl)) (kf hc)
  · exact fp_lift (fun p l e R s m args below meth c H locs cells slots Qz ls C K P hl kk => lv_icmp_ne C.1 C.2.1 hd ht (fun _ => kk ls hl) (fun y => absurd y hc)) (kt hc)
theorem wp_acmp_eq {rx ry : Option Nat} {off : Int} {tgt : Nat} (hd : decode M.2.1 pc = .ok (.if_acmp .eq off, 3)) (ht : (pc : Int) + off = (tgt : Int)) (kt : rx = ry → fp_wp G d M tgt L rest h Q) (kf : ¬ rx = ry → fp_wp G d M (pc + 3) L rest h Q) : fp_wp G d M pc L (va_rf ry :: va_rf rx :: rest) h Q := by
  by_cases hc : rx = ry
  · exact fp_lift (fun p l e R s m args below meth c H locs cells slots Qz ls C K P hl kk => lv_acmp_eq C.1 C.2.1 hd ht (fun _ => kk ls hl) (fun n => absurd hc n)) (kt hc)
  · exact fp_lift (fun p l e R s m args below meth c H locs cells slots Qz ls C K P hl kk => lv_acmp_eq C.1 C.2.1 hd ht (fun y => absurd y hc) (fun _ => kk ls hl)) (kf hc)
theorem wp_acmp_ne {rx ry : Option Nat} {off : Int} {tgt : Nat} (hd : decode M.2.1 pc = .ok (.if_acmp .ne off, 3)) (ht : (pc : Int) + off = (tgt : Int)) (kt : ¬ rx = ry → fp_wp G d M tgt L rest h Q) (kf : rx = ry → fp_wp G d M (pc + 3) L rest h Q) : fp_wp G d M pc L (va_rf ry :: va_rf rx :: rest) h Q := by
  by_cases hc : rx = ry
  · exact fp_lift (fun p l e R s m args below meth c H locs cells slots Qz ls C K P hl kk => lv_acmp_ne C.1 C.2.1 hd ht (fun n => absurd hc n) (fun _ => kk ls hl)) (kf hc)
  · exact fp_lift (fun p l e R s m args below meth c H locs cells slots Qz ls C K P hl kk => lv_acmp_ne C.1 C.2.1 hd ht (fun _ => kk ls hl) (fun y => absurd y hc)) (kt hc)
theorem wp_goto {off : Int} {tgt : Nat} (hd : decode M.2.1 pc = .ok (.goto off, 3)) (ht : (pc : Int) + off = (tgt : Int)) (k : fp_wp G d M tgt L rest h Q) : fp_wp G d M pc L rest h Q := fp_lift (fun p l e R s m args below meth c H locs cells slots Qz ls C K P hl kk => lv_goto C.1 C.2.1 hd ht (kk ls hl)) k
theorem wp_ifnonnull {x : Nat} {off : Int} {tgt : Nat} (hd : decode M.2.1 pc = .ok (.ifnonnull off, 3)) (ht : (pc : Int) + off = (tgt : Int)) (k : fp_wp G d M tgt L rest h Q) : fp_wp G d M pc L (.ref x :: rest) h Q := fp_lift (fun p l e R s m args below meth c H locs cells slots Qz ls C K P hl kk => lv_ifnonnull C.1 C.2.1 hd ht (kk ls hl)) k
theorem wp_ifnull {x : Nat} {off : Int} (hd : decode M.2.1 pc = .ok (.ifnull off, 3)) (k : fp_wp G d M (pc + 3) L rest h Q) : fp_wp G d M pc L (.ref x :: rest) h Q := fp_lift (fun p l e R s m args below meth c H locs cells slots Qz ls C K P hl kk => lv_ifnull C.1 C.2.1 hd (kk ls hl)) k
theorem wp_ifnullN {off : Int} {tgt : Nat} (hd : decode M.2.1 pc = .ok (.ifnull off, 3)) (ht : (pc : Int) + off = (tgt : Int)) (k : fp_wp G d M tgt L rest h Q) : fp_wp G d M pc L (.null :: rest) h Q := fp_lift (fun p l e R s m args below meth c H locs cells slots Qz ls C K P hl kk => lv_ifnullN C.1 C.2.1 hd ht (kk ls hl)) k
theorem wp_ifnonnullN {off : Int} (hd : decode M.2.1 pc = .ok (.ifnonnull off, 3)) (k : fp_wp G d M (pc + 3) L rest h Q) : fp_wp G d M pc L (.null :: rest) h Q := fp_lift (fun p l e R s m args below meth c H locs cells slots Qz ls C K P hl kk => lv_ifnonnullN C.1 C.2.1 hd (kk ls hl)) k
theorem wp_lookup {dflt : Int} {ps : Array (Int × Int)} {len : Nat} {x : Int32} {off : Int} {tgt : Nat} (hd : decode M.2.1 pc = .ok (.lookupswitch dflt ps, len)) (hp : (ps.toList.zip (ps.toList.drop 1)).all (fun (a, next) => a.1 < next.1) = true) (ho : Op.lookupswitch.offset ps.toList dflt x.toInt = off) (ht : (pc : Int) + off = (tgt : Int)) (k : fp_wp G d M tgt L rest h Q) : fp_wp G d M pc L (.int x :: rest) h Q := fp_lift (fun p l e R s m args below meth c H locs cells slots Qz ls C K P hl kk => lv_lookup C.1 C.2.1 hd hp ho ht (kk ls hl)) k
theorem wp_tableOut {dflt lo hi : Int} {offs : Array Int} {len : Nat} {x : Int32} {tgt : Nat} (hd : decode M.2.1 pc = .ok (.tableswitch dflt lo hi offs, len)) (hx : x.toInt < lo ∨ hi < x.toInt) (ht : (pc : Int) + dflt = (tgt : Int)) (k : fp_wp G d M tgt L rest h Q) : fp_wp G d M pc L (.int x :: rest) h Q := fp_lift (fun p l e R s m args below meth c H locs cells slots Qz ls C K P hl kk => lv_tableOut C.1 C.2.1 hd hx ht (kk ls hl)) k
theorem wp_tableIn {dflt lo hi : Int} {offs : Array Int} {len : Nat} {x : Int32} {off : Int} {tgt : Nat} (hd : decode M.2.1 pc = .ok (.tableswitch dflt lo hi offs, len)) (h1 : ¬ x.toInt < lo) (h2 : ¬ hi < x.toInt) (ho : offs[(x.toInt - lo).toNat]? = some off) (ht : (pc : Int) + off = (tgt : Int)) (k : fp_wp G d M tgt L rest h Q) : fp_wp G d M pc L (.int x :: rest) h Q := fp_lift (fun p l e R s m args below meth c H locs cells slots Qz ls C K P hl kk => lv_tableIn C.1 C.2.1 hd h1 h2 ho ht (kk ls hl)) k
/-! reads and writes -/
def fp_cl (ci : Nat) (C : String) (T : u_T) (N : Nat) (ty : Nat → FieldType) : Prop := vwCl[ci]? = some (C, T, N) ∧ (∀ w ∈ u_ws C T N, w ∈ fp_tw) ∧ (∀ k, k < N → parseFieldDescriptor (T k).2.2.1 = some (ty k)) ∧ ∀ a, a < N → ∀ b, b < N → a ≠ b → (T a).2.1 ≠ (T b).2.1
/-- the field at pool index i of M's class is field k of class ci -/
def fp_fl (own : String) (i ci k : Nat) : Prop := ∃ C T N ty ref, fp_cl ci C T N ty ∧ k < N ∧ Cond.fieldLink own i ref (T k).2.1 (T k).2.2.1 ∈ fp_tw ∧ (ref = (T k).1 ∨ Cond.sameField ref (T k).1 (T k).2.1 (T k).2.2.1 ∈ fp_tw)
theorem fp_same {ts : List Cond} {args : Array Value} {s : State} {ref own name desc : String} (hts : ∀ w ∈ ts, w.before args s = true) (h : ref = own ∨ Cond.sameField ref own name desc ∈ ts) : ∀ x, s.fieldFound? own name desc = some x → s.fieldFound? ref name desc = some x := by
  rcases h with rfl | h
  · exact fun _ hx => hx
  · exact fun x hx => u_same (hts _ h) x hx
/-- .. and may be written there, its type being ty -/
def fp_fs (own nm : String) (i ci k : Nat) (t : FieldType) : Prop := ∃ C T N ty ref, fp_cl ci C T N ty ∧ k < N ∧ Cond.fieldLink own i ref (T k).2.1 (T k).2.2.1 ∈ fp_tw ∧ (ref = (T k).1 ∨ Cond.sameField ref (T k).1 (T k).2.1 (T k).2.2.1 ∈ fp_tw) ∧ ty k = t ∧ ((T k).2.2.2 = false ∨ ((T k).2.2.2 = true ∧ nm = "<init>" ∧ (T k).1 = own))
theorem fp_rep.put {H H1 : Heap} {a t t' : Nat} {e0 e : fp_E} (P : fp_rep G h H) (ha : h.1 a = some (t, e0)) (he : va_at G.2.1 vwCl (a, fp_cv G e) H1) (hz : H1.size = H.size) (oq : ∀ q : Nat, q ≠ a → H1[q]? = H[q]?) : fp_rep G (fp_put h a t' e) H1 := by
  obtain ⟨p1, p2, p3, p4⟩ := P
  have hb := (p4 a t e0 ha).1
  refine ⟨hz.trans p1, p2, fun q hq => (oq q (by omega)).trans (p3 q hq), fun q t2 e2 hq => ?_⟩
  by_cases hqa : q = a
  · subst hqa
    simp [fp_put] at hq
    obtain ⟨-, rfl⟩ := hq
    exact ⟨hb, he⟩
  · simp [fp_put, hqa] at hq
    obtain ⟨r1, r2⟩ := p4 q t2 e2 hq
    exact ⟨r1, r2.kept (oq q hqa)⟩
theorem fp_rep.new {H H1 : Heap} {t k : Nat} {e : fp_E} (P : fp_rep G h H) (he : va_at G.2.1 vwCl (H.size, fp_cv G e) H1) (hz : H1.size = H.size + 1) (oq : ∀ q : Nat, q < H.size → H1[q]? = H[q]?) : fp_rep G (fp_new h t e k) H1 := by
  obtain ⟨p1, p2, p3, p4⟩ := P
  refine ⟨by rw [hz, p1]; rfl, Nat.le_trans p2 (Nat.le_succ _), fun q hq => (oq q (by omega)).trans (p3 q hq), fun q t2 e2 hq => ?_⟩
  by_cases hqa : q = h.2.1
  · subst hqa
    simp [fp_new] at hq
    obtain ⟨-, rfl⟩ := hq
    exact ⟨p2, by rw [← p1]; exact he⟩
  · simp [fp_new, hqa] at hq
    obtain ⟨r1, r2⟩ := p4 q t2 e2 hq
    exact ⟨r1, r2.kept (oq q r2.lt)⟩
/-- the tags are nobody's business but ours -/
theorem wp_tag {st : List Value} {a t : Nat} {e : fp_E} (t' : Nat) (ha : h.1 a = some (t, e)) (k : fp_wp G d M pc L st (fp_put h a t' e) Q) : fp_wp G d M pc L st h Q := by
  obtain ⟨r, h', ⟨m1, m2, w⟩, q⟩ := k
  refine ⟨r, h', ⟨m1, m2, fun p l e s m args below meth c H locs cells slots mc ms ls C K P F hl e1 e2 => w p l e s m args below meth c H locs cells slots mc ms ls C K ?_ F hl e1 e2⟩, q⟩
  exact P.put ha (P.2.2.2 a t _ ha).2 rfl (fun _ _ => rfl)
theorem wp_getf {i ci k0 a t : Nat} {fs : List Value} {v : Value} (hd : decode M.2.1 pc = .ok (.getfield i, 3)) (hf : fp_fl M.1.cls i ci k0) (ha : h.1 a = some (t, .inr (ci, fs))) (hv : fs[k0]? = some v) (k : fp_wp G d M (pc + 3) L (v :: rest) h Q) : fp_wp G d M pc L (.ref a :: rest) h Q := by
  obtain ⟨Cn, T, N, ty, ref, hc, hk, hw, hrf⟩ := hf
  exact fp_lift (fun p l e R s m args below meth c H locs cells slots Qz ls C K P hl kk => va_get (ws := [(a, .inr (ci, fs))]) C.1 C.2.1 C.2.2.2.2.2.2.2 hc.2.1 C.2.2.2.2.2.1 K.1 (fun k q hq => by
    match k, hq with
    | 0, hq => cases hq; exact (P.2.2.2 a t _ ha).2
    | k + 1, hq => simp at hq) 0 rfl hc.1 k0 hk (C.2.2.2.2.2.2.2 _ hw) (fp_same C.2.2.2.2.2.2.2 hrf) hv hd (kk ls hl)) k
theorem wp_putf {i ci k0 a t : Nat} {fs : List Value} {v : Value} {ft : FieldType} (hd : decode M.2.1 pc = .ok (.putfield i, 3)) (hf : fp_fs M.1.cls M.1.name i ci k0 ft) (ha : h.1 a = some (t, .inr (ci, fs))) (hl0 : k0 < fs.length) (hn : narrow ft v = v) (hfit : fits ft v = true) (k : fp_wp G d M (pc + 3) L rest (fp_put h a t (.inr (ci, fs.set k0 v))) Q) : fp_wp G d M pc L (v :: .ref a :: rest) h Q := by
  obtain ⟨Cn, T, N, ty, ref, hc, hk, hw, hrf, hty, hfin⟩ := hf
  refine fp_liftH (h1 := fp_put h a t (.inr (ci, fs.set k0 v))) (dc := 0) (ds := 0) rfl rfl (fun p l e mc ms s m args below meth c H locs cells slots Qz ls C K P F hl _ _ kk => ?_) k
  obtain ⟨hx, hb, -, -, -, hown, hname, hts⟩ := C
  have hpd : parseFieldDescriptor (T k0).2.2.1 = some ft := hty ▸ hc.2.2.1 k0 hk
  obtain ⟨r, h1, cell, q1, q2, q3, q4⟩ := (P.2.2.2 a t _ ha).2
  have hap := va_apart (own := M.1.cls) hts hc.2.1 ty hc.2.2.1 hc.2.2.2 K.1 hc.1
  have hr : r = (Cn, T, N) := Option.some.inj (h1.symm.trans hc.1)
  subst hr
  obtain ⟨hS, hfc, kC, hkC, hkind⟩ := K.1.1 ci _ hc.1
  obtain ⟨cf, kf, fi, f, hi, hsl⟩ := hS k0 hk
  have hlay := hts _ (hc.2.1 _ (u_in_lay hk))
  unfold u_lay at hlay
  have hst := (u_facts hfc hkC (u_lays hts hc.2.1 hk) hi).1
  have fin : ∀ H1 : Heap, H1[a]? = some (cell.setSlot f.slot v) → H1.size = H.size → (∀ q : Nat, q ≠ a → H1[q]? = H[q]?) → W p l e (fp_rm d mc ms) s m args below meth c H1 (locs ++ [⟨a, f.slot⟩]) cells slots Qz (F0 m (pc + 3) ls rest) := by
    intro H1 e1 e2 e3
    rw [hsl] at e1
    refine kk H1 _ (P.put ha ⟨_, hc.1, t_OB.to (V := updV (vp_V fs) k0 v) ⟨_, e1, q2, q3, t_set q4 hap hk v⟩ (fun j _ => vp_updV_set hl0 v j)⟩ e2 e3) (fun q hq => ?_)
    rcases List.mem_append.mp hq with h3 | h3
    · exact F q h3
    · rw [List.mem_singleton.mp h3]
      exact (P.2.2.2 a t _ ha).1
  rcases hfin with hfin | ⟨hfin, hin2, hdecl⟩
  · rw [if_neg (by rw [hfin]; decide)] at hlay
    have h6 := u_store hfc hkC hkind hlay hi hpd hn hfit
    exact W.putK hx hb (f := f) ⟨hown, hts _ hw, ⟨_, _, _, fp_same hts hrf _ hi⟩, hst⟩ (by rw [q2]; exact h6) q1 q3 (by rw [hsl]; exact k2_hasslot (q4 k0 hk)) rfl rfl hd fin
  · rw [if_pos hfin] at hlay
    have hcf : m.cls = cf := by
      obtain ⟨_, _, c', _, _, _, -, -, hf', -, -, -, hown2, -⟩ := Cond.laysFinal_spec hlay
      have e1 : c' = cf := by have := hi.symm.trans hf'; simp at this; exact this.1.symm
      rw [hdecl] at hown2
      rw [← e1]; exact Option.some.inj (hown.symm.trans hown2)
    have h6 := u_fits hfc hkC hkind (Or.inr hlay) hi hpd hn hfit
    exact W.putFinK hx hb hown (hts _ hw) (fp_same hts hrf _ hi) hst hcf (hname.trans hin2) (by rw [q2]; exact h6) q1 q3 (by rw [hsl]; exact k2_hasslot (q4 k0 hk)) rfl rfl hd fin
/-- class ci, of N fields, fs at first, can be made by the new at pool index i -/
def fp_nw (own : String) (i ci N : Nat) (fs : List Value) : Prop := ∃ C T ty, fp_cl ci C T N ty ∧ Cond.classLink own i C ∈ fp_tw ∧ Cond.instantiable C N ∈ fp_tw ∧ Cond.initialized C ∈ fp_tw ∧ ∀ j, j < N → defaultValue (ty j) = vp_V fs j
theorem wp_new {i ci N : Nat} {fs : List Value} (t : Nat) (hd : decode M.2.1 pc = .ok (.new i, 3)) (hf : fp_nw M.1.cls i ci N fs) (k : fp_wp G d M (pc + 3) L (.ref h.2.1 :: rest) (fp_new h t (.inr (ci, fs)) N) Q) : fp_wp G d M pc L rest h Q := by
  obtain ⟨Cn, T, ty, hc, w1, w2, w3, hfs⟩ := hf
  refine fp_liftH (h1 := fp_new h t (.inr (ci, fs)) N) (dc := 1) (ds := N) rfl rfl (fun p l e mc ms s m args below meth c H locs cells slots Qz ls C K P F hl hcells hslots kk => ?_) k
  obtain ⟨hx, hb, -, -, -, hown, hname, hts⟩ := C
  have hKn := K.1.1 ci _ hc.1
  refine W.newcK hx hb hown (hts _ w1) (hts _ w2) (hts _ w3) rfl hd hcells hslots hKn.2.1 rfl fun H1 kC hkC e1 z1 o1 => ?_
  have hP1 : fp_rep G (fp_new h t (.inr (ci, fs)) N) H1 := P.new ⟨_, hc.1, (u_born ty hts hc.2.1 hKn hkC e1 hc.2.2.1).to hfs⟩ z1 o1
  have := kk H1 locs hP1 F
  rw [← P.1] at this
  exact this

theorem fp_rep.one {H : Heap} {a t : Nat} {e : fp_E} (P : fp_rep G h H) (ha : h.1 a = some (t, e)) : va_P G.2.1 vwCl [(a, fp_cv G e)] H := fun k q hq => by
  match k, hq with
  | 0, hq => cases hq; exact (P.2.2.2 a t _ ha).2
  | k + 1, hq => simp at hq
theorem fp_locs {locs : List Loc} {a i : Nat} (F : ∀ q ∈ locs, fp_free G q.base) (ha : G.1.size ≤ a) : ∀ q ∈ locs ++ [⟨a, i⟩], fp_free G q.base := fun q hq => by
  rcases List.mem_append.mp hq with h3 | h3
  · exact F q h3
  · rw [List.mem_singleton.mp h3]
    exact ha
theorem wp_alen {a t kd : Nat} {x : vp_A} {ty : FieldType} (hd : decode M.2.1 pc = .ok (.arraylength, 1)) (hty : fp_ty[kd]? = some ty) (ha : h.1 a = some (t, .inl (kd, x))) (k : fp_wp G d M (pc + 1) L (.int (nI x.1) :: rest) h Q) : fp_wp G d M pc L (.ref a :: rest) h Q :=
  fp_lift (fun p l e R s m args below meth c H locs cells slots Qz ls C K P hl kk => va_alen (ws := [(a, .inl (G.2.2.1 kd, x))]) C.1 C.2.1 K.1 (P.one ha) 0 kd rfl (fp_tys_at hty) rfl hd (kk ls hl)) k
theorem wp_iald {a t kd n : Nat} {i : Int32} {f : Nat → Int32} (hd : decode M.2.1 pc = .ok (.iaload, 1)) (hty : fp_ty[kd]? = some .int) (ha : h.1 a = some (t, .inl (kd, n, .inl f))) (hin : vp_in i n) (k : fp_wp G d M (pc + 1) L (.int (f i.toNatClampNeg) :: rest) h Q) : fp_wp G d M pc L (.int i :: .ref a :: rest) h Q :=
  fp_lift (fun p l e R s m args below meth c H locs cells slots Qz ls C K P hl kk => va_iald (ws := [(a, .inl (G.2.2.1 kd, n, .inl f))]) C.1 C.2.1 K.1 (P.one ha) 0 kd rfl (fp_tys_at hty) hin hd (kk ls hl)) k
theorem wp_lald {a t kd n : Nat} {i : Int32} {f : Nat → Int64} (hd : decode M.2.1 pc = .ok (.laload, 1)) (hty : fp_ty[kd]? = some .long) (ha : h.1 a = some (t, .inl (kd, n, .inr (.inl f)))) (hin : vp_in i n) (k : fp_wp G d M (pc + 1) L (.long (f i.toNatClampNeg) :: rest) h Q) : fp_wp G d M pc L (.int i :: .ref a :: rest) h Q :=
  fp_lift (fun p l e R s m args below meth c H locs cells slots Qz ls C K P hl kk => va_lald (ws := [(a, .inl (G.2.2.1 kd, n, .inr (.inl f)))]) C.1 C.2.1 K.1 (P.one ha) 0 kd rfl (fp_tys_at hty) hin hd (kk ls hl)) k
theorem wp_bald {a t kd n : Nat} {i : Int32} {f : Nat → Int32} (hd : decode M.2.1 pc = .ok (.baload, 1)) (hty : fp_ty[kd]? = some .byte) (ha : h.1 a = some (t, .inl (kd, n, .inl f))) (hin : vp_in i n) (k : fp_wp G d M (pc + 1) L (.int (f i.toNatClampNeg) :: rest) h Q) : fp_wp G d M pc L (.int i :: .ref a :: rest) h Q :=
  fp_lift (fun p l e R s m args below meth c H locs cells slots Qz ls C K P hl kk => va_bald (ws := [(a, .inl (G.2.2.1 kd, n, .inl f))]) C.1 C.2.1 K.1 (P.one ha) 0 kd rfl (fp_tys_at hty) hin hd (kk ls hl)) k
theorem wp_zald {a t kd n : Nat} {i : Int32} {f : Nat → Int32} (hd : decode M.2.1 pc = .ok (.baload, 1)) (hty : fp_ty[kd]? = some .boolean) (ha : h.1 a = some (t, .inl (kd, n, .inl f))) (hin : vp_in i n) (k : fp_wp G d M (pc + 1) L (.int (f i.toNatClampNeg) :: rest) h Q) : fp_wp G d M pc L (.int i :: .ref a :: rest) h Q :=
  fp_lift (fun p l e R s m args below meth c H locs cells slots Qz ls C K P hl kk => va_zald (ws := [(a, .inl (G.2.2.1 kd, n, .inl f))]) C.1 C.2.1 K.1 (P.one ha) 0 kd rfl (fp_tys_at hty) hin hd (kk ls hl)) k
theorem wp_aaldR {a t kd n : Nat} {i : Int32} {f : Nat → Option Nat} {r : Option Nat} {Cn : String} (hd : decode M.2.1 pc = .ok (.aaload, 1)) (hty : fp_ty[kd]? = some (.object Cn)) (ha : h.1 a = some (t, .inl (kd, n, .inr (.inr (.inr (.inr f)))))) (hin : vp_in i n) (hv : f i.toNatClampNeg = r) (k : fp_wp G d M (pc + 1) L (va_rf r :: rest) h Q) : fp_wp G d M pc L (.int i :: .ref a :: rest) h Q := by
  subst hv
  exact fp_lift (fun p l e R s m args below meth c H locs cells slots Qz ls C K P hl kk => va_aldq (ws := [(a, .inl (G.2.2.1 kd, n, .inr (.inr (.inr (.inr f)))))]) C.1 C.2.1 K.1 (P.one ha) 0 kd rfl (fp_tys_at hty) hin hd (kk ls hl)) k
theorem wp_iast {a t kd n : Nat} {i : Int32} {x : Int32} {f : Nat → Int32} (hd : decode M.2.1 pc = .ok (.iastore, 1)) (hty : fp_ty[kd]? = some .int) (ha : h.1 a = some (t, .inl (kd, n, .inl f))) (hin : vp_in i n) (k : fp_wp G d M (pc + 1) L rest (fp_put h a t (.inl (kd, n, .inl (upd f i.toNatClampNeg x)))) Q) : fp_wp G d M pc L (.int x :: .int i :: .ref a :: rest) h Q := by
  refine fp_liftH (h1 := fp_put h a t (.inl (kd, n, .inl (upd f i.toNatClampNeg x)))) (dc := 0) (ds := 0) rfl rfl (fun p l e mc ms s m args below meth c H locs cells slots Qz ls C K P F hl _ _ kk => ?_) k
  refine W.iast C.1 C.2.1 (P.2.2.2 a t _ ha).2 ((K.1.2 kd _ (fp_tys_at hty)).1 n (fun j => .int (f j))) (fun q => by cases q) (by show ¬ (i < 0 ∨ (arrV _ _ _).slots.size ≤ _); rw [arrV_size]; exact hin) rfl rfl hd fun H1 e z oq => ?_
  refine kk H1 _ (P.put ha ?_ z oq) (fp_locs F (P.2.2.2 a t _ ha).1)
  show H1[a]? = some (vp_cell _ _)
  rw [e]
  show some ((vp_cell _ _).setSlot _ _) = _
  rw [vp_cell_i, vp_cell_i, arrV_store]
  congr 2
  funext q
  by_cases hq : q = i.toNatClampNeg
  · subst hq
    simp [updV, upd]
  · simp [updV, upd, hq]
theorem wp_last {a t kd n : Nat} {i : Int32} {x : Int64} {f : Nat → Int64} (hd : decode M.2.1 pc = .ok (.lastore, 1)) (hty : fp_ty[kd]? = some .long) (ha : h.1 a = some (t, .inl (kd, n, .inr (.inl f)))) (hin : vp_in i n) (k : fp_wp G d M (pc + 1) L rest (fp_put h a t (.inl (kd, n, .inr (.inl (vp_updL f i.toNatClampNeg x))))) Q) : fp_wp G d M pc L (.long x :: .int i :: .ref a :: rest) h Q := by
  refine fp_liftH (h1 := fp_put h a t (.inl (kd, n, .inr (.inl (vp_updL f i.toNatClampNeg x))))) (dc := 0) (ds := 0) rfl rfl (fun p l e mc ms s m args below meth c H locs cells slots Qz ls C K P F hl _ _ kk => ?_) k
  refine W.last C.1 C.2.1 (P.2.2.2 a t _ ha).2 ((K.1.2 kd _ (fp_tys_at hty)).1 n (fun j => .long (f j))) (fun q => by cases q) (by show ¬ (i < 0 ∨ (arrV _ _ _).slots.size ≤ _); rw [arrV_size]; exact hin) rfl rfl hd fun H1 e z oq => ?_
  refine kk H1 _ (P.put ha ?_ z oq) (fp_locs F (P.2.2.2 a t _ ha).1)
  show H1[a]? = some (vp_cell _ _)
  rw [e]
  show some ((vp_cell _ _).setSlot _ _) = _
  rw [vp_cell_l, vp_cell_l, arrV_store]
  congr 2
  funext q
  by_cases hq : q = i.toNatClampNeg
  · subst hq
    simp [updV, vp_updL]
  · simp [updV, vp_updL, hq]
theorem wp_newa {at0 : ArrayType} {kd N : Nat} {n : Int32} {a0 : vp_A} (t : Nat) (hd : decode M.2.1 pc = .ok (.newarray at0, 2)) (hty : fp_ty[kd]? = some (newarray.typeOf at0)) (hw : Cond.arrayClass (newarray.typeOf at0) ∈ fp_tw) (ha : ∀ cA : ClassId, vp_cell cA a0 = arrV cA N (fun _ => defaultValue (newarray.typeOf at0))) (hn : ¬ n < 0) (hN : n.toNatClampNeg = N) (hb : N * componentBytes (newarray.typeOf at0) ≤ 536870912) (k : fp_wp G d M (pc + 2) L (.ref h.2.1 :: rest) (fp_new h t (.inl (kd, a0)) N) Q) : fp_wp G d M pc L (.int n :: rest) h Q := by
  refine fp_liftH (h1 := fp_new h t (.inl (kd, a0)) N) (dc := 1) (ds := N) rfl rfl (fun p l e mc ms s m args below meth c H locs cells slots Qz ls C K P F hl hcells hslots kk => ?_) k
  refine va_newaK C.1 C.2.1 (C.2.2.2.2.2.2.2 _ hw) rfl hd rfl hn hN hb hcells hslots rfl fun H1 cA e1 z1 o1 hAr hNm => ?_
  have hcA : cA = G.2.2.1 kd := by
    have h2 := (K.1.2 kd _ (fp_tys_at hty)).2
    cases at0 <;> exact Option.some.inj (hNm.symm.trans h2)
  subst hcA
  have hP1 : fp_rep G (fp_new h t (.inl (kd, a0)) N) H1 := P.new (by show H1[H.size]? = some (vp_cell _ _); rw [ha]; exact e1) z1 o1
  have := kk H1 locs hP1 F
  rw [← P.1] at this
  exact this
/-! ends -/
theorem wp_iret {v : Int32} {ty : FieldType} (hd : decode M.2.1 pc = .ok (.ireturn, 1)) (hr : M.2.2.2 = some ty) (hn : narrow ty (.int v) = .int v) (q : Q (some (.int v)) h) : fp_wp G d M pc L [.int v] h Q :=
  ⟨_, h, ⟨Nat.le_refl _, Nat.le_refl _, fun p l e s m args below meth c H locs cells slots mc ms ls C K P F hl e1 e2 => by
    rw [Nat.sub_self, Nat.add_zero] at e1 e2
    subst e1; subst e2
    exact W.zret C.1 C.2.1 (C.2.2.2.1.trans hr) hn (fun t ht hW => ⟨rfl, by rw [ht]; exact P⟩) F hd C.2.2.2.2.1⟩, q⟩
theorem wp_lret {v : Int64} (hd : decode M.2.1 pc = .ok (.lreturn, 1)) (hr : M.2.2.2 = some .long) (q : Q (some (.long v)) h) : fp_wp G d M pc L [.long v] h Q :=
  ⟨_, h, ⟨Nat.le_refl _, Nat.le_refl _, fun p l e s m args below meth c H locs cells slots mc ms ls C K P F hl e1 e2 => by
    rw [Nat.sub_self, Nat.add_zero] at e1 e2
    subst e1; subst e2
    exact W.lret C.1 C.2.1 (C.2.2.2.1.trans hr) (fun t ht hW => ⟨rfl, by rw [ht]; exact P⟩) F hd C.2.2.2.2.1⟩, q⟩
theorem wp_vret (hd : decode M.2.1 pc = .ok (.return_, 1)) (hr : M.2.2.2 = none) (q : Q none h) : fp_wp G d M pc L [] h Q :=
  ⟨_, h, ⟨Nat.le_refl _, Nat.le_refl _, fun p l e s m args below meth c H locs cells slots mc ms ls C K P F hl e1 e2 => by
    rw [Nat.sub_self, Nat.add_zero] at e1 e2
    subst e1; subst e2
    exact W.vret C.1 C.2.1 (C.2.2.2.1.trans hr) (fun t ht hW => ⟨rfl, by rw [ht]; exact P⟩) F hd C.2.2.2.2.1⟩, q⟩
theorem wp_aret {v : Value} {ty : FieldType} (hd : decode M.2.1 pc = .ok (.areturn, 1)) (hr : M.2.2.2 = some ty) (hrt : (∃ n, ty = .object n) ∨ ∃ t, ty = .array t) (hv : v = .null ∨ ∃ a, v = .ref a) (q : Q (some v) h) : fp_wp G d M pc L [v] h Q :=
  ⟨_, h, ⟨Nat.le_refl _, Nat.le_refl _, fun p l e s m args below meth c H locs cells slots mc ms ls C K P F hl e1 e2 => by
    rw [Nat.sub_self, Nat.add_zero] at e1 e2
    subst e1; subst e2
    exact W.aret C.1 C.2.1 (C.2.2.2.1.trans hr) hrt hv (fun t ht hW => ⟨rfl, by rw [ht]; exact P⟩) F hd C.2.2.2.2.1⟩, q⟩
end FPI
/-! calls -/
theorem fp_goodIn {ws : List Cond} (hs : ∀ w ∈ ws, w ∈ fp_tw) : GoodIn fp_tw ws := fun w hw => ⟨hs w hw, fp_good w (hs w hw)⟩
theorem fp_go {G : fp_G} {p : Program} {l : Launch} {e : Env} {R : Room} {s : State} {m : MethodId} {args : Array Value} {below : List Frame} {meth : Method} {c : Code} {H : Heap} {locs : List Loc} {cells slots mc ms pc : Nat} {ls : Array Slot} {st0 rest : List Value} {a : Array Value} {r : Option Value} {h1 : fp_H} {Qz : State → Prop}
    (hr : va_Run p l e R s m args below meth c H locs cells slots mc ms (F0 m pc ls st0) rest (fp_Qc G r h1 a) (fp_free G)) (F : ∀ q ∈ locs, fp_free G q.base)
    (kk : ∀ (H1 : Heap) (locs1 : List Loc), fp_rep G h1 H1 → (∀ q ∈ locs1, fp_free G q.base) → W p l e R s m args below meth c H1 locs1 (cells + mc) (slots + ms) Qz (F0 m (pc + 3) ls (r.toList ++ rest))) : W p l e R s m args below meth c H locs cells slots Qz (F0 m pc ls st0) := by
  intro T hT X
  obtain ⟨v, st₀, t, T', L, h0, X', hL, e1, e2, ⟨hv, hP⟩, st⟩ := hr T hT X
  cases hv
  obtain ⟨t2, a1, b1⟩ := kk T'.heap (locs ++ L) (by rw [e1]; exact hP) (fun q hq => by
    rcases List.mem_append.mp hq with h | h
    · exact F q h
    · exact hL q h) T' rfl X'
  exact ⟨t2, st t2 a1, b1⟩
theorem fp_blind {G : fp_G} {h : fp_H} {av : List Value} : FrameBlind (va_Pc av (fun U => fp_rep G h U.heap ∧ fp_K G U)) := fun a U g mk q => ⟨q.1, q.2.1, fp_K.moved (u := U) (U := U.calling g mk a) (State.WarmedH.refl U) q.2.2⟩
/-- what a callee's own words are -/
def fp_me (M : fp_M) (n : Nat) : Prop := Cond.code M.1 M.2.1 M.2.2.1 M.2.2.2 ∈ fp_tw ∧ Cond.initialized M.1.cls ∈ fp_tw ∧ (M.1.cls ≠ "java/lang/invoke/MethodHandle" ∧ M.1.cls ≠ "java/lang/invoke/VarHandle" ∧ (parseMethodDescriptor M.1.desc).map (fun d => d.parameters.length) = some n)
theorem fp_ws_in {M : fp_M} {n : Nat} (h : fp_me M n) : ∀ w ∈ fp_ws M, w ∈ fp_tw := fun w hw => by
  rcases List.mem_cons.mp hw with rfl | hw
  · exact h.1
  · exact hw
section FPC
variable {G : fp_G} {d d' : Nat × Nat} {M M' : fp_M} {pc i n : Nat} {L : List (Option Value)} {st rest As : List Value} {h : fp_H} {Q Q' : Option Value → fp_H → Prop}
theorem wp_callS (hd : decode M.2.1 pc = .ok (.invokestatic i, 3)) (hme : fp_me M' n) (hw : Cond.methodLink M.1.cls i M'.1 ∈ fp_tw ∧ Cond.static M'.1 ∈ fp_tw) (hdd : d'.1 + 1 ≤ d.1 ∧ 8 + (M'.2.2.1 + 11) + d'.2 ≤ d.2) (hLen : L.length = M.2.2.1) (hn : As.length = n) (hst : st = As.reverse ++ rest) (hroom : (rest.map fun v => v.category).sum ≤ 8)
    (hc : fp_ct G d' M' As h Q') (k : ∀ r h1, Q' r h1 → fp_wp G d M (pc + 3) L (r.toList ++ rest) h1 Q) : fp_wp G d M pc L st h Q := by
  obtain ⟨r, h1, ⟨m1, m2, hM⟩, q'⟩ := hc
  refine fp_liftH (h1 := h1) (dc := h1.2.1 - h.2.1) (ds := h1.2.2 - h.2.2) (by omega) (by omega) (fun p l e mc ms s m args below meth c H locs cells slots Qz ls C K P F hl hcells hslots kk => ?_) (k r h1 q')
  obtain ⟨hx, hb, hml, -, -, hown, hname, hts⟩ := C
  exact fp_go (va_runS (As := As) (rest := rest) ⟨hx, hb, hml, hown, hts⟩ (hM l) ⟨callB_of n hts (fp_goodIn (fp_ws_in hme)) rfl rfl rfl (hts _ hme.2.1) (hts _ hw.1) hme.2.2 hdd, hts _ hw.2⟩
    ⟨fp_blind, fun U hU hW => ⟨rfl, by rw [hU]; exact P, K.moved hW⟩⟩ rfl hn (hl.1.trans hLen) hst (lv_room hroom) hd ⟨hcells, hslots⟩) F kk
theorem wp_callI {b : Nat} (hd : decode M.2.1 pc = .ok (.invokespecial i, 3)) (hme : fp_me M' n) (hnone : M'.2.2.2 = none) (hw : Cond.methodLink M.1.cls i M'.1 ∈ fp_tw ∧ Cond.instanceMethod M'.1 ∈ fp_tw) (hname : M'.1.name = "<init>") (hdd : d'.1 + 1 ≤ d.1 ∧ 8 + (M'.2.2.1 + 11) + d'.2 ≤ d.2) (hLen : L.length = M.2.2.1) (hn : As.length = n) (hst : st = As.reverse ++ .ref b :: rest) (hroom : (rest.map fun v => v.category).sum ≤ 8)
    (hc : fp_ct G d' M' (.ref b :: As) h Q') (k : ∀ r h1, Q' r h1 → fp_wp G d M (pc + 3) L (r.toList ++ rest) h1 Q) : fp_wp G d M pc L st h Q := by
  obtain ⟨r, h1, ⟨m1, m2, hM⟩, q'⟩ := hc
  refine fp_liftH (h1 := h1) (dc := h1.2.1 - h.2.1) (ds := h1.2.2 - h.2.2) (by omega) (by omega) (fun p l e mc ms s m args below meth c H locs cells slots Qz ls C K P F hl hcells hslots kk => ?_) (k r h1 q')
  obtain ⟨hx, hb, hml, -, -, hown, hname2, hts⟩ := C
  exact fp_go (va_runI (As := As) (rest := rest) (maxL := M'.2.2.1) (bytes := M'.2.1) ⟨hx, hb, hml, hown, hts⟩ (hM l) ⟨callB_of n hts (fp_goodIn (fp_ws_in hme)) (by unfold fp_ws; rw [hnone]) rfl rfl (hts _ hme.2.1) (hts _ hw.1) hme.2.2 hdd, hname, hts _ hw.2⟩
    ⟨fp_blind, fun U hU hW => ⟨rfl, by rw [hU]; exact P, K.moved hW⟩⟩ rfl hn (hl.1.trans hLen) hst (lv_room hroom) hd ⟨hcells, hslots⟩) F kk
theorem wp_callV {b t ci : Nat} {fs : List Value} {T : u_T} {N : Nat} (hd : decode M.2.1 pc = .ok (.invokevirtual i, 3)) (hme : fp_me M' n) (hw : Cond.methodLink M.1.cls i M'.1 ∈ fp_tw ∧ Cond.instanceMethod M'.1 ∈ fp_tw ∧ Cond.selects M'.1.cls M'.1 M'.1 ∈ fp_tw) (hci : vwCl[ci]? = some (M'.1.cls, T, N)) (hdd : d'.1 + 1 ≤ d.1 ∧ 8 + (M'.2.2.1 + 11) + d'.2 ≤ d.2) (hLen : L.length = M.2.2.1) (hn : As.length = n) (hst : st = As.reverse ++ .ref b :: rest) (hroom : (rest.map fun v => v.category).sum ≤ 8)
    (ha : h.1 b = some (t, .inr (ci, fs))) (hc : fp_ct G d' M' (.ref b :: As) h Q') (k : ∀ r h1, Q' r h1 → fp_wp G d M (pc + 3) L (r.toList ++ rest) h1 Q) : fp_wp G d M pc L st h Q := by
  obtain ⟨r, h1, ⟨m1, m2, hM⟩, q'⟩ := hc
  refine fp_liftH (h1 := h1) (dc := h1.2.1 - h.2.1) (ds := h1.2.2 - h.2.2) (by omega) (by omega) (fun p l e mc ms s m args below meth c H locs cells slots Qz ls C K P F hl hcells hslots kk => ?_) (k r h1 q')
  obtain ⟨hx, hb, hml, -, -, hown, hname2, hts⟩ := C
  exact fp_go (va_runV (As := As) (rest := rest) (C := M'.1.cls) ⟨hx, hb, hml, hown, hts⟩ (hM l) ⟨callB_of n hts (fp_goodIn (fp_ws_in hme)) rfl rfl rfl (hts _ hme.2.1) (hts _ hw.1) hme.2.2 hdd, hts _ hw.2.1, hts _ hw.2.2⟩
    ⟨fp_blind, va_recv K.1 (P.one ha) (ci := ci) (q0 := 0) hci rfl, fun U hU hW => ⟨rfl, by rw [hU]; exact P, K.moved hW⟩⟩ rfl hn (hl.1.trans hLen) hst (lv_room hroom) hd ⟨hcells, hslots⟩) F kk
theorem wp_objInit {b : Nat} (hd : decode M.2.1 pc = .ok (.invokespecial i, 3)) (hw : Cond.methodLink M.1.cls i Lib.objectInit ∈ fp_tw ∧ Cond.instanceMethod Lib.objectInit ∈ fp_tw ∧ Cond.code Lib.objectInit ⟨#[0xb1]⟩ 1 none ∈ fp_tw) (hdd : 1 ≤ d.1 ∧ 20 ≤ d.2) (hLen : L.length = M.2.2.1) (hroom : (rest.map fun v => v.category).sum ≤ 8)
    (k : fp_wp G d M (pc + 3) L rest h Q) : fp_wp G d M pc L (.ref b :: rest) h Q := by
  refine fp_liftH (h1 := h) (dc := 0) (ds := 0) rfl rfl (fun p l e mc ms s m args below meth c H locs cells slots Qz ls C K P F hl hcells hslots kk => ?_) k
  obtain ⟨hx, hb, hml, -, -, hown, hname2, hts⟩ := C
  exact W.objInit hx hb hown (hts _ hw.1) (hts _ hw.2.1) (hts _ hw.2.2) rfl (by rw [hml, ← hLen]; exact hl.1) rfl hd hdd.1 (by show 2 * (F0 m pc ls (.ref b :: rest)).monitorRoom + _ + 12 ≤ d.2; have := lv_room (m := m) (pc := pc) (ls := ls) (rest := .ref b :: rest) hroom; have := hdd.2; omega) (kk H locs P F)
end FPC
theorem fp_ent_slots (av : List Value) (n : Nat) : ∀ (i : Nat) (v : Value), (fp_ent av n)[i]? = some (some v) → (lg_sl av ++ List.replicate (n - (lg_sl av).length) Slot.unset)[i]? = some (.val v) := by
  have key : ∀ (l : List Value), (l.flatMap (fun v => if v.category = 2 then [some v, (none : Option Value)] else [some v])).length = (lg_sl l).length ∧ ∀ (i : Nat) (v : Value), (l.flatMap (fun v => if v.category = 2 then [some v, (none : Option Value)] else [some v]))[i]? = some (some v) → (lg_sl l)[i]? = some (.val v) := by
    intro l
    induction l with
    | nil => exact ⟨rfl, fun i v hi => by simp at hi⟩
    | cons a l ih =>
      obtain ⟨i1, i2⟩ := ih
      unfold lg_sl at i1 i2 ⊢
      simp only [List.flatMap_cons]
      by_cases ha : a.category = 2
      · simp only [if_pos ha]
        refine ⟨by simp [i1], fun i v hi => ?_⟩
        match i, hi with
        | 0, hi => simp at hi ⊢; exact hi
        | 1, hi => simp at hi
        | i + 2, hi => exact i2 i v (by simpa using hi)
      · simp only [if_neg ha]
        refine ⟨by simp [i1], fun i v hi => ?_⟩
        match i, hi with
        | 0, hi => simp at hi ⊢; exact hi
        | i + 1, hi => exact i2 i v (by simpa using hi)
  intro i v hi
  obtain ⟨k1, k2⟩ := key av
  unfold fp_ent at hi
  simp only at hi
  by_cases hl : i < (lg_sl av).length
  · rw [List.getElem?_append_left (by rw [k1]; exact hl)] at hi
    rw [List.getElem?_append_left hl]
    exact k2 i v hi
  · rw [List.getElem?_append_right (by rw [k1]; omega), List.getElem?_replicate] at hi
    split at hi <;> simp at hi
theorem fp_ent_len (av : List Value) (n : Nat) (h : (lg_sl av).length ≤ n) : (fp_ent av n).length = n := by
  have key : ∀ (l : List Value), (l.flatMap (fun v => if v.category = 2 then [some v, (none : Option Value)] else [some v])).length = (lg_sl l).length := by
    intro l
    induction l with
    | nil => rfl
    | cons a l ih =>
      unfold lg_sl at ih ⊢
      simp only [List.flatMap_cons, List.length_append, ih]
      by_cases ha : a.category = 2 <;> simp [ha]
  unfold fp_ent
  simp only [List.length_append, List.length_replicate, key]
  omega
theorem fp_meth {G : fp_G} {d : Nat × Nat} {M : fp_M} {av : List Value} {L0 : List (Option Value)} {h : fp_H} {Q : Option Value → fp_H → Prop} (hn : plainName M.1.cls = true) (hle : (lg_sl av).length ≤ M.2.2.1) (hL : fp_ent av M.2.2.1 = L0) (k : fp_wp G d M 0 L0 [] h Q) : fp_ct G d M av h Q := by
  obtain ⟨r, h', ⟨m1, m2, w⟩, q⟩ := k
  refine ⟨r, h', ⟨m1, m2, fun l => ?_⟩, q⟩
  refine Met.ofW (cc := M.2.1) (maxL := M.2.2.1) (ret := M.2.2.2) hn rfl ?_
  intro p e s m args below meth c s₁ B hml hv
  obtain ⟨rfl, hP, hK⟩ := hv
  have hts := atoms_spec (ws := fp_ws M) B.pre
  rw [lg_entry_eq]
  have hh := lv_entry av (n := M.2.2.1) hle
  exact w p l e s m _ below meth c s.heap [] 0 0 _ _ _ ⟨B.exec, B.bytes, hml, B.returns, B.notSynchronized, findClass_of_methodNamed B.named, (name_of_methodNamed B.named B.method).1, fun w hw => hts w (List.mem_cons_of_mem _ hw)⟩ hK hP (fun q hq => by cases hq)
    ⟨by rw [hh.1, ← hL, fp_ent_len _ _ hle], hh.2.1, fun i v hi => by rw [← hL] at hi; simpa using fp_ent_slots av M.2.2.1 i v hi⟩ (Nat.zero_add _) (Nat.zero_add _)
end
section
/-! THE BASE, its second half: arrays of references and of booleans, casts, what stood before the start, natives, static calls of a nest mate -/
section FPB
variable {G : fp_G} {d d' : Nat × Nat} {M M' : fp_M} {pc : Nat} {L : List (Option Value)} {rest : List Value} {h : fp_H} {Q Q' : Option Value → fp_H → Prop}
theorem wp_zast {a t kd n : Nat} {i x : Int32} {f : Nat → Int32} (hd : decode M.2.1 pc = .ok (.bastore, 1)) (hty : fp_ty[kd]? = some .boolean) (ha : h.1 a = some (t, .inl (kd, n, .inl f))) (hin : vp_in i n) (hx : vp_nar .boolean x = x) (k : fp_wp G d M (pc + 1) L rest (fp_put h a t (.inl (kd, n, .inl (upd f i.toNatClampNeg x)))) Q) : fp_wp G d M pc L (.int x :: .int i :: .ref a :: rest) h Q := by
  refine fp_liftH (h1 := fp_put h a t (.inl (kd, n, .inl (upd f i.toNatClampNeg x)))) (dc := 0) (ds := 0) rfl rfl (fun p l e mc ms s m args below meth c H locs cells slots Qz ls C K P F hl _ _ kk => ?_) k
  refine W.zast C.1 C.2.1 (P.2.2.2 a t _ ha).2 ((K.1.2 kd _ (fp_tys_at hty)).1 n (fun j => .int (f j))) (fun q => by cases q) (by show ¬ (i < 0 ∨ (arrV _ _ _).slots.size ≤ _); rw [arrV_size]; exact hin) rfl rfl hd fun H1 e z oq => ?_
  refine kk H1 _ (P.put ha ?_ z oq) (fp_locs F (P.2.2.2 a t _ ha).1)
  show H1[a]? = some (vp_cell _ _)
  rw [e]
  show some ((vp_cell _ _).setSlot _ _) = _
  rw [vp_cell_i, vp_cell_i, arrV_store]
  congr 2
  funext q
  by_cases hq : q = i.toNatClampNeg
  · subst hq
    have hx2 : narrow .boolean (.int x) = .int x := by
      have : narrow .boolean (.int x) = .int (vp_nar .boolean x) := rfl
      rw [this, hx]
    simp only [updV, upd, if_true]
    first | exact hx2 | (have := hx2; simpa [narrow] using this)
  · simp [updV, upd, hq]
theorem wp_aast {a t kd n v tv ci : Nat} {i : Int32} {f : Nat → Option Nat} {E : String} {r : vw_C} {vs : List Value} (hd : decode M.2.1 pc = .ok (.aastore, 1)) (hty : fp_ty[kd]? = some (.object E)) (ha : h.1 a = some (t, .inl (kd, n, .inr (.inr (.inr (.inr f)))))) (hin : vp_in i n) (hv : h.1 v = some (tv, .inr (ci, vs))) (hc : vwCl[ci]? = some r) (hca : Cond.castable r.1 E ∈ fp_tn ∨ r.1 = E)
    (k : fp_wp G d M (pc + 1) L rest (fp_put h a t (.inl (kd, n, .inr (.inr (.inr (.inr (va_up f i.toNatClampNeg (some v)))))))) Q) : fp_wp G d M pc L (.ref v :: .int i :: .ref a :: rest) h Q := by
  refine fp_liftH (h1 := fp_put h a t (.inl (kd, n, .inr (.inr (.inr (.inr (va_up f i.toNatClampNeg (some v)))))))) (dc := 0) (ds := 0) rfl rfl (fun p l e mc ms s m args below meth c H locs cells slots Qz ls C K P F hl _ _ kk => ?_) k
  have hlt : i.toNatClampNeg < n := Nat.not_le.mp fun q => hin (Or.inr q)
  have h0 : ¬ i < 0 := fun q => hin (Or.inl q)
  obtain ⟨r', hr', cellV, g1, g2, g3, -⟩ := (P.2.2.2 v tv _ hv).2
  have hcls := (K.1.1 ci r hc).2
  obtain ⟨kA, comp, k1, k2, k3, -⟩ := (K.1.2 kd _ (fp_tys_at hty)).2
  obtain ⟨kE, hkE, -⟩ := Vm.findClass_spec k3
  obtain ⟨kC, hkC, -⟩ := hcls.2
  have hasg : s.vm.assignable (G.2.1.1 ci) comp = true := by
    rcases hca with hca | hca
    · exact vb_asgC (K.2.2 _ hca) comp _ k3 hcls.1
    · subst hca
      cases k3.symm.trans hcls.1
      exact va_assign hcls
  refine W.aast C.1 C.2.1 (P.2.2.2 a t _ ha).2 (fun q h => by cases h) (fun h => by cases h) k1 k2 rfl hkE ⟨h0, by show _ < (arrV _ _ _).slots.size; rw [arrV_size]; exact hlt⟩ g1 (fun q h => by rw [g3] at h; cases h) (by rw [g2]; exact hkC) (by rw [g2]; exact hasg) rfl rfl hd fun H1 e z oq => ?_
  refine kk H1 _ (P.put ha ?_ z oq) (fp_locs F (P.2.2.2 a t _ ha).1)
  show H1[a]? = some (vp_cell _ _)
  rw [e]
  show some ((vp_cell _ _).setSlot _ _) = _
  rw [vp_cell_q, vp_cell_q, arrV_store]
  congr 2
  funext q
  by_cases hq : q = i.toNatClampNeg
  · subst hq
    simp [updV, va_up, va_rf]
  · simp [updV, va_up, hq]
theorem wp_aastN {a t kd n : Nat} {i : Int32} {f : Nat → Option Nat} {E : String} (hd : decode M.2.1 pc = .ok (.aastore, 1)) (hty : fp_ty[kd]? = some (.object E)) (ha : h.1 a = some (t, .inl (kd, n, .inr (.inr (.inr (.inr f)))))) (hin : vp_in i n)
    (k : fp_wp G d M (pc + 1) L rest (fp_put h a t (.inl (kd, n, .inr (.inr (.inr (.inr (va_up f i.toNatClampNeg none))))))) Q) : fp_wp G d M pc L (.null :: .int i :: .ref a :: rest) h Q := by
  refine fp_liftH (h1 := fp_put h a t (.inl (kd, n, .inr (.inr (.inr (.inr (va_up f i.toNatClampNeg none))))))) (dc := 0) (ds := 0) rfl rfl (fun p l e mc ms s m args below meth c H locs cells slots Qz ls C K P F hl _ _ kk => ?_) k
  refine va_WaastN (C := E) C.1 C.2.1 (P.2.2.2 a t _ ha).2 ((K.1.2 kd _ (fp_tys_at hty)).1 n (fun j => va_rf (f j))) (fun h => by cases h) (by show ¬ (i < 0 ∨ (arrV _ _ _).slots.size ≤ _); rw [arrV_size]; exact hin) rfl rfl hd fun H1 e z oq => ?_
  refine kk H1 _ (P.put ha ?_ z oq) (fp_locs F (P.2.2.2 a t _ ha).1)
  show H1[a]? = some (vp_cell _ _)
  rw [e]
  show some ((vp_cell _ _).setSlot _ _) = _
  rw [vp_cell_q, vp_cell_q, arrV_store]
  congr 2
  funext q
  by_cases hq : q = i.toNatClampNeg
  · subst hq
    simp [updV, va_up, va_rf]
  · simp [updV, va_up, hq]
theorem wp_anew {i kd N : Nat} {n : Int32} {E : String} (t : Nat) (hd : decode M.2.1 pc = .ok (.anewarray i, 3)) (hty : fp_ty[kd]? = some (.object E)) (hw : Cond.classLink M.1.cls i E ∈ fp_tw) (hE : E = "FieldPack$Lane" ∨ E = "java/lang/Object") (hn : ¬ n < 0) (hN : n.toNatClampNeg = N) (hb : N * 4 ≤ 536870912)
    (k : fp_wp G d M (pc + 3) L (.ref h.2.1 :: rest) (fp_new h t (.inl (kd, N, .inr (.inr (.inr (.inr (fun _ => none)))))) N) Q) : fp_wp G d M pc L (.int n :: rest) h Q := by
  subst hN
  refine fp_liftH (h1 := fp_new h t (.inl (kd, n.toNatClampNeg, .inr (.inr (.inr (.inr (fun _ => none)))))) n.toNatClampNeg) (dc := 1) (ds := n.toNatClampNeg) rfl rfl (fun p l e mc ms s m args below meth c H locs cells slots Qz ls C K P F hl hcells hslots kk => ?_) k
  have hAO : va_AO E s := by
    rcases hE with rfl | rfl
    · exact K.2.1.2.2.2.2.1
    · exact K.2.1.2.2.2.2.2
  refine W.anew C.1 C.2.1 C.2.2.2.2.2.1 (C.2.2.2.2.2.2.2 _ hw) (va_AO.use hAO) rfl hd rfl hn hb hcells hslots fun cA kA comp f1 f2 f3 f4 => ?_
  have hcA : cA = G.2.2.1 kd := by
    obtain ⟨kA2, comp2, r1, r2, r3, r4⟩ := (K.1.2 kd _ (fp_tys_at hty)).2
    exact Option.some.inj (f1.symm.trans r4)
  subst hcA
  generalize hH1 : H.push ({ cls := G.2.2.1 kd, slots := Array.replicate n.toNatClampNeg .null, vm := .none } : Cell) = H1
  have z1 : H1.size = H.size + 1 := by rw [← hH1, Array.size_push]
  have e1 : H1[H.size]? = some (arrV (G.2.2.1 kd) n.toNatClampNeg (fun _ => .null)) := by rw [← hH1, Array.getElem?_push_size, ← arrV_new]
  have o1 : ∀ q : Nat, q < H.size → H1[q]? = H[q]? := fun q hq => by rw [← hH1, Array.getElem?_push, if_neg (Nat.ne_of_lt hq)]
  have hP1 : fp_rep G (fp_new h t (.inl (kd, n.toNatClampNeg, .inr (.inr (.inr (.inr (fun _ => none)))))) n.toNatClampNeg) H1 := P.new (by show H1[H.size]? = some (vp_cell _ _); rw [vp_cell_q]; exact e1) z1 o1
  have := kk H1 locs hP1 F
  rw [← P.1] at this
  exact this
theorem wp_cast {i a t ci : Nat} {nm : String} {r : vw_C} {fs : List Value} (hd : decode M.2.1 pc = .ok (.checkcast i, 3)) (hw : Cond.classLink M.1.cls i nm ∈ fp_tw) (ha : h.1 a = some (t, .inr (ci, fs))) (hc : vwCl[ci]? = some r) (hca : Cond.castable r.1 nm ∈ fp_tn)
    (k : fp_wp G d M (pc + 3) L (.ref a :: rest) h Q) : fp_wp G d M pc L (.ref a :: rest) h Q :=
  fp_lift (fun p l e R s m args below meth c H locs cells slots Qz ls C K P hl kk => va_castY C.1 C.2.1 C.2.2.2.2.2.1 (C.2.2.2.2.2.2.2 _ hw) (K.2.2 _ hca) (va_recv K.1 (P.one ha) (ci := ci) (q0 := 0) hc rfl) hd (kk ls hl)) k
theorem wp_castN {i : Nat} (hd : decode M.2.1 pc = .ok (.checkcast i, 3)) (k : fp_wp G d M (pc + 3) L (.null :: rest) h Q) : fp_wp G d M pc L (.null :: rest) h Q :=
  fp_lift (fun p l e R s m args below meth c H locs cells slots Qz ls C K P hl kk => lv_castN C.1 C.2.1 hd (kk ls hl)) k
/-- ArrayList's empty array -/
theorem wp_getsE {i : Nat} (hd : decode M.2.1 pc = .ok (.getstatic i, 3)) (hw : Cond.fieldLink M.1.cls i "java/util/ArrayList" "DEFAULTCAPACITY_EMPTY_ELEMENTDATA" "[Ljava/lang/Object;" ∈ fp_tw) (k : fp_wp G d M (pc + 3) L (.ref (G.2.2.2.1 0) :: rest) h Q) : fp_wp G d M pc L rest h Q := by
  refine fp_lift (fun p l e R s m args below meth c H locs cells slots Qz ls C K P hl kk => ?_) k
  obtain ⟨cf, kf, fi, f, a, cell, h1, h2, h3, h4, h5, h6, h7, h8⟩ := K.2.1.1
  exact W.gets C.1 C.2.1 C.2.2.2.2.2.1 (C.2.2.2.2.2.2.2 _ hw) h1 h2 h3 h4 (by rw [P.2.2.1 a (Nat.not_le.mp h8)]; exact h5) (fun e => by rw [e] at h6; cases h6) h7 rfl hd (kk ls hl)
theorem fp_oldT {ty : FieldType} {a N : Nat} {f : Nat → Value} {U : State} {H : Heap} (P : fp_rep G h H) (hT : va_T ty a N f (fp_old G) U G.1) : va_T ty a N f (fp_old G) U H := hT.kept (fun q _ hq => P.2.2.1 q (Nat.not_le.mp hq))
theorem wp_alenE (hd : decode M.2.1 pc = .ok (.arraylength, 1)) (k : fp_wp G d M (pc + 1) L (.int 0 :: rest) h Q) : fp_wp G d M pc L (.ref (G.2.2.2.1 0) :: rest) h Q := by
  refine fp_lift (fun p l e R s m args below meth c H locs cells slots Qz ls C K P hl kk => ?_) k
  obtain ⟨cell, h1, h2, h3, h4, h5, h6, h7⟩ := fp_oldT P K.2.1.2.1
  exact W.alen C.1 C.2.1 h1 h2 h5 rfl rfl hd (kk ls hl)
/-- the script -/
theorem wp_alenS (hd : decode M.2.1 pc = .ok (.arraylength, 1)) (k : fp_wp G d M (pc + 1) L (.int (nI (G.2.2.2.1 3)) :: rest) h Q) : fp_wp G d M pc L (.ref (G.2.2.2.1 2) :: rest) h Q := by
  refine fp_lift (fun p l e R s m args below meth c H locs cells slots Qz ls C K P hl kk => ?_) k
  obtain ⟨cell, h1, h2, h3, h4, h5, h6, h7⟩ := fp_oldT P K.2.1.2.2.2.1
  exact W.alen C.1 C.2.1 h1 h2 h5 rfl rfl hd (kk ls hl)
theorem wp_ialdS {i : Int32} (hd : decode M.2.1 pc = .ok (.iaload, 1)) (hin : vp_in i (G.2.2.2.1 3)) (k : fp_wp G d M (pc + 1) L (.int (G.2.2.2.2 i.toNatClampNeg) :: rest) h Q) : fp_wp G d M pc L (.int i :: .ref (G.2.2.2.1 2) :: rest) h Q := by
  refine fp_lift (fun p l e R s m args below meth c H locs cells slots Qz ls C K P hl kk => ?_) k
  obtain ⟨cell, h1, h2, h3, h4, h5, h6, h7⟩ := fp_oldT P K.2.1.2.2.2.1
  have hlt : i.toNatClampNeg < G.2.2.2.1 3 := Nat.not_le.mp fun q => hin (Or.inr q)
  exact W.iald C.1 C.2.1 h1 h2 h3 (fun q => by
    rcases q with q | q
    · exact hin (Or.inl q)
    · omega) (h6 _ hlt) rfl rfl hd (kk ls hl)
/-- a class constant, and getClass of an array of Objects -/
theorem wp_ldcM {i : Nat} (hd : decode M.2.1 pc = .ok (.ldc i, 2)) (hw : Cond.classLink M.1.cls i "[Ljava/lang/Object;" ∈ fp_tw) (k : fp_wp G d M (pc + 2) L (.ref (G.2.2.2.1 1) :: rest) h Q) : fp_wp G d M pc L rest h Q :=
  fp_lift (fun p l e R s m args below meth c H locs cells slots Qz ls C K P hl kk => va_ldcM C.1 C.2.1 C.2.2.2.2.2.1 (C.2.2.2.2.2.2.2 _ hw) K.2.1.2.2.1 hd (kk ls hl)) k
abbrev fp_yGC : MethodName := ⟨"java/lang/Object", "getClass", "()Ljava/lang/Class;"⟩
theorem wp_getC {i a t n : Nat} {f : Nat → Option Nat} (hd : decode M.2.1 pc = .ok (.invokevirtual i, 3)) (hw : Cond.methodLink M.1.cls i fp_yGC ∈ fp_tw ∧ Cond.declares fp_yGC ∈ fp_tn ∧ Cond.selects "[Ljava/lang/Object;" fp_yGC fp_yGC ∈ fp_tw ∧ Cond.instanceMethod fp_yGC ∈ fp_tw ∧ Cond.native fp_yGC ∈ fp_tw) (hdd : 1 ≤ d.1 ∧ 22 ≤ d.2) (hLen : L.length = M.2.2.1) (hroom : (rest.map fun v => v.category).sum ≤ 8)
    (ha : h.1 a = some (t, .inl (4, n, .inr (.inr (.inr (.inr f)))))) (k : fp_wp G d M (pc + 3) L (.ref (G.2.2.2.1 1) :: rest) h Q) : fp_wp G d M pc L (.ref a :: rest) h Q := by
  refine fp_liftH (h1 := h) (dc := 0) (ds := 0) rfl rfl (fun p l e mc ms s m args below meth c H locs cells slots Qz ls C K P F hl _ _ kk => ?_) k
  obtain ⟨hx, hb, hml, -, -, hown, hname, hts⟩ := C
  have hRA := (K.1.2 4 _ (fp_tys_at (G := G) (k := 4) (t := .object "java/lang/Object") rfl)).2
  exact va_getC hx hb (by rw [hml, ← hLen]; exact hl.1.symm) hown (hts _ hw.1) (va_Nw.use rfl (K.2.2 _ hw.2.1)) (hts _ hw.2.2.1) (hts _ hw.2.2.2.1) (hts _ hw.2.2.2.2) K.2.1.2.2.1
    ⟨_, (P.2.2.2 a t _ ha).2, rfl, va_nmO hRA (by decide)⟩ hdd.1 (by show _ ≤ d.2; omega) hd (kk H locs P F)
theorem fp_nn (z : Int32) (hz : ¬ z < 0) : z.toInt = (z.toNatClampNeg : Int) := by
  have hz0 : (0 : Int) ≤ z.toInt := by
    have := Int32.not_lt.mp hz
    simpa using Int32.le_iff_toInt_le.mp this
  show z.toInt = ((z.toInt.toNat : Nat) : Int)
  omega
/-- System.arraycopy, of ints -/
theorem wp_copyi {i a0 t0 n0 a t n1 : Nat} {sp dp n : Int32} {f g : Nat → Int32} (hd : decode M.2.1 pc = .ok (.invokestatic i, 3)) (hw : Cond.methodLink M.1.cls i arraycopyName ∈ fp_tw ∧ Cond.native arraycopyName ∈ fp_tw ∧ Cond.static arraycopyName ∈ fp_tw ∧ Cond.initialized "java/lang/System" ∈ fp_tw) (hdd : 1 ≤ d.1 ∧ 26 ≤ d.2) (hLen : L.length = M.2.2.1) (hroom : (rest.map fun v => v.category).sum ≤ 8)
    (ha0 : h.1 a0 = some (t0, .inl (0, n0, .inl f))) (ha : h.1 a = some (t, .inl (0, n1, .inl g))) (h1 : ¬ sp < 0) (h2 : ¬ dp < 0) (h3 : ¬ n < 0) (h4 : sp.toNatClampNeg + n.toNatClampNeg ≤ n0) (h5 : dp.toNatClampNeg + n.toNatClampNeg ≤ n1)
    (k : fp_wp G d M (pc + 3) L rest (fp_put h a t (.inl (0, n1, .inl (va_cpy f g sp.toNatClampNeg dp.toNatClampNeg n.toNatClampNeg)))) Q) : fp_wp G d M pc L (.int n :: .int dp :: .ref a :: .int sp :: .ref a0 :: rest) h Q := by
  refine fp_liftH (h1 := fp_put h a t (.inl (0, n1, .inl (va_cpy f g sp.toNatClampNeg dp.toNatClampNeg n.toNatClampNeg)))) (dc := 0) (ds := 0) rfl rfl (fun p l e mc ms s m args below meth c H locs cells slots Qz ls C K P F hl _ _ kk => ?_) k
  obtain ⟨hx, hb, hml, -, -, hown, hname, hts⟩ := C
  intro T hT X
  have hc0 : H[a0]? = some (arrV (G.2.2.1 0) n0 (fun j => .int (f j))) := (P.2.2.2 a0 t0 _ ha0).2
  have hc1 : H[a]? = some (arrV (G.2.2.1 0) n1 (fun j => .int (g j))) := (P.2.2.2 a t _ ha).2
  obtain ⟨-, k0, hk0, cm0, hkk0⟩ := (K.1.2 0 _ (fp_tys_at (G := G) (k := 0) (t := .int) rfl)).1 n0 (fun j => .int (f j))
  obtain ⟨vm', X', step⟩ := X.arraycopy hx hown (hts _ hw.1) (hts _ hw.2.1) (hts _ hw.2.2.1) (hts _ hw.2.2.2) (src := a0) (dst := a) (cs := arrV (G.2.2.1 0) n0 (fun j => .int (f j))) (cd := arrV (G.2.2.1 0) n1 (fun j => .int (g j))) (srcPos := sp) (destPos := dp) (n := n) (by rw [hT]; exact hc0) (by rw [hT]; exact hc1)
    (fun _ h => by cases h) (fun _ h => by cases h) (fun h => by cases h) (fun h => by cases h) hk0 hk0 hkk0 hkk0 (by simp [refKind]) h1 h2 h3
    (by rw [fp_nn sp h1, fp_nn n h3, arrV_size]; omega) (by rw [fp_nn dp h2, fp_nn n h3, arrV_size]; omega)
    (fun vm₁ _ i hi => by
      rw [Array.getD_eq_getD_getElem?, arrV_read _ _ (by omega)]
      exact ⟨rfl, trivial⟩)
    (g := F0 m pc ls (.int n :: .int dp :: .ref a :: .int sp :: .ref a0 :: rest)) rfl (by rw [hml, ← hLen]; exact hl.1) (rest := rest) rfl (by rw [hb]; exact hd) hdd.1 (by show 2 * 0 + _ + _ ≤ d.2; have hw : nativeFrameWords "java/lang/System" "arraycopy" 5 = 7 := (by decide); omega)
  have e1 : copied (arrV (G.2.2.1 0) n0 (fun j => .int (f j))) (arrV (G.2.2.1 0) n1 (fun j => .int (g j))) sp dp n = arrV (G.2.2.1 0) n1 (fun j => .int (va_cpy f g sp.toNatClampNeg dp.toNatClampNeg n.toNatClampNeg j)) := va_copied (fun z => .int z) _ _ f g h4
  rw [e1] at X' step
  have hla : a < H.size := (Array.getElem?_eq_some_iff.mp hc1).1
  obtain ⟨t2, a1, b1⟩ := kk (H.setIfInBounds a (arrV (G.2.2.1 0) n1 (fun j => .int (va_cpy f g sp.toNatClampNeg dp.toNatClampNeg n.toNatClampNeg j)))) _
    (P.put ha (show (H.setIfInBounds a _)[a]? = some _ by simp [Array.getElem?_setIfInBounds, hla]; rfl) (by simp) (fun q hq => by simp [Array.getElem?_setIfInBounds, Ne.symm hq]))
    (fun q hq => by
      rcases List.mem_append.mp hq with hq | hq
      · exact F q hq
      · obtain ⟨z, -, hz⟩ := List.mem_map.mp hq
        rw [← hz]
        exact (P.2.2.2 a t _ ha).1) _ (by rw [← hT]; rfl) X'
  exact ⟨t2, step t2 a1, b1⟩
/-- System.arraycopy, of references, of arrays of Objects -/
theorem wp_copyq {i a0 t0 n0 a t n1 : Nat} {sp dp n : Int32} {f g : Nat → Option Nat} (hd : decode M.2.1 pc = .ok (.invokestatic i, 3)) (hw : Cond.methodLink M.1.cls i arraycopyName ∈ fp_tw ∧ Cond.native arraycopyName ∈ fp_tw ∧ Cond.static arraycopyName ∈ fp_tw ∧ Cond.initialized "java/lang/System" ∈ fp_tw) (hdd : 1 ≤ d.1 ∧ 26 ≤ d.2) (hLen : L.length = M.2.2.1) (hroom : (rest.map fun v => v.category).sum ≤ 8)
    (ha0 : h.1 a0 = some (t0, .inl (4, n0, .inr (.inr (.inr (.inr f)))))) (ha : h.1 a = some (t, .inl (4, n1, .inr (.inr (.inr (.inr g)))))) (h1 : ¬ sp < 0) (h2 : ¬ dp < 0) (h3 : ¬ n < 0) (h4 : sp.toNatClampNeg + n.toNatClampNeg ≤ n0) (h5 : dp.toNatClampNeg + n.toNatClampNeg ≤ n1)
    (hel : ∀ i : Nat, i < n.toNatClampNeg → ∀ y : Nat, f (sp.toNatClampNeg + i) = some y → ∃ (ty ci : Nat) (fs : List Value) (r : vw_C), h.1 y = some (ty, .inr (ci, fs)) ∧ vwCl[ci]? = some r ∧ Cond.castable r.1 "java/lang/Object" ∈ fp_tn)
    (k : fp_wp G d M (pc + 3) L rest (fp_put h a t (.inl (4, n1, .inr (.inr (.inr (.inr (va_cpy f g sp.toNatClampNeg dp.toNatClampNeg n.toNatClampNeg))))))) Q) : fp_wp G d M pc L (.int n :: .int dp :: .ref a :: .int sp :: .ref a0 :: rest) h Q := by
  refine fp_liftH (h1 := fp_put h a t (.inl (4, n1, .inr (.inr (.inr (.inr (va_cpy f g sp.toNatClampNeg dp.toNatClampNeg n.toNatClampNeg))))))) (dc := 0) (ds := 0) rfl rfl (fun p l e mc ms s m args below meth c H locs cells slots Qz ls C K P F hl _ _ kk => ?_) k
  obtain ⟨hx, hb, hml, -, -, hown, hname, hts⟩ := C
  intro T hT X
  have hc0 : H[a0]? = some (arrV (G.2.2.1 4) n0 (fun j => va_rf (f j))) := (P.2.2.2 a0 t0 _ ha0).2
  have hc1 : H[a]? = some (arrV (G.2.2.1 4) n1 (fun j => va_rf (g j))) := (P.2.2.2 a t _ ha).2
  obtain ⟨-, k0, hk0, cm0, hkk0⟩ := (K.1.2 4 _ (fp_tys_at (G := G) (k := 4) (t := .object "java/lang/Object") rfl)).1 n0 (fun j => va_rf (f j))
  obtain ⟨vm', X', step⟩ := X.arraycopy hx hown (hts _ hw.1) (hts _ hw.2.1) (hts _ hw.2.2.1) (hts _ hw.2.2.2) (src := a0) (dst := a) (cs := arrV (G.2.2.1 4) n0 (fun j => va_rf (f j))) (cd := arrV (G.2.2.1 4) n1 (fun j => va_rf (g j))) (srcPos := sp) (destPos := dp) (n := n) (by rw [hT]; exact hc0) (by rw [hT]; exact hc1)
    (fun _ h => by cases h) (fun _ h => by cases h) (fun h => by cases h) (fun h => by cases h) hk0 hk0 hkk0 hkk0 (by simp [refKind]) h1 h2 h3
    (by rw [fp_nn sp h1, fp_nn n h3, arrV_size]; omega) (by rw [fp_nn dp h2, fp_nn n h3, arrV_size]; omega)
    (fun vm₁ hal i hi => by
      rw [Array.getD_eq_getD_getElem?, arrV_read _ _ (by omega)]
      show fits _ (va_rf (f _)) = true ∧ _
      cases hy : f (sp.toNatClampNeg + i) with
      | none => exact ⟨rfl, trivial⟩
      | some y =>
        obtain ⟨ty, ci, fs, r, q1, q2, q3⟩ := hel i hi y hy
        obtain ⟨r', hr', cellV, g1, g2, g3, -⟩ := (P.2.2.2 y ty _ q1).2
        have hcls := (K.1.1 ci r q2).2
        obtain ⟨kA, comp, r1, r2, r3, -⟩ := (K.1.2 4 _ (fp_tys_at (G := G) (k := 4) (t := .object "java/lang/Object") rfl)).2
        cases hk0.symm.trans r1
        cases hkk0.symm.trans r2
        obtain ⟨kC, hkC, -⟩ := hcls.2
        obtain ⟨kE, hkE, -⟩ := Vm.findClass_spec r3
        obtain ⟨kC', hkC', -⟩ := hal.2.2 _ _ hkC
        obtain ⟨kE', hkE', -⟩ := hal.2.2 _ _ hkE
        refine ⟨rfl, cellV, (show T.heap[y]? = some cellV by rw [hT]; exact g1), (fun q h => by rw [g3] at h; cases h), ⟨kC', by rw [g2]; exact hkC'⟩, ⟨kE', hkE'⟩, ?_⟩
        show vm₁.assignable _ _ = true
        rw [hal.assignable, g2]
        exact vb_asgC (K.2.2 _ q3) _ _ r3 hcls.1)
    (g := F0 m pc ls (.int n :: .int dp :: .ref a :: .int sp :: .ref a0 :: rest)) rfl (by rw [hml, ← hLen]; exact hl.1) (rest := rest) rfl (by rw [hb]; exact hd) hdd.1 (by show 2 * 0 + _ + _ ≤ d.2; have hw : nativeFrameWords "java/lang/System" "arraycopy" 5 = 7 := (by decide); omega)
  have e1 : copied (arrV (G.2.2.1 4) n0 (fun j => va_rf (f j))) (arrV (G.2.2.1 4) n1 (fun j => va_rf (g j))) sp dp n = arrV (G.2.2.1 4) n1 (fun j => va_rf (va_cpy f g sp.toNatClampNeg dp.toNatClampNeg n.toNatClampNeg j)) := va_copied (fun z => va_rf z) _ _ f g h4
  rw [e1] at X' step
  have hla : a < H.size := (Array.getElem?_eq_some_iff.mp hc1).1
  obtain ⟨t2, a1, b1⟩ := kk (H.setIfInBounds a (arrV (G.2.2.1 4) n1 (fun j => va_rf (va_cpy f g sp.toNatClampNeg dp.toNatClampNeg n.toNatClampNeg j)))) _
    (P.put ha (show (H.setIfInBounds a _)[a]? = some _ by simp [Array.getElem?_setIfInBounds, hla]; rfl) (by simp) (fun q hq => by simp [Array.getElem?_setIfInBounds, Ne.symm hq]))
    (fun q hq => by
      rcases List.mem_append.mp hq with hq | hq
      · exact F q hq
      · obtain ⟨z, -, hz⟩ := List.mem_map.mp hq
        rw [← hz]
        exact (P.2.2.2 a t _ ha).1) _ (by rw [← hT]; rfl) X'
  exact ⟨t2, step t2 a1, b1⟩
theorem wp_callSN {i n : Nat} {st As : List Value} {host : String} (hd : decode M.2.1 pc = .ok (.invokestatic i, 3)) (hme : fp_me M' n) (hw : Cond.methodLinkNest M.1.cls i M'.1 host ∈ fp_tn ∧ Cond.static M'.1 ∈ fp_tw) (hdd : d'.1 + 1 ≤ d.1 ∧ 8 + (M'.2.2.1 + 11) + d'.2 ≤ d.2) (hLen : L.length = M.2.2.1) (hn : As.length = n) (hst : st = As.reverse ++ rest) (hroom : (rest.map fun v => v.category).sum ≤ 8)
    (hc : fp_ct G d' M' As h Q') (k : ∀ r h1, Q' r h1 → fp_wp G d M (pc + 3) L (r.toList ++ rest) h1 Q) : fp_wp G d M pc L st h Q := by
  obtain ⟨r, h1, ⟨m1, m2, hM⟩, q'⟩ := hc
  refine fp_liftH (h1 := h1) (dc := h1.2.1 - h.2.1) (ds := h1.2.2 - h.2.2) (by omega) (by omega) (fun p l e mc ms s m args below meth c H locs cells slots Qz ls C K P F hl hcells hslots kk => ?_) (k r h1 q')
  obtain ⟨hx, hb, hml, -, -, hown, hname, hts⟩ := C
  exact fp_go (va_runSN (As := As) (rest := rest) ⟨hx, hb, hml, hown, hts⟩ (hM l) ⟨va_cnB n hts (fp_goodIn (fp_ws_in hme)) rfl rfl rfl (K.2.2 _ hw.1) (hts _ hme.2.1) hme.2.2 hdd, hts _ hw.2, trivial⟩
    ⟨fp_blind, fun U hU hW => ⟨rfl, by rw [hU]; exact P, K.moved hW⟩⟩ rfl hn (hl.1.trans hLen) hst (lv_room hroom) hd ⟨hcells, hslots⟩) F kk
end FPB
end
