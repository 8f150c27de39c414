def RX0 : String := "ExchangeWire$House"
def TX0 : u_T := fun k => match k with
  | 0 => ("ExchangeWire$House", "debts", "[I", true)
  | 1 => ("ExchangeWire$House", "borrowers", "[I", true)
  | 2 => ("ExchangeWire$House", "renewals", "[I", true)
  | 3 => ("ExchangeWire$House", "queues", "[[I", true)
  | _ => ("ExchangeWire$House", "queueLengths", "[I", true)
def tyX0 : Nat → FieldType := fun k => match k with
  | 0 => .array .int
  | 1 => .array .int
  | 2 => .array .int
  | 3 => .array (.array .int)
  | _ => .array .int
theorem nmX0 : ∀ a, a < 5 → ∀ b, b < 5 → a ≠ b → (TX0 a).2.1 ≠ (TX0 b).2.1 := by decide +kernel
theorem tyX0_ok : ∀ k, k < 5 → parseFieldDescriptor (TX0 k).2.2.1 = some (tyX0 k) := by decide +kernel
abbrev cX0_init : ByteArray := prog_2_method_1_code
def yX0_init : MethodName := ⟨RX0, "<init>", "()V"⟩
abbrev cX0_decide : ByteArray := prog_2_method_2_code
def yX0_decide : MethodName := ⟨RX0, "decide", "(LExchangeWire$Message;)Z"⟩
abbrev cX0_figureFor : ByteArray := prog_2_method_3_code
def yX0_figureFor : MethodName := ⟨RX0, "figureFor", "(LExchangeWire$Message;)I"⟩
abbrev cX0_lend : ByteArray := prog_2_method_4_code
def yX0_lend : MethodName := ⟨RX0, "lend", "(II)Z"⟩
abbrev cX0_bringBack : ByteArray := prog_2_method_5_code
def yX0_bringBack : MethodName := ⟨RX0, "bringBack", "(I)Z"⟩
abbrev cX0_pay : ByteArray := prog_2_method_6_code
def yX0_pay : MethodName := ⟨RX0, "pay", "(II)Z"⟩
abbrev cX0_queueUp : ByteArray := prog_2_method_7_code
def yX0_queueUp : MethodName := ⟨RX0, "queueUp", "(II)Z"⟩
abbrev cX0_renew : ByteArray := prog_2_method_8_code
def yX0_renew : MethodName := ⟨RX0, "renew", "(II)Z"⟩
abbrev cX0_itemsOf : ByteArray := prog_2_method_9_code
def yX0_itemsOf : MethodName := ⟨RX0, "itemsOf", "(I)I"⟩
abbrev cX0_isInQueue : ByteArray := prog_2_method_10_code
def yX0_isInQueue : MethodName := ⟨RX0, "isInQueue", "(II)Z"⟩
abbrev cX0_dropFirst : ByteArray := prog_2_method_11_code
def yX0_dropFirst : MethodName := ⟨RX0, "dropFirst", "(I)V"⟩
def RX1 : String := "ExchangeWire$Journal"
def TX1 : u_T := fun k => match k with
  | 0 => ("ExchangeWire$Journal", "parts", "[I", true)
  | _ => ("ExchangeWire$Journal", "count", "I", false)
def tyX1 : Nat → FieldType := fun k => match k with
  | 0 => .array .int
  | _ => .int
theorem nmX1 : ∀ a, a < 2 → ∀ b, b < 2 → a ≠ b → (TX1 a).2.1 ≠ (TX1 b).2.1 := by decide +kernel
theorem tyX1_ok : ∀ k, k < 2 → parseFieldDescriptor (TX1 k).2.2.1 = some (tyX1 k) := by decide +kernel
abbrev cX1_init : ByteArray := prog_3_method_1_code
def yX1_init : MethodName := ⟨RX1, "<init>", "()V"⟩
abbrev cX1_add : ByteArray := prog_3_method_2_code
def yX1_add : MethodName := ⟨RX1, "add", "(ILExchangeWire$Message;)V"⟩
abbrev cX1_tell : ByteArray := prog_3_method_3_code
def yX1_tell : MethodName := ⟨RX1, "tell", "(II)I"⟩
def RX2 : String := "ExchangeWire$Line"
def TX2 : u_T := fun k => match k with
  | 0 => ("ExchangeWire$Line", "signs", "[I", true)
  | 1 => ("ExchangeWire$Line", "count", "I", false)
  | 2 => ("ExchangeWire$Line", "broken", "Z", false)
  | 3 => ("ExchangeWire$Line", "signedOn", "Z", false)
  | 4 => ("ExchangeWire$Line", "latestNumber", "I", false)
  | 5 => ("ExchangeWire$Line", "wrongCount", "I", false)
  | 6 => ("ExchangeWire$Line", "shown", "LExchangeWire$Reply;", true)
  | 7 => ("ExchangeWire$Line", "kept", "LExchangeWire$Reply;", true)
  | 8 => ("ExchangeWire$Line", "rowKinds", "[I", true)
  | 9 => ("ExchangeWire$Line", "rowItems", "[I", true)
  | 10 => ("ExchangeWire$Line", "rowPersons", "[I", true)
  | _ => ("ExchangeWire$Line", "rowCount", "I", false)
def tyX2 : Nat → FieldType := fun k => match k with
  | 0 => .array .int
  | 1 => .int
  | 2 => .boolean
  | 3 => .boolean
  | 4 => .int
  | 5 => .int
  | 6 => .object "ExchangeWire$Reply"
  | 7 => .object "ExchangeWire$Reply"
  | 8 => .array .int
  | 9 => .array .int
  | 10 => .array .int
  | _ => .int
theorem nmX2 : ∀ a, a < 12 → ∀ b, b < 12 → a ≠ b → (TX2 a).2.1 ≠ (TX2 b).2.1 := by decide +kernel
theorem tyX2_ok : ∀ k, k < 12 → parseFieldDescriptor (TX2 k).2.2.1 = some (tyX2 k) := by decide +kernel
abbrev cX2_init : ByteArray := prog_4_method_1_code
def yX2_init : MethodName := ⟨RX2, "<init>", "()V"⟩
abbrev cX2_take : ByteArray := prog_4_method_2_code
def yX2_take : MethodName := ⟨RX2, "take", "(I)I"⟩
abbrev cX2_clear : ByteArray := prog_4_method_3_code
def yX2_clear : MethodName := ⟨RX2, "clear", "()V"⟩
abbrev cX2_addRow : ByteArray := prog_4_method_4_code
def yX2_addRow : MethodName := ⟨RX2, "addRow", "(III)I"⟩
def RX3 : String := "ExchangeWire$Message"
def TX3 : u_T := fun k => match k with
  | 0 => ("ExchangeWire$Message", "kind", "I", false)
  | 1 => ("ExchangeWire$Message", "number", "I", false)
  | 2 => ("ExchangeWire$Message", "person", "I", false)
  | 3 => ("ExchangeWire$Message", "item", "I", false)
  | _ => ("ExchangeWire$Message", "cents", "I", false)
def tyX3 : Nat → FieldType := fun k => match k with
  | 0 => .int
  | 1 => .int
  | 2 => .int
  | 3 => .int
  | _ => .int
theorem nmX3 : ∀ a, a < 5 → ∀ b, b < 5 → a ≠ b → (TX3 a).2.1 ≠ (TX3 b).2.1 := by decide +kernel
theorem tyX3_ok : ∀ k, k < 5 → parseFieldDescriptor (TX3 k).2.2.1 = some (tyX3 k) := by decide +kernel
abbrev cX3_init : ByteArray := prog_5_method_1_code
def yX3_init : MethodName := ⟨RX3, "<init>", "()V"⟩
abbrev cX3_fillFromRow : ByteArray := prog_5_method_2_code
def yX3_fillFromRow : MethodName := ⟨RX3, "fillFromRow", "(III)V"⟩
abbrev cX3_read : ByteArray := prog_5_method_3_code
def yX3_read : MethodName := ⟨RX3, "read", "([II)Z"⟩
abbrev cX3_firstBadField : ByteArray := prog_5_method_4_code
def yX3_firstBadField : MethodName := ⟨RX3, "firstBadField", "()I"⟩
abbrev cX3_changesTheHouse : ByteArray := prog_5_method_5_code
def yX3_changesTheHouse : MethodName := ⟨RX3, "changesTheHouse", "()Z"⟩
abbrev cX3_forget : ByteArray := prog_5_method_6_code
def yX3_forget : MethodName := ⟨RX3, "forget", "()V"⟩
abbrev cX3_fieldsOf : ByteArray := prog_5_method_7_code
def yX3_fieldsOf : MethodName := ⟨RX3, "fieldsOf", "(I)Ljava/lang/String;"⟩
abbrev cX3_readField : ByteArray := prog_5_method_8_code
def yX3_readField : MethodName := ⟨RX3, "readField", "(I[III)I"⟩
abbrev cX3_keepField : ByteArray := prog_5_method_9_code
def yX3_keepField : MethodName := ⟨RX3, "keepField", "(II)V"⟩
abbrev cX3_isGoodField : ByteArray := prog_5_method_10_code
def yX3_isGoodField : MethodName := ⟨RX3, "isGoodField", "(I)Z"⟩
abbrev cX3_endsWithSum : ByteArray := prog_5_method_11_code
def yX3_endsWithSum : MethodName := ⟨RX3, "endsWithSum", "([III)Z"⟩
def RX4 : String := "ExchangeWire$Reply"
def TX4 : u_T := fun k => match k with
  | 0 => ("ExchangeWire$Reply", "signs", "[I", true)
  | _ => ("ExchangeWire$Reply", "length", "I", false)
def tyX4 : Nat → FieldType := fun k => match k with
  | 0 => .array .int
  | _ => .int
theorem nmX4 : ∀ a, a < 2 → ∀ b, b < 2 → a ≠ b → (TX4 a).2.1 ≠ (TX4 b).2.1 := by decide +kernel
theorem tyX4_ok : ∀ k, k < 2 → parseFieldDescriptor (TX4 k).2.2.1 = some (tyX4 k) := by decide +kernel
abbrev cX4_init : ByteArray := prog_6_method_1_code
def yX4_init : MethodName := ⟨RX4, "<init>", "()V"⟩
abbrev cX4_writeWrong : ByteArray := prog_6_method_2_code
def yX4_writeWrong : MethodName := ⟨RX4, "writeWrong", "()V"⟩
abbrev cX4_writeNo : ByteArray := prog_6_method_3_code
def yX4_writeNo : MethodName := ⟨RX4, "writeNo", "(LExchangeWire$Message;)V"⟩
abbrev cX4_writeError : ByteArray := prog_6_method_4_code
def yX4_writeError : MethodName := ⟨RX4, "writeError", "(LExchangeWire$Message;I)V"⟩
abbrev cX4_writeVerdict : ByteArray := prog_6_method_5_code
def yX4_writeVerdict : MethodName := ⟨RX4, "writeVerdict", "(LExchangeWire$Message;ZI)V"⟩
abbrev cX4_copy : ByteArray := prog_6_method_6_code
def yX4_copy : MethodName := ⟨RX4, "copy", "(LExchangeWire$Reply;)V"⟩
abbrev cX4_addSource : ByteArray := prog_6_method_7_code
def yX4_addSource : MethodName := ⟨RX4, "addSource", "(LExchangeWire$Message;)V"⟩
abbrev cX4_addSumAndEnd : ByteArray := prog_6_method_8_code
def yX4_addSumAndEnd : MethodName := ⟨RX4, "addSumAndEnd", "()V"⟩
abbrev cX4_addDigits : ByteArray := prog_6_method_9_code
def yX4_addDigits : MethodName := ⟨RX4, "addDigits", "(I)V"⟩
abbrev cX4_add : ByteArray := prog_6_method_10_code
def yX4_add : MethodName := ⟨RX4, "add", "(I)V"⟩
def RX5 : String := "ExchangeWire"
def TX5 : u_T := fun k => match k with
  | 0 => ("ExchangeWire", "lines", "[LExchangeWire$Line;", true)
  | 1 => ("ExchangeWire", "house", "LExchangeWire$House;", true)
  | 2 => ("ExchangeWire", "journal", "LExchangeWire$Journal;", true)
  | 3 => ("ExchangeWire", "message", "LExchangeWire$Message;", true)
  | _ => ("ExchangeWire", "sumSoFar", "I", false)
def tyX5 : Nat → FieldType := fun k => match k with
  | 0 => .array (.object "ExchangeWire$Line")
  | 1 => .object "ExchangeWire$House"
  | 2 => .object "ExchangeWire$Journal"
  | 3 => .object "ExchangeWire$Message"
  | _ => .int
theorem nmX5 : ∀ a, a < 5 → ∀ b, b < 5 → a ≠ b → (TX5 a).2.1 ≠ (TX5 b).2.1 := by decide +kernel
theorem tyX5_ok : ∀ k, k < 5 → parseFieldDescriptor (TX5 k).2.2.1 = some (tyX5 k) := by decide +kernel
abbrev cX5_init : ByteArray := prog_1_method_1_code
def yX5_init : MethodName := ⟨RX5, "<init>", "()V"⟩
abbrev cX5_octet : ByteArray := prog_1_method_2_code
def yX5_octet : MethodName := ⟨RX5, "octet", "(II)I"⟩
abbrev cX5_answer : ByteArray := prog_1_method_3_code
def yX5_answer : MethodName := ⟨RX5, "answer", "(II)I"⟩
abbrev cX5_reset : ByteArray := prog_1_method_4_code
def yX5_reset : MethodName := ⟨RX5, "reset", "(I)I"⟩
abbrev cX5_offline : ByteArray := prog_1_method_5_code
def yX5_offline : MethodName := ⟨RX5, "offline", "(IIII)I"⟩
abbrev cX5_join : ByteArray := prog_1_method_6_code
def yX5_join : MethodName := ⟨RX5, "join", "(I)I"⟩
abbrev cX5_owes : ByteArray := prog_1_method_7_code
def yX5_owes : MethodName := ⟨RX5, "owes", "(II)I"⟩
abbrev cX5_acts : ByteArray := prog_1_method_8_code
def yX5_acts : MethodName := ⟨RX5, "acts", "()I"⟩
abbrev cX5_act : ByteArray := prog_1_method_9_code
def yX5_act : MethodName := ⟨RX5, "act", "(II)I"⟩
abbrev cX5_sum : ByteArray := prog_1_method_10_code
def yX5_sum : MethodName := ⟨RX5, "sum", "(I)I"⟩
abbrev cX5_state : ByteArray := prog_1_method_11_code
def yX5_state : MethodName := ⟨RX5, "state", "(II)I"⟩
abbrev cX5_waits : ByteArray := prog_1_method_12_code
def yX5_waits : MethodName := ⟨RX5, "waits", "(II)I"⟩
abbrev cX5_endMessage : ByteArray := prog_1_method_13_code
def yX5_endMessage : MethodName := ⟨RX5, "endMessage", "(ILExchangeWire$Line;)V"⟩
abbrev cX5_doMessage : ByteArray := prog_1_method_14_code
def yX5_doMessage : MethodName := ⟨RX5, "doMessage", "(ILExchangeWire$Line;)V"⟩
abbrev cX5_carryOut : ByteArray := prog_1_method_15_code
def yX5_carryOut : MethodName := ⟨RX5, "carryOut", "(I)Z"⟩
abbrev cX5_isBelow : ByteArray := prog_1_method_16_code
def yX5_isBelow : MethodName := ⟨RX5, "isBelow", "(II)Z"⟩
abbrev cX5_isDigit : ByteArray := prog_1_method_17_code
def yX5_isDigit : MethodName := ⟨RX5, "isDigit", "(I)Z"⟩
abbrev cX5_hexDigit : ByteArray := prog_1_method_18_code
def yX5_hexDigit : MethodName := ⟨RX5, "hexDigit", "(I)I"⟩
abbrev cX5_sumOf : ByteArray := prog_1_method_19_code
def yX5_sumOf : MethodName := ⟨RX5, "sumOf", "([II)I"⟩
def RX6 : String := "ExchangeWireModel"
def TX6 : u_T := fun k => match k with
  | 0 => ("ExchangeWireModel", "thrown", "I", false)
  | 1 => ("ExchangeWireModel", "size", "[I", true)
  | 2 => ("ExchangeWireModel", "line", "[B", true)
  | 3 => ("ExchangeWireModel", "broken", "[Z", true)
  | 4 => ("ExchangeWireModel", "signed", "[Z", true)
  | 5 => ("ExchangeWireModel", "done", "[I", true)
  | 6 => ("ExchangeWireModel", "wrongs", "[I", true)
  | 7 => ("ExchangeWireModel", "told", "[I", true)
  | 8 => ("ExchangeWireModel", "answers", "[B", true)
  | 9 => ("ExchangeWireModel", "kept", "[I", true)
  | 10 => ("ExchangeWireModel", "keeps", "[B", true)
  | 11 => ("ExchangeWireModel", "rows", "[I", true)
  | 12 => ("ExchangeWireModel", "rowKind", "[I", true)
  | 13 => ("ExchangeWireModel", "rowItem", "[I", true)
  | 14 => ("ExchangeWireModel", "rowPerson", "[I", true)
  | 15 => ("ExchangeWireModel", "owes", "[I", true)
  | 16 => ("ExchangeWireModel", "lent", "[I", true)
  | 17 => ("ExchangeWireModel", "renewed", "[I", true)
  | 18 => ("ExchangeWireModel", "waiting", "[I", true)
  | 19 => ("ExchangeWireModel", "waits", "[I", true)
  | 20 => ("ExchangeWireModel", "acts", "I", false)
  | 21 => ("ExchangeWireModel", "actRow", "[I", true)
  | 22 => ("ExchangeWireModel", "summed", "I", false)
  | 23 => ("ExchangeWireModel", "at", "I", false)
  | 24 => ("ExchangeWireModel", "kind", "I", false)
  | 25 => ("ExchangeWireModel", "number", "I", false)
  | 26 => ("ExchangeWireModel", "person", "I", false)
  | 27 => ("ExchangeWireModel", "item", "I", false)
  | 28 => ("ExchangeWireModel", "cents", "I", false)
  | _ => ("ExchangeWireModel", "verdict", "Z", false)
def tyX6 : Nat → FieldType := fun k => match k with
  | 0 => .int
  | 1 => .array .int
  | 2 => .array .byte
  | 3 => .array .boolean
  | 4 => .array .boolean
  | 5 => .array .int
  | 6 => .array .int
  | 7 => .array .int
  | 8 => .array .byte
  | 9 => .array .int
  | 10 => .array .byte
  | 11 => .array .int
  | 12 => .array .int
  | 13 => .array .int
  | 14 => .array .int
  | 15 => .array .int
  | 16 => .array .int
  | 17 => .array .int
  | 18 => .array .int
  | 19 => .array .int
  | 20 => .int
  | 21 => .array .int
  | 22 => .int
  | 23 => .int
  | 24 => .int
  | 25 => .int
  | 26 => .int
  | 27 => .int
  | 28 => .int
  | _ => .boolean
theorem nmX6 : ∀ a, a < 30 → ∀ b, b < 30 → a ≠ b → (TX6 a).2.1 ≠ (TX6 b).2.1 := by decide +kernel
theorem tyX6_ok : ∀ k, k < 30 → parseFieldDescriptor (TX6 k).2.2.1 = some (tyX6 k) := by decide +kernel
abbrev cX6_init : ByteArray := prog_8_method_1_code
def yX6_init : MethodName := ⟨RX6, "<init>", "()V"⟩
abbrev cX6_in : ByteArray := prog_8_method_3_code
def yX6_in : MethodName := ⟨RX6, "in", "(III)Z"⟩
abbrev cX6_isDevice : ByteArray := prog_8_method_4_code
def yX6_isDevice : MethodName := ⟨RX6, "isDevice", "(I)Z"⟩
abbrev cX6_look : ByteArray := prog_8_method_5_code
def yX6_look : MethodName := ⟨RX6, "look", "(I)I"⟩
abbrev cX6_isKind : ByteArray := prog_8_method_6_code
def yX6_isKind : MethodName := ⟨RX6, "isKind", "(I)Z"⟩
abbrev cX6_hasPerson : ByteArray := prog_8_method_7_code
def yX6_hasPerson : MethodName := ⟨RX6, "hasPerson", "(I)Z"⟩
abbrev cX6_hasItem : ByteArray := prog_8_method_8_code
def yX6_hasItem : MethodName := ⟨RX6, "hasItem", "(I)Z"⟩
abbrev cX6_field : ByteArray := prog_8_method_9_code
def yX6_field : MethodName := ⟨RX6, "field", "(II)I"⟩
abbrev cX6_hex : ByteArray := prog_8_method_10_code
def yX6_hex : MethodName := ⟨RX6, "hex", "(I)I"⟩
abbrev cX6_digit : ByteArray := prog_8_method_11_code
def yX6_digit : MethodName := ⟨RX6, "digit", "(I)I"⟩
abbrev cX6_reads : ByteArray := prog_8_method_12_code
def yX6_reads : MethodName := ⟨RX6, "reads", "(I)Z"⟩
abbrev cX6_put : ByteArray := prog_8_method_13_code
def yX6_put : MethodName := ⟨RX6, "put", "(II)V"⟩
abbrev cX6_close : ByteArray := prog_8_method_14_code
def yX6_close : MethodName := ⟨RX6, "close", "(I)V"⟩
abbrev cX6_finish : ByteArray := prog_8_method_15_code
def yX6_finish : MethodName := ⟨RX6, "finish", "(IZ)V"⟩
abbrev cX6_again : ByteArray := prog_8_method_16_code
def yX6_again : MethodName := ⟨RX6, "again", "(I)V"⟩
abbrev cX6_bad : ByteArray := prog_8_method_17_code
def yX6_bad : MethodName := ⟨RX6, "bad", "()I"⟩
abbrev cX6_answers : ByteArray := prog_8_method_18_code
def yX6_answers : MethodName := ⟨RX6, "answers", "(I)V"⟩
abbrev cX6_items : ByteArray := prog_8_method_19_code
def yX6_items : MethodName := ⟨RX6, "items", "(I)I"⟩
abbrev cX6_placeOf : ByteArray := prog_8_method_20_code
def yX6_placeOf : MethodName := ⟨RX6, "placeOf", "(II)I"⟩
abbrev cX6_enter : ByteArray := prog_8_method_21_code
def yX6_enter : MethodName := ⟨RX6, "enter", "(IIIII)V"⟩
abbrev cX6_lends : ByteArray := prog_8_method_22_code
def yX6_lends : MethodName := ⟨RX6, "lends", "(II)I"⟩
abbrev cX6_brings : ByteArray := prog_8_method_23_code
def yX6_brings : MethodName := ⟨RX6, "brings", "(II)I"⟩
abbrev cX6_judge : ByteArray := prog_8_method_24_code
def yX6_judge : MethodName := ⟨RX6, "judge", "(II)I"⟩
abbrev cX6_octet : ByteArray := prog_8_method_25_code
def yX6_octet : MethodName := ⟨RX6, "octet", "(II)I"⟩
abbrev cX6_answer : ByteArray := prog_8_method_26_code
def yX6_answer : MethodName := ⟨RX6, "answer", "(II)I"⟩
abbrev cX6_reset : ByteArray := prog_8_method_27_code
def yX6_reset : MethodName := ⟨RX6, "reset", "(I)I"⟩
abbrev cX6_offline : ByteArray := prog_8_method_28_code
def yX6_offline : MethodName := ⟨RX6, "offline", "(IIII)I"⟩
abbrev cX6_join : ByteArray := prog_8_method_29_code
def yX6_join : MethodName := ⟨RX6, "join", "(I)I"⟩
abbrev cX6_owes : ByteArray := prog_8_method_30_code
def yX6_owes : MethodName := ⟨RX6, "owes", "(II)I"⟩
abbrev cX6_acts : ByteArray := prog_8_method_31_code
def yX6_acts : MethodName := ⟨RX6, "acts", "()I"⟩
abbrev cX6_act : ByteArray := prog_8_method_32_code
def yX6_act : MethodName := ⟨RX6, "act", "(II)I"⟩
abbrev cX6_sum : ByteArray := prog_8_method_33_code
def yX6_sum : MethodName := ⟨RX6, "sum", "(I)I"⟩
abbrev cX6_state : ByteArray := prog_8_method_34_code
def yX6_state : MethodName := ⟨RX6, "state", "(II)I"⟩
abbrev cX6_waits : ByteArray := prog_8_method_35_code
def yX6_waits : MethodName := ⟨RX6, "waits", "(II)I"⟩
def RJx00060 : String := "java/lang/ArrayIndexOutOfBoundsException"
def TJx00060 : u_T := fun k => match k with
  | 0 => ("java/lang/Throwable", "cause", "Ljava/lang/Throwable;", false)
  | 1 => ("java/lang/Throwable", "stackTrace", "[Ljava/lang/StackTraceElement;", false)
  | 2 => ("java/lang/Throwable", "suppressedExceptions", "Ljava/util/List;", false)
  | 3 => ("java/lang/Throwable", "detailMessage", "Ljava/lang/String;", false)
  | 4 => ("java/lang/Throwable", "backtrace", "Ljava/lang/Object;", false)
  | _ => ("java/lang/Throwable", "depth", "I", false)
def tyJx00060 : Nat → FieldType := fun k => match k with
  | 0 => .object "java/lang/Throwable"
  | 1 => .array (.object "java/lang/StackTraceElement")
  | 2 => .object "java/util/List"
  | 3 => .object "java/lang/String"
  | 4 => .object "java/lang/Object"
  | _ => .int
theorem nmJx00060 : ∀ a, a < 6 → ∀ b, b < 6 → a ≠ b → (TJx00060 a).2.1 ≠ (TJx00060 b).2.1 := by decide +kernel
theorem tyJx00060_ok : ∀ k, k < 6 → parseFieldDescriptor (TJx00060 k).2.2.1 = some (tyJx00060 k) := by decide +kernel
abbrev cJx00060_init_a7421 : ByteArray := prog_9_method_2_code
def yJx00060_init_a7421 : MethodName := ⟨RJx00060, "<init>", "(Ljava/lang/String;)V"⟩
def RJ9 : String := "java/lang/Math"
def TJ9 : u_T := fun k => match k with
  | _ => ("", "", "", false)
def tyJ9 : Nat → FieldType := fun k => match k with
  | _ => .int
theorem nmJ9 : ∀ a, a < 0 → ∀ b, b < 0 → a ≠ b → (TJ9 a).2.1 ≠ (TJ9 b).2.1 := by decide +kernel
theorem tyJ9_ok : ∀ k, k < 0 → parseFieldDescriptor (TJ9 k).2.2.1 = some (tyJ9 k) := by decide +kernel
abbrev cJ9_min_7cf53 : ByteArray := prog_12_method_69_code
def yJ9_min_7cf53 : MethodName := ⟨RJ9, "min", "(II)I"⟩
def RJ0 : String := "java/lang/String"
def TJ0 : u_T := fun k => match k with
  | _ => ("", "", "", false)
def tyJ0 : Nat → FieldType := fun k => match k with
  | _ => .int
theorem nmJ0 : ∀ a, a < 0 → ∀ b, b < 0 → a ≠ b → (TJ0 a).2.1 ≠ (TJ0 b).2.1 := by decide +kernel
theorem tyJ0_ok : ∀ k, k < 0 → parseFieldDescriptor (TJ0 k).2.2.1 = some (tyJ0 k) := by decide +kernel
abbrev cJ0_length_8abf5 : ByteArray := prog_14_method_54_code
def yJ0_length_8abf5 : MethodName := ⟨RJ0, "length", "()I"⟩
abbrev cJ0_charAt_5068e : ByteArray := prog_14_method_56_code
def yJ0_charAt_5068e : MethodName := ⟨RJ0, "charAt", "(I)C"⟩
abbrev cJ0_coder_7d493 : ByteArray := prog_14_method_152_code
def yJ0_coder_7d493 : MethodName := ⟨RJ0, "coder", "()B"⟩
abbrev cJ0_isLatin1_aae02 : ByteArray := prog_14_method_154_code
def yJ0_isLatin1_aae02 : MethodName := ⟨RJ0, "isLatin1", "()Z"⟩
abbrev cJ0_checkIndex_df160 : ByteArray := prog_14_method_155_code
def yJ0_checkIndex_df160 : MethodName := ⟨RJ0, "checkIndex", "(II)V"⟩
def RJ1 : String := "java/lang/StringLatin1"
def TJ1 : u_T := fun k => match k with
  | _ => ("", "", "", false)
def tyJ1 : Nat → FieldType := fun k => match k with
  | _ => .int
theorem nmJ1 : ∀ a, a < 0 → ∀ b, b < 0 → a ≠ b → (TJ1 a).2.1 ≠ (TJ1 b).2.1 := by decide +kernel
theorem tyJ1_ok : ∀ k, k < 0 → parseFieldDescriptor (TJ1 k).2.2.1 = some (tyJ1 k) := by decide +kernel
abbrev cJ1_charAt_3b067 : ByteArray := prog_15_method_2_code
def yJ1_charAt_3b067 : MethodName := ⟨RJ1, "charAt", "([BI)C"⟩
def RJ2 : String := "java/lang/StringUTF16"
def TJ2 : u_T := fun k => match k with
  | _ => ("", "", "", false)
def tyJ2 : Nat → FieldType := fun k => match k with
  | _ => .int
theorem nmJ2 : ∀ a, a < 0 → ∀ b, b < 0 → a ≠ b → (TJ2 a).2.1 ≠ (TJ2 b).2.1 := by decide +kernel
theorem tyJ2_ok : ∀ k, k < 0 → parseFieldDescriptor (TJ2 k).2.2.1 = some (tyJ2 k) := by decide +kernel
abbrev cJ2_getChar_3b067 : ByteArray := prog_16_method_5_code
def yJ2_getChar_3b067 : MethodName := ⟨RJ2, "getChar", "([BI)C"⟩
abbrev cJ2_length_9d52b : ByteArray := prog_16_method_6_code
def yJ2_length_9d52b : MethodName := ⟨RJ2, "length", "([B)I"⟩
abbrev cJ2_charAt_3b067 : ByteArray := prog_16_method_83_code
def yJ2_charAt_3b067 : MethodName := ⟨RJ2, "charAt", "([BI)C"⟩
abbrev cJ2_checkIndex_2214a : ByteArray := prog_16_method_91_code
def yJ2_checkIndex_2214a : MethodName := ⟨RJ2, "checkIndex", "(I[B)V"⟩
def RJ10 : String := "java/lang/System"
def TJ10 : u_T := fun k => match k with
  | _ => ("", "", "", false)
def tyJ10 : Nat → FieldType := fun k => match k with
  | _ => .int
theorem nmJ10 : ∀ a, a < 0 → ∀ b, b < 0 → a ≠ b → (TJ10 a).2.1 ≠ (TJ10 b).2.1 := by decide +kernel
theorem tyJ10_ok : ∀ k, k < 0 → parseFieldDescriptor (TJ10 k).2.2.1 = some (tyJ10 k) := by decide +kernel
def RJ3 : String := "jdk/internal/util/Preconditions"
def TJ3 : u_T := fun k => match k with
  | _ => ("", "", "", false)
def tyJ3 : Nat → FieldType := fun k => match k with
  | _ => .int
theorem nmJ3 : ∀ a, a < 0 → ∀ b, b < 0 → a ≠ b → (TJ3 a).2.1 ≠ (TJ3 b).2.1 := by decide +kernel
theorem tyJ3_ok : ∀ k, k < 0 → parseFieldDescriptor (TJ3 k).2.2.1 = some (tyJ3 k) := by decide +kernel
abbrev cJ3_checkIndex_8e157 : ByteArray := prog_19_method_11_code
def yJ3_checkIndex_8e157 : MethodName := ⟨RJ3, "checkIndex", "(IILjava/util/function/BiFunction;)I"⟩
def RL : String := "ExchangeWireLaw"
abbrev cL_answer : ByteArray := method_3_code
def yL_answer : MethodName := ⟨RL, "answer", "(LExchangeWire;II[J)I"⟩
abbrev cL_law : ByteArray := code
def yL_law : MethodName := ⟨RL, "law", "([I)Z"⟩
abbrev classes : List vw_C := [(RX0, TX0, 5), (RX1, TX1, 2), (RX2, TX2, 12), (RX3, TX3, 5), (RX4, TX4, 2), (RX5, TX5, 5), (RX6, TX6, 30)]
abbrev ctypes : List (Nat → FieldType) := [tyX0, tyX1, tyX2, tyX3, tyX4, tyX5, tyX6]
abbrev xty : List FieldType := [.long, .int, .byte, .boolean, .object "ExchangeWire$Line", .array .int]
def xnw : List Cond := [(Jvm.Cond.methodLinkNest "ExchangeWire" (15 : Nat) ({ cls := "ExchangeWire$Line", name := "<init>", desc := "()V" } : Jvm.MethodName) "ExchangeWire"), (Jvm.Cond.methodLinkNest "ExchangeWire$Line" (34 : Nat) ({ cls := "ExchangeWire$Reply", name := "<init>", desc := "()V" } : Jvm.MethodName) "ExchangeWire"), (Jvm.Cond.methodLinkNest "ExchangeWire" (25 : Nat) ({ cls := "ExchangeWire$Journal", name := "<init>", desc := "()V" } : Jvm.MethodName) "ExchangeWire"), (Jvm.Cond.methodLinkNest "ExchangeWire" (32 : Nat) ({ cls := "ExchangeWire$Message", name := "<init>", desc := "()V" } : Jvm.MethodName) "ExchangeWire"), (Jvm.Cond.methodLinkNest "ExchangeWire$Line" (54 : Nat) ({ cls := "ExchangeWire", name := "isBelow", desc := "(II)Z" } : Jvm.MethodName) "ExchangeWire"), (Jvm.Cond.methodLinkNest "ExchangeWire$Message" (34 : Nat) ({ cls := "ExchangeWire", name := "isDigit", desc := "(I)Z" } : Jvm.MethodName) "ExchangeWire"), (Jvm.Cond.methodLinkNest "ExchangeWire$Message" (84 : Nat) ({ cls := "ExchangeWire", name := "sumOf", desc := "([II)I" } : Jvm.MethodName) "ExchangeWire"), (Jvm.Cond.methodLinkNest "ExchangeWire$Message" (88 : Nat) ({ cls := "ExchangeWire", name := "hexDigit", desc := "(I)I" } : Jvm.MethodName) "ExchangeWire"), (Jvm.Cond.methodLinkNest "ExchangeWire$Reply" (47 : Nat) ({ cls := "ExchangeWire", name := "sumOf", desc := "([II)I" } : Jvm.MethodName) "ExchangeWire"), (Jvm.Cond.methodLinkNest "ExchangeWire$Reply" (51 : Nat) ({ cls := "ExchangeWire", name := "hexDigit", desc := "(I)I" } : Jvm.MethodName) "ExchangeWire"), (Jvm.Cond.methodLinkNest "ExchangeWire$Message" (79 : Nat) ({ cls := "ExchangeWire", name := "isBelow", desc := "(II)Z" } : Jvm.MethodName) "ExchangeWire"), (Jvm.Cond.methodLinkNest "ExchangeWire$House" (72 : Nat) ({ cls := "ExchangeWire", name := "isBelow", desc := "(II)Z" } : Jvm.MethodName) "ExchangeWire"), (Jvm.Cond.methodLinkNest "ExchangeWire$Journal" (19 : Nat) ({ cls := "ExchangeWire", name := "isBelow", desc := "(II)Z" } : Jvm.MethodName) "ExchangeWire")]
