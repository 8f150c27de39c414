section
-- ===== PART A: goes FIRST, ahead of the names: the tables' words, and 'selects' of the private methods out of them =====
/-- a private method of a class that the tables say can be made, by its rows of tables_1 -/
def lw_okq (q : MethodName × Nat) : Prop := (q.1.cls ≠ "java/lang/invoke/MethodHandle" ∧ q.1.cls ≠ "java/lang/invoke/VarHandle") ∧ Cond.instantiable q.1.cls q.2 ∈ tables_1 ∧ Cond.privateMethod q.1 ∈ tables_1 ∧ Cond.instanceMethod q.1 ∈ tables_1
theorem lw_p0 : lw_okq (⟨"ExchangeWire", "endMessage", "(ILExchangeWire$Line;)V"⟩, 5) := ⟨⟨by decide +kernel, by decide +kernel⟩, List.mem_of_getElem? (i := 20) (by decide +kernel), List.mem_of_getElem? (i := 207) (by decide +kernel), List.mem_of_getElem? (i := 208) (by decide +kernel)⟩
theorem lw_p1 : lw_okq (⟨"ExchangeWire$Message", "forget", "()V"⟩, 5) := ⟨⟨by decide +kernel, by decide +kernel⟩, List.mem_of_getElem? (i := 143) (by decide +kernel), List.mem_of_getElem? (i := 215) (by decide +kernel), List.mem_of_getElem? (i := 216) (by decide +kernel)⟩
theorem lw_p2 : lw_okq (⟨"ExchangeWire$Message", "readField", "(I[III)I"⟩, 5) := ⟨⟨by decide +kernel, by decide +kernel⟩, List.mem_of_getElem? (i := 143) (by decide +kernel), List.mem_of_getElem? (i := 278) (by decide +kernel), List.mem_of_getElem? (i := 279) (by decide +kernel)⟩
theorem lw_p3 : lw_okq (⟨"ExchangeWire$Message", "keepField", "(II)V"⟩, 5) := ⟨⟨by decide +kernel, by decide +kernel⟩, List.mem_of_getElem? (i := 143) (by decide +kernel), List.mem_of_getElem? (i := 285) (by decide +kernel), List.mem_of_getElem? (i := 286) (by decide +kernel)⟩
theorem lw_p4 : lw_okq (⟨"ExchangeWire$Reply", "add", "(I)V"⟩, 2) := ⟨⟨by decide +kernel, by decide +kernel⟩, List.mem_of_getElem? (i := 35) (by decide +kernel), List.mem_of_getElem? (i := 302) (by decide +kernel), List.mem_of_getElem? (i := 303) (by decide +kernel)⟩
theorem lw_p5 : lw_okq (⟨"ExchangeWire$Reply", "addSumAndEnd", "()V"⟩, 2) := ⟨⟨by decide +kernel, by decide +kernel⟩, List.mem_of_getElem? (i := 35) (by decide +kernel), List.mem_of_getElem? (i := 306) (by decide +kernel), List.mem_of_getElem? (i := 307) (by decide +kernel)⟩
theorem lw_p6 : lw_okq (⟨"ExchangeWire$Reply", "addSource", "(LExchangeWire$Message;)V"⟩, 2) := ⟨⟨by decide +kernel, by decide +kernel⟩, List.mem_of_getElem? (i := 35) (by decide +kernel), List.mem_of_getElem? (i := 316) (by decide +kernel), List.mem_of_getElem? (i := 317) (by decide +kernel)⟩
theorem lw_p7 : lw_okq (⟨"ExchangeWire", "doMessage", "(ILExchangeWire$Line;)V"⟩, 5) := ⟨⟨by decide +kernel, by decide +kernel⟩, List.mem_of_getElem? (i := 20) (by decide +kernel), List.mem_of_getElem? (i := 320) (by decide +kernel), List.mem_of_getElem? (i := 321) (by decide +kernel)⟩
theorem lw_p8 : lw_okq (⟨"ExchangeWire$Message", "isGoodField", "(I)Z"⟩, 5) := ⟨⟨by decide +kernel, by decide +kernel⟩, List.mem_of_getElem? (i := 143) (by decide +kernel), List.mem_of_getElem? (i := 328) (by decide +kernel), List.mem_of_getElem? (i := 329) (by decide +kernel)⟩
theorem lw_p9 : lw_okq (⟨"ExchangeWire", "carryOut", "(I)Z"⟩, 5) := ⟨⟨by decide +kernel, by decide +kernel⟩, List.mem_of_getElem? (i := 20) (by decide +kernel), List.mem_of_getElem? (i := 338) (by decide +kernel), List.mem_of_getElem? (i := 339) (by decide +kernel)⟩
theorem lw_p10 : lw_okq (⟨"ExchangeWire$House", "lend", "(II)Z"⟩, 5) := ⟨⟨by decide +kernel, by decide +kernel⟩, List.mem_of_getElem? (i := 101) (by decide +kernel), List.mem_of_getElem? (i := 346) (by decide +kernel), List.mem_of_getElem? (i := 347) (by decide +kernel)⟩
theorem lw_p11 : lw_okq (⟨"ExchangeWire$House", "dropFirst", "(I)V"⟩, 5) := ⟨⟨by decide +kernel, by decide +kernel⟩, List.mem_of_getElem? (i := 101) (by decide +kernel), List.mem_of_getElem? (i := 350) (by decide +kernel), List.mem_of_getElem? (i := 351) (by decide +kernel)⟩
theorem lw_p12 : lw_okq (⟨"ExchangeWire$House", "bringBack", "(I)Z"⟩, 5) := ⟨⟨by decide +kernel, by decide +kernel⟩, List.mem_of_getElem? (i := 101) (by decide +kernel), List.mem_of_getElem? (i := 354) (by decide +kernel), List.mem_of_getElem? (i := 355) (by decide +kernel)⟩
theorem lw_p13 : lw_okq (⟨"ExchangeWire$House", "pay", "(II)Z"⟩, 5) := ⟨⟨by decide +kernel, by decide +kernel⟩, List.mem_of_getElem? (i := 101) (by decide +kernel), List.mem_of_getElem? (i := 358) (by decide +kernel), List.mem_of_getElem? (i := 359) (by decide +kernel)⟩
theorem lw_p14 : lw_okq (⟨"ExchangeWire$House", "queueUp", "(II)Z"⟩, 5) := ⟨⟨by decide +kernel, by decide +kernel⟩, List.mem_of_getElem? (i := 101) (by decide +kernel), List.mem_of_getElem? (i := 362) (by decide +kernel), List.mem_of_getElem? (i := 363) (by decide +kernel)⟩
theorem lw_p15 : lw_okq (⟨"ExchangeWire$House", "isInQueue", "(II)Z"⟩, 5) := ⟨⟨by decide +kernel, by decide +kernel⟩, List.mem_of_getElem? (i := 101) (by decide +kernel), List.mem_of_getElem? (i := 366) (by decide +kernel), List.mem_of_getElem? (i := 367) (by decide +kernel)⟩
def lw_privs_1 : List (MethodName × Nat) := [(⟨"ExchangeWire", "endMessage", "(ILExchangeWire$Line;)V"⟩, 5), (⟨"ExchangeWire$Message", "forget", "()V"⟩, 5), (⟨"ExchangeWire$Message", "readField", "(I[III)I"⟩, 5), (⟨"ExchangeWire$Message", "keepField", "(II)V"⟩, 5), (⟨"ExchangeWire$Reply", "add", "(I)V"⟩, 2), (⟨"ExchangeWire$Reply", "addSumAndEnd", "()V"⟩, 2), (⟨"ExchangeWire$Reply", "addSource", "(LExchangeWire$Message;)V"⟩, 2), (⟨"ExchangeWire", "doMessage", "(ILExchangeWire$Line;)V"⟩, 5), (⟨"ExchangeWire$Message", "isGoodField", "(I)Z"⟩, 5), (⟨"ExchangeWire", "carryOut", "(I)Z"⟩, 5), (⟨"ExchangeWire$House", "lend", "(II)Z"⟩, 5), (⟨"ExchangeWire$House", "dropFirst", "(I)V"⟩, 5), (⟨"ExchangeWire$House", "bringBack", "(I)Z"⟩, 5), (⟨"ExchangeWire$House", "pay", "(II)Z"⟩, 5), (⟨"ExchangeWire$House", "queueUp", "(II)Z"⟩, 5), (⟨"ExchangeWire$House", "isInQueue", "(II)Z"⟩, 5)]
theorem lw_r1 : ∀ q ∈ lw_privs_1, lw_okq q := List.forall_mem_cons.mpr ⟨lw_p0, List.forall_mem_cons.mpr ⟨lw_p1, List.forall_mem_cons.mpr ⟨lw_p2, List.forall_mem_cons.mpr ⟨lw_p3, List.forall_mem_cons.mpr ⟨lw_p4, List.forall_mem_cons.mpr ⟨lw_p5, List.forall_mem_cons.mpr ⟨lw_p6, List.forall_mem_cons.mpr ⟨lw_p7, List.forall_mem_cons.mpr ⟨lw_p8, List.forall_mem_cons.mpr ⟨lw_p9, List.forall_mem_cons.mpr ⟨lw_p10, List.forall_mem_cons.mpr ⟨lw_p11, List.forall_mem_cons.mpr ⟨lw_p12, List.forall_mem_cons.mpr ⟨lw_p13, List.forall_mem_cons.mpr ⟨lw_p14, List.forall_mem_cons.mpr ⟨lw_p15, fun _ h => absurd h List.not_mem_nil⟩⟩⟩⟩⟩⟩⟩⟩⟩⟩⟩⟩⟩⟩⟩⟩
theorem lw_p16 : lw_okq (⟨"ExchangeWire$House", "renew", "(II)Z"⟩, 5) := ⟨⟨by decide +kernel, by decide +kernel⟩, List.mem_of_getElem? (i := 101) (by decide +kernel), List.mem_of_getElem? (i := 371) (by decide +kernel), List.mem_of_getElem? (i := 372) (by decide +kernel)⟩
theorem lw_p17 : lw_okq (⟨"ExchangeWire$House", "itemsOf", "(I)I"⟩, 5) := ⟨⟨by decide +kernel, by decide +kernel⟩, List.mem_of_getElem? (i := 101) (by decide +kernel), List.mem_of_getElem? (i := 388) (by decide +kernel), List.mem_of_getElem? (i := 389) (by decide +kernel)⟩
theorem lw_p18 : lw_okq (⟨"ExchangeWire$Reply", "addDigits", "(I)V"⟩, 2) := ⟨⟨by decide +kernel, by decide +kernel⟩, List.mem_of_getElem? (i := 35) (by decide +kernel), List.mem_of_getElem? (i := 396) (by decide +kernel), List.mem_of_getElem? (i := 397) (by decide +kernel)⟩
theorem lw_p19 : lw_okq (⟨"java/lang/Throwable", "fillInStackTrace", "(I)Ljava/lang/Throwable;"⟩, 6) := ⟨⟨by decide +kernel, by decide +kernel⟩, List.mem_of_getElem? (i := 509) (by decide +kernel), List.mem_of_getElem? (i := 507) (by decide +kernel), List.mem_of_getElem? (i := 508) (by decide +kernel)⟩
theorem lw_p20 : lw_okq (⟨"ExchangeWireModel", "answers", "(I)V"⟩, 30) := ⟨⟨by decide +kernel, by decide +kernel⟩, List.mem_of_getElem? (i := 541) (by decide +kernel), List.mem_of_getElem? (i := 649) (by decide +kernel), List.mem_of_getElem? (i := 650) (by decide +kernel)⟩
theorem lw_p21 : lw_okq (⟨"ExchangeWireModel", "reads", "(I)Z"⟩, 30) := ⟨⟨by decide +kernel, by decide +kernel⟩, List.mem_of_getElem? (i := 541) (by decide +kernel), List.mem_of_getElem? (i := 653) (by decide +kernel), List.mem_of_getElem? (i := 654) (by decide +kernel)⟩
theorem lw_p22 : lw_okq (⟨"ExchangeWireModel", "look", "(I)I"⟩, 30) := ⟨⟨by decide +kernel, by decide +kernel⟩, List.mem_of_getElem? (i := 541) (by decide +kernel), List.mem_of_getElem? (i := 657) (by decide +kernel), List.mem_of_getElem? (i := 658) (by decide +kernel)⟩
theorem lw_p23 : lw_okq (⟨"ExchangeWireModel", "field", "(II)I"⟩, 30) := ⟨⟨by decide +kernel, by decide +kernel⟩, List.mem_of_getElem? (i := 541) (by decide +kernel), List.mem_of_getElem? (i := 667) (by decide +kernel), List.mem_of_getElem? (i := 668) (by decide +kernel)⟩
theorem lw_p24 : lw_okq (⟨"ExchangeWireModel", "put", "(II)V"⟩, 30) := ⟨⟨by decide +kernel, by decide +kernel⟩, List.mem_of_getElem? (i := 541) (by decide +kernel), List.mem_of_getElem? (i := 677) (by decide +kernel), List.mem_of_getElem? (i := 678) (by decide +kernel)⟩
theorem lw_p25 : lw_okq (⟨"ExchangeWireModel", "close", "(I)V"⟩, 30) := ⟨⟨by decide +kernel, by decide +kernel⟩, List.mem_of_getElem? (i := 541) (by decide +kernel), List.mem_of_getElem? (i := 681) (by decide +kernel), List.mem_of_getElem? (i := 682) (by decide +kernel)⟩
theorem lw_p26 : lw_okq (⟨"ExchangeWireModel", "finish", "(IZ)V"⟩, 30) := ⟨⟨by decide +kernel, by decide +kernel⟩, List.mem_of_getElem? (i := 541) (by decide +kernel), List.mem_of_getElem? (i := 688) (by decide +kernel), List.mem_of_getElem? (i := 689) (by decide +kernel)⟩
theorem lw_p27 : lw_okq (⟨"ExchangeWireModel", "again", "(I)V"⟩, 30) := ⟨⟨by decide +kernel, by decide +kernel⟩, List.mem_of_getElem? (i := 541) (by decide +kernel), List.mem_of_getElem? (i := 692) (by decide +kernel), List.mem_of_getElem? (i := 693) (by decide +kernel)⟩
theorem lw_p28 : lw_okq (⟨"ExchangeWireModel", "bad", "()I"⟩, 30) := ⟨⟨by decide +kernel, by decide +kernel⟩, List.mem_of_getElem? (i := 541) (by decide +kernel), List.mem_of_getElem? (i := 696) (by decide +kernel), List.mem_of_getElem? (i := 697) (by decide +kernel)⟩
theorem lw_p29 : lw_okq (⟨"ExchangeWireModel", "judge", "(II)I"⟩, 30) := ⟨⟨by decide +kernel, by decide +kernel⟩, List.mem_of_getElem? (i := 541) (by decide +kernel), List.mem_of_getElem? (i := 701) (by decide +kernel), List.mem_of_getElem? (i := 702) (by decide +kernel)⟩
theorem lw_p30 : lw_okq (⟨"ExchangeWireModel", "lends", "(II)I"⟩, 30) := ⟨⟨by decide +kernel, by decide +kernel⟩, List.mem_of_getElem? (i := 541) (by decide +kernel), List.mem_of_getElem? (i := 705) (by decide +kernel), List.mem_of_getElem? (i := 706) (by decide +kernel)⟩
theorem lw_p31 : lw_okq (⟨"ExchangeWireModel", "enter", "(IIIII)V"⟩, 30) := ⟨⟨by decide +kernel, by decide +kernel⟩, List.mem_of_getElem? (i := 541) (by decide +kernel), List.mem_of_getElem? (i := 709) (by decide +kernel), List.mem_of_getElem? (i := 710) (by decide +kernel)⟩
def lw_privs_2 : List (MethodName × Nat) := [(⟨"ExchangeWire$House", "renew", "(II)Z"⟩, 5), (⟨"ExchangeWire$House", "itemsOf", "(I)I"⟩, 5), (⟨"ExchangeWire$Reply", "addDigits", "(I)V"⟩, 2), (⟨"java/lang/Throwable", "fillInStackTrace", "(I)Ljava/lang/Throwable;"⟩, 6), (⟨"ExchangeWireModel", "answers", "(I)V"⟩, 30), (⟨"ExchangeWireModel", "reads", "(I)Z"⟩, 30), (⟨"ExchangeWireModel", "look", "(I)I"⟩, 30), (⟨"ExchangeWireModel", "field", "(II)I"⟩, 30), (⟨"ExchangeWireModel", "put", "(II)V"⟩, 30), (⟨"ExchangeWireModel", "close", "(I)V"⟩, 30), (⟨"ExchangeWireModel", "finish", "(IZ)V"⟩, 30), (⟨"ExchangeWireModel", "again", "(I)V"⟩, 30), (⟨"ExchangeWireModel", "bad", "()I"⟩, 30), (⟨"ExchangeWireModel", "judge", "(II)I"⟩, 30), (⟨"ExchangeWireModel", "lends", "(II)I"⟩, 30), (⟨"ExchangeWireModel", "enter", "(IIIII)V"⟩, 30)]
theorem lw_r2 : ∀ q ∈ lw_privs_2, lw_okq q := List.forall_mem_cons.mpr ⟨lw_p16, List.forall_mem_cons.mpr ⟨lw_p17, List.forall_mem_cons.mpr ⟨lw_p18, List.forall_mem_cons.mpr ⟨lw_p19, List.forall_mem_cons.mpr ⟨lw_p20, List.forall_mem_cons.mpr ⟨lw_p21, List.forall_mem_cons.mpr ⟨lw_p22, List.forall_mem_cons.mpr ⟨lw_p23, List.forall_mem_cons.mpr ⟨lw_p24, List.forall_mem_cons.mpr ⟨lw_p25, List.forall_mem_cons.mpr ⟨lw_p26, List.forall_mem_cons.mpr ⟨lw_p27, List.forall_mem_cons.mpr ⟨lw_p28, List.forall_mem_cons.mpr ⟨lw_p29, List.forall_mem_cons.mpr ⟨lw_p30, List.forall_mem_cons.mpr ⟨lw_p31, fun _ h => absurd h List.not_mem_nil⟩⟩⟩⟩⟩⟩⟩⟩⟩⟩⟩⟩⟩⟩⟩⟩
theorem lw_p32 : lw_okq (⟨"ExchangeWireModel", "items", "(I)I"⟩, 30) := ⟨⟨by decide +kernel, by decide +kernel⟩, List.mem_of_getElem? (i := 541) (by decide +kernel), List.mem_of_getElem? (i := 713) (by decide +kernel), List.mem_of_getElem? (i := 714) (by decide +kernel)⟩
theorem lw_p33 : lw_okq (⟨"ExchangeWireModel", "brings", "(II)I"⟩, 30) := ⟨⟨by decide +kernel, by decide +kernel⟩, List.mem_of_getElem? (i := 541) (by decide +kernel), List.mem_of_getElem? (i := 717) (by decide +kernel), List.mem_of_getElem? (i := 718) (by decide +kernel)⟩
theorem lw_p34 : lw_okq (⟨"ExchangeWireModel", "placeOf", "(II)I"⟩, 30) := ⟨⟨by decide +kernel, by decide +kernel⟩, List.mem_of_getElem? (i := 541) (by decide +kernel), List.mem_of_getElem? (i := 721) (by decide +kernel), List.mem_of_getElem? (i := 722) (by decide +kernel)⟩
def lw_privs_3 : List (MethodName × Nat) := [(⟨"ExchangeWireModel", "items", "(I)I"⟩, 30), (⟨"ExchangeWireModel", "brings", "(II)I"⟩, 30), (⟨"ExchangeWireModel", "placeOf", "(II)I"⟩, 30)]
theorem lw_r3 : ∀ q ∈ lw_privs_3, lw_okq q := List.forall_mem_cons.mpr ⟨lw_p32, List.forall_mem_cons.mpr ⟨lw_p33, List.forall_mem_cons.mpr ⟨lw_p34, fun _ h => absurd h List.not_mem_nil⟩⟩⟩
def lw_privs : List (MethodName × Nat) := lw_privs_1 ++ (lw_privs_2 ++ (lw_privs_3))
def lw_tbl : List Cond := k2_sels lw_privs ++ tables_1
theorem lw_privs_ok : ∀ q ∈ lw_privs, lw_okq q := by
  show ∀ q ∈ lw_privs_1 ++ (lw_privs_2 ++ (lw_privs_3)), lw_okq q
  exact List.forall_mem_append.mpr ⟨lw_r1, List.forall_mem_append.mpr ⟨lw_r2, lw_r3⟩⟩
end
section
def RX0 : String := "ExchangeWire$House"
def TX0 : u_T := fun k => match k with
  | 0 => ("ExchangeWire$House", "debts", "[I", true)
  | 1 => ("ExchangeWire$House", "borrowers", "[I", true)
  | 2 => ("ExchangeWire$House", "renewals", "[I", true)
  | 3 => ("ExchangeWire$House", "queues", "[[I", true)
  | _ => ("ExchangeWire$House", "queueLengths", "[I", true)
def tyX0 : Nat → FieldType := fun k => match k with
  | 0 => .array .int
  | 1 => .array .int
  | 2 => .array .int
  | 3 => .array (.array .int)
  | _ => .array .int
theorem nmX0 : ∀ a, a < 5 → ∀ b, b < 5 → a ≠ b → (TX0 a).2.1 ≠ (TX0 b).2.1 := by decide +kernel
theorem tyX0_ok : ∀ k, k < 5 → parseFieldDescriptor (TX0 k).2.2.1 = some (tyX0 k) := by decide +kernel
abbrev cX0_init : ByteArray := prog_2_method_1_code
def yX0_init : MethodName := ⟨RX0, "<init>", "()V"⟩
abbrev cX0_decide : ByteArray := prog_2_method_2_code
def yX0_decide : MethodName := ⟨RX0, "decide", "(LExchangeWire$Message;)Z"⟩
abbrev cX0_figureFor : ByteArray := prog_2_method_3_code
def yX0_figureFor : MethodName := ⟨RX0, "figureFor", "(LExchangeWire$Message;)I"⟩
abbrev cX0_lend : ByteArray := prog_2_method_4_code
def yX0_lend : MethodName := ⟨RX0, "lend", "(II)Z"⟩
abbrev cX0_bringBack : ByteArray := prog_2_method_5_code
def yX0_bringBack : MethodName := ⟨RX0, "bringBack", "(I)Z"⟩
abbrev cX0_pay : ByteArray := prog_2_method_6_code
def yX0_pay : MethodName := ⟨RX0, "pay", "(II)Z"⟩
abbrev cX0_queueUp : ByteArray := prog_2_method_7_code
def yX0_queueUp : MethodName := ⟨RX0, "queueUp", "(II)Z"⟩
abbrev cX0_renew : ByteArray := prog_2_method_8_code
def yX0_renew : MethodName := ⟨RX0, "renew", "(II)Z"⟩
abbrev cX0_itemsOf : ByteArray := prog_2_method_9_code
def yX0_itemsOf : MethodName := ⟨RX0, "itemsOf", "(I)I"⟩
abbrev cX0_isInQueue : ByteArray := prog_2_method_10_code
def yX0_isInQueue : MethodName := ⟨RX0, "isInQueue", "(II)Z"⟩
abbrev cX0_dropFirst : ByteArray := prog_2_method_11_code
def yX0_dropFirst : MethodName := ⟨RX0, "dropFirst", "(I)V"⟩
def RX1 : String := "ExchangeWire$Journal"
def TX1 : u_T := fun k => match k with
  | 0 => ("ExchangeWire$Journal", "parts", "[I", true)
  | _ => ("ExchangeWire$Journal", "count", "I", false)
def tyX1 : Nat → FieldType := fun k => match k with
  | 0 => .array .int
  | _ => .int
theorem nmX1 : ∀ a, a < 2 → ∀ b, b < 2 → a ≠ b → (TX1 a).2.1 ≠ (TX1 b).2.1 := by decide +kernel
theorem tyX1_ok : ∀ k, k < 2 → parseFieldDescriptor (TX1 k).2.2.1 = some (tyX1 k) := by decide +kernel
abbrev cX1_init : ByteArray := prog_3_method_1_code
def yX1_init : MethodName := ⟨RX1, "<init>", "()V"⟩
abbrev cX1_add : ByteArray := prog_3_method_2_code
def yX1_add : MethodName := ⟨RX1, "add", "(ILExchangeWire$Message;)V"⟩
abbrev cX1_tell : ByteArray := prog_3_method_3_code
def yX1_tell : MethodName := ⟨RX1, "tell", "(II)I"⟩
def RX2 : String := "ExchangeWire$Line"
def TX2 : u_T := fun k => match k with
  | 0 => ("ExchangeWire$Line", "signs", "[I", true)
  | 1 => ("ExchangeWire$Line", "count", "I", false)
  | 2 => ("ExchangeWire$Line", "broken", "Z", false)
  | 3 => ("ExchangeWire$Line", "signedOn", "Z", false)
  | 4 => ("ExchangeWire$Line", "latestNumber", "I", false)
  | 5 => ("ExchangeWire$Line", "wrongCount", "I", false)
  | 6 => ("ExchangeWire$Line", "shown", "LExchangeWire$Reply;", true)
  | 7 => ("ExchangeWire$Line", "kept", "LExchangeWire$Reply;", true)
  | 8 => ("ExchangeWire$Line", "rowKinds", "[I", true)
  | 9 => ("ExchangeWire$Line", "rowItems", "[I", true)
  | 10 => ("ExchangeWire$Line", "rowPersons", "[I", true)
  | _ => ("ExchangeWire$Line", "rowCount", "I", false)
def tyX2 : Nat → FieldType := fun k => match k with
  | 0 => .array .int
  | 1 => .int
  | 2 => .boolean
  | 3 => .boolean
  | 4 => .int
  | 5 => .int
  | 6 => .object "ExchangeWire$Reply"
  | 7 => .object "ExchangeWire$Reply"
  | 8 => .array .int
  | 9 => .array .int
  | 10 => .array .int
  | _ => .int
theorem nmX2 : ∀ a, a < 12 → ∀ b, b < 12 → a ≠ b → (TX2 a).2.1 ≠ (TX2 b).2.1 := by decide +kernel
theorem tyX2_ok : ∀ k, k < 12 → parseFieldDescriptor (TX2 k).2.2.1 = some (tyX2 k) := by decide +kernel
abbrev cX2_init : ByteArray := prog_4_method_1_code
def yX2_init : MethodName := ⟨RX2, "<init>", "()V"⟩
abbrev cX2_take : ByteArray := prog_4_method_2_code
def yX2_take : MethodName := ⟨RX2, "take", "(I)I"⟩
abbrev cX2_clear : ByteArray := prog_4_method_3_code
def yX2_clear : MethodName := ⟨RX2, "clear", "()V"⟩
abbrev cX2_addRow : ByteArray := prog_4_method_4_code
def yX2_addRow : MethodName := ⟨RX2, "addRow", "(III)I"⟩
def RX3 : String := "ExchangeWire$Message"
def TX3 : u_T := fun k => match k with
  | 0 => ("ExchangeWire$Message", "kind", "I", false)
  | 1 => ("ExchangeWire$Message", "number", "I", false)
  | 2 => ("ExchangeWire$Message", "person", "I", false)
  | 3 => ("ExchangeWire$Message", "item", "I", false)
  | _ => ("ExchangeWire$Message", "cents", "I", false)
def tyX3 : Nat → FieldType := fun k => match k with
  | 0 => .int
  | 1 => .int
  | 2 => .int
  | 3 => .int
  | _ => .int
theorem nmX3 : ∀ a, a < 5 → ∀ b, b < 5 → a ≠ b → (TX3 a).2.1 ≠ (TX3 b).2.1 := by decide +kernel
theorem tyX3_ok : ∀ k, k < 5 → parseFieldDescriptor (TX3 k).2.2.1 = some (tyX3 k) := by decide +kernel
abbrev cX3_init : ByteArray := prog_5_method_1_code
def yX3_init : MethodName := ⟨RX3, "<init>", "()V"⟩
abbrev cX3_fillFromRow : ByteArray := prog_5_method_2_code
def yX3_fillFromRow : MethodName := ⟨RX3, "fillFromRow", "(III)V"⟩
abbrev cX3_read : ByteArray := prog_5_method_3_code
def yX3_read : MethodName := ⟨RX3, "read", "([II)Z"⟩
abbrev cX3_firstBadField : ByteArray := prog_5_method_4_code
def yX3_firstBadField : MethodName := ⟨RX3, "firstBadField", "()I"⟩
abbrev cX3_changesTheHouse : ByteArray := prog_5_method_5_code
def yX3_changesTheHouse : MethodName := ⟨RX3, "changesTheHouse", "()Z"⟩
abbrev cX3_forget : ByteArray := prog_5_method_6_code
def yX3_forget : MethodName := ⟨RX3, "forget", "()V"⟩
abbrev cX3_fieldsOf : ByteArray := prog_5_method_7_code
def yX3_fieldsOf : MethodName := ⟨RX3, "fieldsOf", "(I)Ljava/lang/String;"⟩
abbrev cX3_readField : ByteArray := prog_5_method_8_code
def yX3_readField : MethodName := ⟨RX3, "readField", "(I[III)I"⟩
abbrev cX3_keepField : ByteArray := prog_5_method_9_code
def yX3_keepField : MethodName := ⟨RX3, "keepField", "(II)V"⟩
abbrev cX3_isGoodField : ByteArray := prog_5_method_10_code
def yX3_isGoodField : MethodName := ⟨RX3, "isGoodField", "(I)Z"⟩
abbrev cX3_endsWithSum : ByteArray := prog_5_method_11_code
def yX3_endsWithSum : MethodName := ⟨RX3, "endsWithSum", "([III)Z"⟩
def RX4 : String := "ExchangeWire$Reply"
def TX4 : u_T := fun k => match k with
  | 0 => ("ExchangeWire$Reply", "signs", "[I", true)
  | _ => ("ExchangeWire$Reply", "length", "I", false)
def tyX4 : Nat → FieldType := fun k => match k with
  | 0 => .array .int
  | _ => .int
theorem nmX4 : ∀ a, a < 2 → ∀ b, b < 2 → a ≠ b → (TX4 a).2.1 ≠ (TX4 b).2.1 := by decide +kernel
theorem tyX4_ok : ∀ k, k < 2 → parseFieldDescriptor (TX4 k).2.2.1 = some (tyX4 k) := by decide +kernel
abbrev cX4_init : ByteArray := prog_6_method_1_code
def yX4_init : MethodName := ⟨RX4, "<init>", "()V"⟩
abbrev cX4_writeWrong : ByteArray := prog_6_method_2_code
def yX4_writeWrong : MethodName := ⟨RX4, "writeWrong", "()V"⟩
abbrev cX4_writeNo : ByteArray := prog_6_method_3_code
def yX4_writeNo : MethodName := ⟨RX4, "writeNo", "(LExchangeWire$Message;)V"⟩
abbrev cX4_writeError : ByteArray := prog_6_method_4_code
def yX4_writeError : MethodName := ⟨RX4, "writeError", "(LExchangeWire$Message;I)V"⟩
abbrev cX4_writeVerdict : ByteArray := prog_6_method_5_code
def yX4_writeVerdict : MethodName := ⟨RX4, "writeVerdict", "(LExchangeWire$Message;ZI)V"⟩
abbrev cX4_copy : ByteArray := prog_6_method_6_code
def yX4_copy : MethodName := ⟨RX4, "copy", "(LExchangeWire$Reply;)V"⟩
abbrev cX4_addSource : ByteArray := prog_6_method_7_code
def yX4_addSource : MethodName := ⟨RX4, "addSource", "(LExchangeWire$Message;)V"⟩
abbrev cX4_addSumAndEnd : ByteArray := prog_6_method_8_code
def yX4_addSumAndEnd : MethodName := ⟨RX4, "addSumAndEnd", "()V"⟩
abbrev cX4_addDigits : ByteArray := prog_6_method_9_code
def yX4_addDigits : MethodName := ⟨RX4, "addDigits", "(I)V"⟩
abbrev cX4_add : ByteArray := prog_6_method_10_code
def yX4_add : MethodName := ⟨RX4, "add", "(I)V"⟩
def RX5 : String := "ExchangeWire"
def TX5 : u_T := fun k => match k with
  | 0 => ("ExchangeWire", "lines", "[LExchangeWire$Line;", true)
  | 1 => ("ExchangeWire", "house", "LExchangeWire$House;", true)
  | 2 => ("ExchangeWire", "journal", "LExchangeWire$Journal;", true)
  | 3 => ("ExchangeWire", "message", "LExchangeWire$Message;", true)
  | _ => ("ExchangeWire", "sumSoFar", "I", false)
def tyX5 : Nat → FieldType := fun k => match k with
  | 0 => .array (.object "ExchangeWire$Line")
  | 1 => .object "ExchangeWire$House"
  | 2 => .object "ExchangeWire$Journal"
  | 3 => .object "ExchangeWire$Message"
  | _ => .int
theorem nmX5 : ∀ a, a < 5 → ∀ b, b < 5 → a ≠ b → (TX5 a).2.1 ≠ (TX5 b).2.1 := by decide +kernel
theorem tyX5_ok : ∀ k, k < 5 → parseFieldDescriptor (TX5 k).2.2.1 = some (tyX5 k) := by decide +kernel
abbrev cX5_init : ByteArray := prog_1_method_1_code
def yX5_init : MethodName := ⟨RX5, "<init>", "()V"⟩
abbrev cX5_octet : ByteArray := prog_1_method_2_code
def yX5_octet : MethodName := ⟨RX5, "octet", "(II)I"⟩
abbrev cX5_answer : ByteArray := prog_1_method_3_code
def yX5_answer : MethodName := ⟨RX5, "answer", "(II)I"⟩
abbrev cX5_reset : ByteArray := prog_1_method_4_code
def yX5_reset : MethodName := ⟨RX5, "reset", "(I)I"⟩
abbrev cX5_offline : ByteArray := prog_1_method_5_code
def yX5_offline : MethodName := ⟨RX5, "offline", "(IIII)I"⟩
abbrev cX5_join : ByteArray := prog_1_method_6_code
def yX5_join : MethodName := ⟨RX5, "join", "(I)I"⟩
abbrev cX5_owes : ByteArray := prog_1_method_7_code
def yX5_owes : MethodName := ⟨RX5, "owes", "(II)I"⟩
abbrev cX5_acts : ByteArray := prog_1_method_8_code
def yX5_acts : MethodName := ⟨RX5, "acts", "()I"⟩
abbrev cX5_act : ByteArray := prog_1_method_9_code
def yX5_act : MethodName := ⟨RX5, "act", "(II)I"⟩
abbrev cX5_sum : ByteArray := prog_1_method_10_code
def yX5_sum : MethodName := ⟨RX5, "sum", "(I)I"⟩
abbrev cX5_state : ByteArray := prog_1_method_11_code
def yX5_state : MethodName := ⟨RX5, "state", "(II)I"⟩
abbrev cX5_waits : ByteArray := prog_1_method_12_code
def yX5_waits : MethodName := ⟨RX5, "waits", "(II)I"⟩
abbrev cX5_endMessage : ByteArray := prog_1_method_13_code
def yX5_endMessage : MethodName := ⟨RX5, "endMessage", "(ILExchangeWire$Line;)V"⟩
abbrev cX5_doMessage : ByteArray := prog_1_method_14_code
def yX5_doMessage : MethodName := ⟨RX5, "doMessage", "(ILExchangeWire$Line;)V"⟩
abbrev cX5_carryOut : ByteArray := prog_1_method_15_code
def yX5_carryOut : MethodName := ⟨RX5, "carryOut", "(I)Z"⟩
abbrev cX5_isBelow : ByteArray := prog_1_method_16_code
def yX5_isBelow : MethodName := ⟨RX5, "isBelow", "(II)Z"⟩
abbrev cX5_isDigit : ByteArray := prog_1_method_17_code
def yX5_isDigit : MethodName := ⟨RX5, "isDigit", "(I)Z"⟩
abbrev cX5_hexDigit : ByteArray := prog_1_method_18_code
def yX5_hexDigit : MethodName := ⟨RX5, "hexDigit", "(I)I"⟩
abbrev cX5_sumOf : ByteArray := prog_1_method_19_code
def yX5_sumOf : MethodName := ⟨RX5, "sumOf", "([II)I"⟩
def RX6 : String := "ExchangeWireModel"
def TX6 : u_T := fun k => match k with
  | 0 => ("ExchangeWireModel", "thrown", "I", false)
  | 1 => ("ExchangeWireModel", "size", "[I", true)
  | 2 => ("ExchangeWireModel", "line", "[B", true)
  | 3 => ("ExchangeWireModel", "broken", "[Z", true)
  | 4 => ("ExchangeWireModel", "signed", "[Z", true)
  | 5 => ("ExchangeWireModel", "done", "[I", true)
  | 6 => ("ExchangeWireModel", "wrongs", "[I", true)
  | 7 => ("ExchangeWireModel", "told", "[I", true)
  | 8 => ("ExchangeWireModel", "answers", "[B", true)
  | 9 => ("ExchangeWireModel", "kept", "[I", true)
  | 10 => ("ExchangeWireModel", "keeps", "[B", true)
  | 11 => ("ExchangeWireModel", "rows", "[I", true)
  | 12 => ("ExchangeWireModel", "rowKind", "[I", true)
  | 13 => ("ExchangeWireModel", "rowItem", "[I", true)
  | 14 => ("ExchangeWireModel", "rowPerson", "[I", true)
  | 15 => ("ExchangeWireModel", "owes", "[I", true)
  | 16 => ("ExchangeWireModel", "lent", "[I", true)
  | 17 => ("ExchangeWireModel", "renewed", "[I", true)
  | 18 => ("ExchangeWireModel", "waiting", "[I", true)
  | 19 => ("ExchangeWireModel", "waits", "[I", true)
  | 20 => ("ExchangeWireModel", "acts", "I", false)
  | 21 => ("ExchangeWireModel", "actRow", "[I", true)
  | 22 => ("ExchangeWireModel", "summed", "I", false)
  | 23 => ("ExchangeWireModel", "at", "I", false)
  | 24 => ("ExchangeWireModel", "kind", "I", false)
  | 25 => ("ExchangeWireModel", "number", "I", false)
  | 26 => ("ExchangeWireModel", "person", "I", false)
  | 27 => ("ExchangeWireModel", "item", "I", false)
  | 28 => ("ExchangeWireModel", "cents", "I", false)
  | _ => ("ExchangeWireModel", "verdict", "Z", false)
def tyX6 : Nat → FieldType := fun k => match k with
  | 0 => .int
  | 1 => .array .int
  | 2 => .array .byte
  | 3 => .array .boolean
  | 4 => .array .boolean
  | 5 => .array .int
  | 6 => .array .int
  | 7 => .array .int
  | 8 => .array .byte
  | 9 => .array .int
  | 10 => .array .byte
  | 11 => .array .int
  | 12 => .array .int
  | 13 => .array .int
  | 14 => .array .int
  | 15 => .array .int
  | 16 => .array .int
  | 17 => .array .int
  | 18 => .array .int
  | 19 => .array .int
  | 20 => .int
  | 21 => .array .int
  | 22 => .int
  | 23 => .int
  | 24 => .int
  | 25 => .int
  | 26 => .int
  | 27 => .int
  | 28 => .int
  | _ => .boolean
theorem nmX6 : ∀ a, a < 30 → ∀ b, b < 30 → a ≠ b → (TX6 a).2.1 ≠ (TX6 b).2.1 := by decide +kernel
theorem tyX6_ok : ∀ k, k < 30 → parseFieldDescriptor (TX6 k).2.2.1 = some (tyX6 k) := by decide +kernel
abbrev cX6_init : ByteArray := prog_8_method_1_code
def yX6_init : MethodName := ⟨RX6, "<init>", "()V"⟩
abbrev cX6_in : ByteArray := prog_8_method_3_code
def yX6_in : MethodName := ⟨RX6, "in", "(III)Z"⟩
abbrev cX6_isDevice : ByteArray := prog_8_method_4_code
def yX6_isDevice : MethodName := ⟨RX6, "isDevice", "(I)Z"⟩
abbrev cX6_look : ByteArray := prog_8_method_5_code
def yX6_look : MethodName := ⟨RX6, "look", "(I)I"⟩
abbrev cX6_isKind : ByteArray := prog_8_method_6_code
def yX6_isKind : MethodName := ⟨RX6, "isKind", "(I)Z"⟩
abbrev cX6_hasPerson : ByteArray := prog_8_method_7_code
def yX6_hasPerson : MethodName := ⟨RX6, "hasPerson", "(I)Z"⟩
abbrev cX6_hasItem : ByteArray := prog_8_method_8_code
def yX6_hasItem : MethodName := ⟨RX6, "hasItem", "(I)Z"⟩
abbrev cX6_field : ByteArray := prog_8_method_9_code
def yX6_field : MethodName := ⟨RX6, "field", "(II)I"⟩
abbrev cX6_hex : ByteArray := prog_8_method_10_code
def yX6_hex : MethodName := ⟨RX6, "hex", "(I)I"⟩
abbrev cX6_digit : ByteArray := prog_8_method_11_code
def yX6_digit : MethodName := ⟨RX6, "digit", "(I)I"⟩
abbrev cX6_reads : ByteArray := prog_8_method_12_code
def yX6_reads : MethodName := ⟨RX6, "reads", "(I)Z"⟩
abbrev cX6_put : ByteArray := prog_8_method_13_code
def yX6_put : MethodName := ⟨RX6, "put", "(II)V"⟩
abbrev cX6_close : ByteArray := prog_8_method_14_code
def yX6_close : MethodName := ⟨RX6, "close", "(I)V"⟩
abbrev cX6_finish : ByteArray := prog_8_method_15_code
def yX6_finish : MethodName := ⟨RX6, "finish", "(IZ)V"⟩
abbrev cX6_again : ByteArray := prog_8_method_16_code
def yX6_again : MethodName := ⟨RX6, "again", "(I)V"⟩
abbrev cX6_bad : ByteArray := prog_8_method_17_code
def yX6_bad : MethodName := ⟨RX6, "bad", "()I"⟩
abbrev cX6_answers : ByteArray := prog_8_method_18_code
def yX6_answers : MethodName := ⟨RX6, "answers", "(I)V"⟩
abbrev cX6_items : ByteArray := prog_8_method_19_code
def yX6_items : MethodName := ⟨RX6, "items", "(I)I"⟩
abbrev cX6_placeOf : ByteArray := prog_8_method_20_code
def yX6_placeOf : MethodName := ⟨RX6, "placeOf", "(II)I"⟩
abbrev cX6_enter : ByteArray := prog_8_method_21_code
def yX6_enter : MethodName := ⟨RX6, "enter", "(IIIII)V"⟩
abbrev cX6_lends : ByteArray := prog_8_method_22_code
def yX6_lends : MethodName := ⟨RX6, "lends", "(II)I"⟩
abbrev cX6_brings : ByteArray := prog_8_method_23_code
def yX6_brings : MethodName := ⟨RX6, "brings", "(II)I"⟩
abbrev cX6_judge : ByteArray := prog_8_method_24_code
def yX6_judge : MethodName := ⟨RX6, "judge", "(II)I"⟩
abbrev cX6_octet : ByteArray := prog_8_method_25_code
def yX6_octet : MethodName := ⟨RX6, "octet", "(II)I"⟩
abbrev cX6_answer : ByteArray := prog_8_method_26_code
def yX6_answer : MethodName := ⟨RX6, "answer", "(II)I"⟩
abbrev cX6_reset : ByteArray := prog_8_method_27_code
def yX6_reset : MethodName := ⟨RX6, "reset", "(I)I"⟩
abbrev cX6_offline : ByteArray := prog_8_method_28_code
def yX6_offline : MethodName := ⟨RX6, "offline", "(IIII)I"⟩
abbrev cX6_join : ByteArray := prog_8_method_29_code
def yX6_join : MethodName := ⟨RX6, "join", "(I)I"⟩
abbrev cX6_owes : ByteArray := prog_8_method_30_code
def yX6_owes : MethodName := ⟨RX6, "owes", "(II)I"⟩
abbrev cX6_acts : ByteArray := prog_8_method_31_code
def yX6_acts : MethodName := ⟨RX6, "acts", "()I"⟩
abbrev cX6_act : ByteArray := prog_8_method_32_code
def yX6_act : MethodName := ⟨RX6, "act", "(II)I"⟩
abbrev cX6_sum : ByteArray := prog_8_method_33_code
def yX6_sum : MethodName := ⟨RX6, "sum", "(I)I"⟩
abbrev cX6_state : ByteArray := prog_8_method_34_code
def yX6_state : MethodName := ⟨RX6, "state", "(II)I"⟩
abbrev cX6_waits : ByteArray := prog_8_method_35_code
def yX6_waits : MethodName := ⟨RX6, "waits", "(II)I"⟩
def RJx00060 : String := "java/lang/ArrayIndexOutOfBoundsException"
def TJx00060 : u_T := fun k => match k with
  | 0 => ("java/lang/Throwable", "cause", "Ljava/lang/Throwable;", false)
  | 1 => ("java/lang/Throwable", "stackTrace", "[Ljava/lang/StackTraceElement;", false)
  | 2 => ("java/lang/Throwable", "suppressedExceptions", "Ljava/util/List;", false)
  | 3 => ("java/lang/Throwable", "detailMessage", "Ljava/lang/String;", false)
  | 4 => ("java/lang/Throwable", "backtrace", "Ljava/lang/Object;", false)
  | _ => ("java/lang/Throwable", "depth", "I", false)
def tyJx00060 : Nat → FieldType := fun k => match k with
  | 0 => .object "java/lang/Throwable"
  | 1 => .array (.object "java/lang/StackTraceElement")
  | 2 => .object "java/util/List"
  | 3 => .object "java/lang/String"
  | 4 => .object "java/lang/Object"
  | _ => .int
theorem nmJx00060 : ∀ a, a < 6 → ∀ b, b < 6 → a ≠ b → (TJx00060 a).2.1 ≠ (TJx00060 b).2.1 := by decide +kernel
theorem tyJx00060_ok : ∀ k, k < 6 → parseFieldDescriptor (TJx00060 k).2.2.1 = some (tyJx00060 k) := by decide +kernel
abbrev cJx00060_init_a7421 : ByteArray := prog_9_method_2_code
def yJx00060_init_a7421 : MethodName := ⟨RJx00060, "<init>", "(Ljava/lang/String;)V"⟩
def RJ9 : String := "java/lang/Math"
def TJ9 : u_T := fun k => match k with
  | _ => ("", "", "", false)
def tyJ9 : Nat → FieldType := fun k => match k with
  | _ => .int
theorem nmJ9 : ∀ a, a < 0 → ∀ b, b < 0 → a ≠ b → (TJ9 a).2.1 ≠ (TJ9 b).2.1 := by decide +kernel
theorem tyJ9_ok : ∀ k, k < 0 → parseFieldDescriptor (TJ9 k).2.2.1 = some (tyJ9 k) := by decide +kernel
abbrev cJ9_min_7cf53 : ByteArray := prog_12_method_69_code
def yJ9_min_7cf53 : MethodName := ⟨RJ9, "min", "(II)I"⟩
def RJ0 : String := "java/lang/String"
def TJ0 : u_T := fun k => match k with
  | _ => ("", "", "", false)
def tyJ0 : Nat → FieldType := fun k => match k with
  | _ => .int
theorem nmJ0 : ∀ a, a < 0 → ∀ b, b < 0 → a ≠ b → (TJ0 a).2.1 ≠ (TJ0 b).2.1 := by decide +kernel
theorem tyJ0_ok : ∀ k, k < 0 → parseFieldDescriptor (TJ0 k).2.2.1 = some (tyJ0 k) := by decide +kernel
abbrev cJ0_length_8abf5 : ByteArray := prog_14_method_54_code
def yJ0_length_8abf5 : MethodName := ⟨RJ0, "length", "()I"⟩
abbrev cJ0_charAt_5068e : ByteArray := prog_14_method_56_code
def yJ0_charAt_5068e : MethodName := ⟨RJ0, "charAt", "(I)C"⟩
abbrev cJ0_coder_7d493 : ByteArray := prog_14_method_152_code
def yJ0_coder_7d493 : MethodName := ⟨RJ0, "coder", "()B"⟩
abbrev cJ0_isLatin1_aae02 : ByteArray := prog_14_method_154_code
def yJ0_isLatin1_aae02 : MethodName := ⟨RJ0, "isLatin1", "()Z"⟩
abbrev cJ0_checkIndex_df160 : ByteArray := prog_14_method_155_code
def yJ0_checkIndex_df160 : MethodName := ⟨RJ0, "checkIndex", "(II)V"⟩
def RJ1 : String := "java/lang/StringLatin1"
def TJ1 : u_T := fun k => match k with
  | _ => ("", "", "", false)
def tyJ1 : Nat → FieldType := fun k => match k with
  | _ => .int
theorem nmJ1 : ∀ a, a < 0 → ∀ b, b < 0 → a ≠ b → (TJ1 a).2.1 ≠ (TJ1 b).2.1 := by decide +kernel
theorem tyJ1_ok : ∀ k, k < 0 → parseFieldDescriptor (TJ1 k).2.2.1 = some (tyJ1 k) := by decide +kernel
abbrev cJ1_charAt_3b067 : ByteArray := prog_15_method_2_code
def yJ1_charAt_3b067 : MethodName := ⟨RJ1, "charAt", "([BI)C"⟩
def RJ2 : String := "java/lang/StringUTF16"
def TJ2 : u_T := fun k => match k with
  | _ => ("", "", "", false)
def tyJ2 : Nat → FieldType := fun k => match k with
  | _ => .int
theorem nmJ2 : ∀ a, a < 0 → ∀ b, b < 0 → a ≠ b → (TJ2 a).2.1 ≠ (TJ2 b).2.1 := by decide +kernel
theorem tyJ2_ok : ∀ k, k < 0 → parseFieldDescriptor (TJ2 k).2.2.1 = some (tyJ2 k) := by decide +kernel
abbrev cJ2_getChar_3b067 : ByteArray := prog_16_method_5_code
def yJ2_getChar_3b067 : MethodName := ⟨RJ2, "getChar", "([BI)C"⟩
abbrev cJ2_length_9d52b : ByteArray := prog_16_method_6_code
def yJ2_length_9d52b : MethodName := ⟨RJ2, "length", "([B)I"⟩
abbrev cJ2_charAt_3b067 : ByteArray := prog_16_method_83_code
def yJ2_charAt_3b067 : MethodName := ⟨RJ2, "charAt", "([BI)C"⟩
abbrev cJ2_checkIndex_2214a : ByteArray := prog_16_method_91_code
def yJ2_checkIndex_2214a : MethodName := ⟨RJ2, "checkIndex", "(I[B)V"⟩
def RJ10 : String := "java/lang/System"
def TJ10 : u_T := fun k => match k with
  | _ => ("", "", "", false)
def tyJ10 : Nat → FieldType := fun k => match k with
  | _ => .int
theorem nmJ10 : ∀ a, a < 0 → ∀ b, b < 0 → a ≠ b → (TJ10 a).2.1 ≠ (TJ10 b).2.1 := by decide +kernel
theorem tyJ10_ok : ∀ k, k < 0 → parseFieldDescriptor (TJ10 k).2.2.1 = some (tyJ10 k) := by decide +kernel
def RJ3 : String := "jdk/internal/util/Preconditions"
def TJ3 : u_T := fun k => match k with
  | _ => ("", "", "", false)
def tyJ3 : Nat → FieldType := fun k => match k with
  | _ => .int
theorem nmJ3 : ∀ a, a < 0 → ∀ b, b < 0 → a ≠ b → (TJ3 a).2.1 ≠ (TJ3 b).2.1 := by decide +kernel
theorem tyJ3_ok : ∀ k, k < 0 → parseFieldDescriptor (TJ3 k).2.2.1 = some (tyJ3 k) := by decide +kernel
abbrev cJ3_checkIndex_8e157 : ByteArray := prog_19_method_11_code
def yJ3_checkIndex_8e157 : MethodName := ⟨RJ3, "checkIndex", "(IILjava/util/function/BiFunction;)I"⟩
def RL : String := "ExchangeWireLaw"
abbrev cL_answer : ByteArray := method_3_code
def yL_answer : MethodName := ⟨RL, "answer", "(LExchangeWire;II[J)I"⟩
abbrev cL_law : ByteArray := code
def yL_law : MethodName := ⟨RL, "law", "([I)Z"⟩
abbrev classes : List vw_C := [(RX0, TX0, 5), (RX1, TX1, 2), (RX2, TX2, 12), (RX3, TX3, 5), (RX4, TX4, 2), (RX5, TX5, 5), (RX6, TX6, 30)]
abbrev ctypes : List (Nat → FieldType) := [tyX0, tyX1, tyX2, tyX3, tyX4, tyX5, tyX6]
abbrev xty : List FieldType := [.long, .int, .byte, .boolean, .object "ExchangeWire$Line", .array .int]
def xnw : List Cond := [(Jvm.Cond.methodLinkNest "ExchangeWire" (15 : Nat) ({ cls := "ExchangeWire$Line", name := "<init>", desc := "()V" } : Jvm.MethodName) "ExchangeWire"), (Jvm.Cond.methodLinkNest "ExchangeWire$Line" (34 : Nat) ({ cls := "ExchangeWire$Reply", name := "<init>", desc := "()V" } : Jvm.MethodName) "ExchangeWire"), (Jvm.Cond.methodLinkNest "ExchangeWire" (25 : Nat) ({ cls := "ExchangeWire$Journal", name := "<init>", desc := "()V" } : Jvm.MethodName) "ExchangeWire"), (Jvm.Cond.methodLinkNest "ExchangeWire" (32 : Nat) ({ cls := "ExchangeWire$Message", name := "<init>", desc := "()V" } : Jvm.MethodName) "ExchangeWire"), (Jvm.Cond.methodLinkNest "ExchangeWire$Line" (54 : Nat) ({ cls := "ExchangeWire", name := "isBelow", desc := "(II)Z" } : Jvm.MethodName) "ExchangeWire"), (Jvm.Cond.methodLinkNest "ExchangeWire$Message" (34 : Nat) ({ cls := "ExchangeWire", name := "isDigit", desc := "(I)Z" } : Jvm.MethodName) "ExchangeWire"), (Jvm.Cond.methodLinkNest "ExchangeWire$Message" (84 : Nat) ({ cls := "ExchangeWire", name := "sumOf", desc := "([II)I" } : Jvm.MethodName) "ExchangeWire"), (Jvm.Cond.methodLinkNest "ExchangeWire$Message" (88 : Nat) ({ cls := "ExchangeWire", name := "hexDigit", desc := "(I)I" } : Jvm.MethodName) "ExchangeWire"), (Jvm.Cond.methodLinkNest "ExchangeWire$Reply" (47 : Nat) ({ cls := "ExchangeWire", name := "sumOf", desc := "([II)I" } : Jvm.MethodName) "ExchangeWire"), (Jvm.Cond.methodLinkNest "ExchangeWire$Reply" (51 : Nat) ({ cls := "ExchangeWire", name := "hexDigit", desc := "(I)I" } : Jvm.MethodName) "ExchangeWire"), (Jvm.Cond.methodLinkNest "ExchangeWire$Message" (79 : Nat) ({ cls := "ExchangeWire", name := "isBelow", desc := "(II)Z" } : Jvm.MethodName) "ExchangeWire"), (Jvm.Cond.methodLinkNest "ExchangeWire$House" (72 : Nat) ({ cls := "ExchangeWire", name := "isBelow", desc := "(II)Z" } : Jvm.MethodName) "ExchangeWire"), (Jvm.Cond.methodLinkNest "ExchangeWire$Journal" (19 : Nat) ({ cls := "ExchangeWire", name := "isBelow", desc := "(II)Z" } : Jvm.MethodName) "ExchangeWire")]
end
section
/-! The block: cells at b, b + 1 ..; a shape says what each is, a table of ints what it holds. -/
abbrev xS : Type := (Nat × List (Option (Option Nat))) ⊕ (Nat × Nat × Option (List (Option Nat)))
abbrev xM : Type := Nat → Nat → Int32
abbrev xD : Type := (va_G × (Nat → ClassId)) × Nat
def xfs (b : Nat) (f : Nat → Int32) : List (Option (Option Nat)) → Nat → List Value
  | [], _ => []
  | none :: r, j => Value.int (f j) :: xfs b f r (j + 1)
  | some none :: r, j => Value.null :: xfs b f r (j + 1)
  | some (some k) :: r, j => Value.ref (b + k) :: xfs b f r (j + 1)
theorem xfs_len (b : Nat) (f : Nat → Int32) : ∀ (fl : List (Option (Option Nat))) (i : Nat), (xfs b f fl i).length = fl.length
  | [], _ => rfl
  | none :: r, j => by simp [xfs, xfs_len b f r]
  | some none :: r, j => by simp [xfs, xfs_len b f r]
  | some (some k) :: r, j => by simp [xfs, xfs_len b f r]
def xval (b : Nat) (o : Option (Option Nat)) (x : Int32) : Value := match o with
  | none => .int x
  | some none => .null
  | some (some k) => .ref (b + k)
theorem xfs_get (b : Nat) (f : Nat → Int32) : ∀ (fl : List (Option (Option Nat))) (i j : Nat) (o : Option (Option Nat)), fl[j]? = some o → (xfs b f fl i)[j]? = some (xval b o (f (i + j)))
  | [], i, j, o, h => by simp at h
  | a :: r, i, 0, o, h => by
    have h : a = o := by simpa using h
    subst h
    match a with
    | none => rfl
    | some none => rfl
    | some (some k) => rfl
  | a :: r, i, j + 1, o, h => by
    have ih := xfs_get b f r (i + 1) j o (by simpa using h)
    rw [show i + 1 + j = i + (j + 1) by omega] at ih
    match a with
    | none => simpa [xfs] using ih
    | some none => simpa [xfs] using ih
    | some (some k) => simpa [xfs] using ih
theorem xfs_set (b : Nat) (f : Nat → Int32) (o : Option (Option Nat)) (x : Int32) : ∀ (fl : List (Option (Option Nat))) (i j : Nat), xfs b (upd f (i + j) x) (fl.set j o) i = (xfs b f fl i).set j (xval b o x)
  | [], i, j => by simp [xfs]
  | a :: r, i, 0 => by
    have e : ∀ (fl : List (Option (Option Nat))) (k : Nat), i < k → xfs b (upd f i x) fl k = xfs b f fl k := by
      intro fl
      induction fl with
      | nil => intro k _; rfl
      | cons a r ih =>
        intro k hk
        match a with
        | none => simp [xfs, ih (k + 1) (by omega), upd, Nat.ne_of_gt hk]
        | some none => simp [xfs, ih (k + 1) (by omega)]
        | some (some z) => simp [xfs, ih (k + 1) (by omega)]
    match a, o with
    | none, none => simp [xfs, xval, e r (i + 1) (by omega), upd]
    | none, some none => simp [xfs, xval, e r (i + 1) (by omega), upd]
    | none, some (some z) => simp [xfs, xval, e r (i + 1) (by omega), upd]
    | some none, none => simp [xfs, xval, e r (i + 1) (by omega), upd]
    | some none, some none => simp [xfs, xval, e r (i + 1) (by omega), upd]
    | some none, some (some z) => simp [xfs, xval, e r (i + 1) (by omega), upd]
    | some (some y), none => simp [xfs, xval, e r (i + 1) (by omega), upd]
    | some (some y), some none => simp [xfs, xval, e r (i + 1) (by omega), upd]
    | some (some y), some (some z) => simp [xfs, xval, e r (i + 1) (by omega), upd]
  | a :: r, i, j + 1 => by
    have ih := xfs_set b f o x r (i + 1) j
    rw [show i + 1 + j = i + (j + 1) by omega] at ih
    have hn : i ≠ i + (j + 1) := by omega
    match a with
    | none => simp [xfs, ih, upd]
    | some none => simp [xfs, ih]
    | some (some k) => simp [xfs, ih]
def xpic (X : xD) (s : xS) (f : Nat → Int32) : va_E := match s with
  | .inl (ci, fl) => .inr (ci, xfs X.2 f fl 0)
  | .inr (ti, n, none) => .inl (X.1.2 ti, n, if ti = 0 then .inr (.inl (fun j => (f j).toInt64)) else .inl f)
  | .inr (ti, n, some g) => .inl (X.1.2 ti, n, .inr (.inr (.inr (.inr (fun i => (g.getD i none).map (X.2 + ·))))))
def xwl (X : xD) (sh : List xS) (μ : xM) : va_W := sh.mapIdx fun k s => (X.2 + k, xpic X s (μ k))
theorem xwl_get {X : xD} {sh : List xS} {k : Nat} {s : xS} (μ : xM) (h : sh[k]? = some s) : (xwl X sh μ)[k]? = some (X.2 + k, xpic X s (μ k)) := by
  simp [xwl, List.getElem?_mapIdx, h]
theorem xwl_len (X : xD) (sh : List xS) (μ : xM) : (xwl X sh μ).length = sh.length := by simp [xwl]
theorem xwl_of {X : xD} {sh : List xS} {μ : xM} {k : Nat} {q : Nat × va_E} (h : (xwl X sh μ)[k]? = some q) : ∃ s, sh[k]? = some s ∧ q = (X.2 + k, xpic X s (μ k)) := by
  simp only [xwl, List.getElem?_mapIdx] at h
  cases hs : sh[k]? with
  | none => rw [hs] at h; cases h
  | some s => rw [hs] at h; exact ⟨s, rfl, (Option.some.inj h).symm⟩
theorem xwl_set {X : xD} {sh : List xS} {μ : xM} {k : Nat} {s' : xS} {f : Nat → Int32} (hk : k < sh.length) : (xwl X sh μ).set k (X.2 + k, xpic X s' f) = xwl X (sh.set k s') (va_up μ k f) := by
  apply List.ext_getElem?
  intro i
  by_cases hi : i = k
  · subst hi
    simp [xwl, List.getElem?_mapIdx, va_up, hk]
  · rw [List.getElem?_set_ne (fun h => hi h.symm)]
    simp [xwl, List.getElem?_mapIdx, va_up, hi, List.getElem?_set_ne (fun h => hi h.symm : k ≠ i)]
theorem xwl_push {X : xD} {sh : List xS} {μ : xM} {s' : xS} {f : Nat → Int32} : xwl X sh μ ++ [(X.2 + sh.length, xpic X s' f)] = xwl X (sh ++ [s']) (va_up μ sh.length f) := by
  apply List.ext_getElem?
  intro i
  by_cases hi : i < sh.length
  · have hs : sh[i]? = some sh[i] := List.getElem?_eq_getElem hi
    rw [List.getElem?_append_left (by rw [xwl_len]; exact hi), xwl_get μ hs, xwl_get _ ((List.getElem?_append_left hi).trans hs)]
    simp [va_up, Nat.ne_of_lt hi]
  · rw [List.getElem?_append_right (by rw [xwl_len]; omega), xwl_len]
    by_cases he : i = sh.length
    · subst he
      rw [xwl_get _ (s := s') (by simp)]
      simp [va_up]
    · rw [List.getElem?_eq_none (by simp; omega), List.getElem?_eq_none (by rw [xwl_len]; simp; omega)]
def xA (b n0 : Nat) (fr : Bool) : Nat → Prop := fun q => b ≤ q ∧ (fr = true ∨ q < b + n0)
theorem xwl_D {X : xD} {sh : List xS} {μ : xM} {n0 : Nat} {fr : Bool} (h : fr = false → sh.length = n0) : va_D (xA X.2 n0 fr) (xwl X sh μ) := by
  refine ⟨fun i j p q hp hq e => ?_, fun k q hq => ?_⟩
  · obtain ⟨s1, -, rfl⟩ := xwl_of hp
    obtain ⟨s2, -, rfl⟩ := xwl_of hq
    have e : X.2 + i = X.2 + j := e
    omega
  · obtain ⟨s1, h1, rfl⟩ := xwl_of hq
    have hl := (List.getElem?_eq_some_iff.mp h1).1
    refine ⟨Nat.le_add_right _ _, ?_⟩
    cases fr with
    | true => exact Or.inl rfl
    | false => exact Or.inr (by have := h rfl; show X.2 + k < X.2 + n0; omega)
/-! locals by place -/
def xlv : List (Option Value) → Nat → List (Nat × Value)
  | [], _ => []
  | none :: r, i => xlv r (i + 1)
  | some v :: r, i => (i, v) :: xlv r (i + 1)
theorem xlv_mem : ∀ (L : List (Option Value)) (i : Nat) (q : Nat × Value), q ∈ xlv L i ↔ ∃ j, L[j]? = some (some q.2) ∧ q.1 = i + j
  | [], i, q => by simp [xlv]
  | none :: r, i, q => by
    rw [show xlv (none :: r) i = xlv r (i + 1) from rfl, xlv_mem r (i + 1) q]
    constructor
    · rintro ⟨j, h1, h2⟩
      exact ⟨j + 1, by simpa using h1, by omega⟩
    · rintro ⟨j, h1, h2⟩
      match j, h1, h2 with
      | 0, h1, _ => simp at h1
      | j + 1, h1, h2 => exact ⟨j, by simpa using h1, by omega⟩
  | some v :: r, i, q => by
    rw [show xlv (some v :: r) i = (i, v) :: xlv r (i + 1) from rfl, List.mem_cons, xlv_mem r (i + 1) q]
    constructor
    · rintro (rfl | ⟨j, h1, h2⟩)
      · exact ⟨0, rfl, rfl⟩
      · exact ⟨j + 1, by simpa using h1, by omega⟩
    · rintro ⟨j, h1, h2⟩
      match j, h1, h2 with
      | 0, h1, h2 =>
        have h1 : v = q.2 := by simpa using h1
        exact Or.inl (Prod.ext (by omega) h1.symm)
      | j + 1, h1, h2 => exact Or.inr ⟨j, by simpa using h1, by omega⟩
def xL (ls : Array Slot) (nL : Nat) (L : List (Option Value)) : Prop := lv_has ls nL (xlv L 0) ∧ ∀ (j : Nat) (v : Value), L[j]? = some (some v) → v.category = 1
theorem xL_at {ls : Array Slot} {nL i : Nat} {L : List (Option Value)} {v : Value} (h : xL ls nL L) (hi : L[i]? = some (some v)) : ls[i]? = some (.val v) :=
  h.1.2.2 (i, v) ((xlv_mem L 0 (i, v)).mpr ⟨i, hi, (Nat.zero_add i).symm⟩)
theorem xL_set {ls : Array Slot} {nL i : Nat} {L : List (Option Value)} {v : Value} (h : xL ls nL L) (hv : v.category = 1) {ls' : Array Slot} (hl' : lv_has ls' nL ((i, v) :: (xlv L 0).filter (fun q => !(q.1 == i) && !(q.1 + 1 == i && q.2.category == 2)))) : xL ls' nL (L.set i (some v)) := by
  refine ⟨⟨hl'.1, hl'.2.1, fun q hq => ?_⟩, fun j w hj => ?_⟩
  · obtain ⟨j, h1, h2⟩ := (xlv_mem _ _ _).mp hq
    refine hl'.2.2 q ?_
    by_cases hj : i = j
    · subst hj
      have hlt : i < L.length := by
        have := (List.getElem?_eq_some_iff.mp h1).1
        simpa using this
      rw [List.getElem?_set_self hlt] at h1
      have h1 : v = q.2 := by simpa using h1
      exact List.mem_cons.mpr (Or.inl (Prod.ext (by omega) h1.symm))
    · rw [List.getElem?_set_ne hj] at h1
      refine List.mem_cons_of_mem _ (List.mem_filter.mpr ⟨(xlv_mem _ _ _).mpr ⟨j, h1, h2⟩, ?_⟩)
      have hc := h.2 j _ h1
      have hn : ¬ q.1 = i := by omega
      simp [hn, hc]
  · by_cases hi : i = j
    · subst hi
      have hlt : i < L.length := by
        have := (List.getElem?_eq_some_iff.mp hj).1
        simpa using this
      rw [List.getElem?_set_self hlt] at hj
      have hj : v = w := by simpa using hj
      exact hj ▸ hv
    · rw [List.getElem?_set_ne hi] at hj
      exact h.2 j w hj
end
section
/-! The walk of a method over the block: 'sx .. pc L st sh μ': from pc on, with locals L, stack st, shape sh, table μ, the machine comes to what Z asks. -/
abbrev xK : Type := String × ByteArray × Nat × Option FieldType × Bool
def xws : List Cond := lw_tbl.filter goodWord
def xtys (X : xD) : List (ClassId × FieldType) := xty.mapIdx fun i t => (X.1.2 i, t)
theorem xtys_at {X : xD} {i : Nat} {t : FieldType} (h : xty[i]? = some t) : (xtys X)[i]? = some (X.1.2 i, t) := by
  unfold xtys
  rw [List.getElem?_mapIdx, h]
  rfl
def xC (X : xD) (Ex : State → Prop) (fr : Bool) (K : xK) (n0 : Nat) (p : Program) (s : State) (m : MethodId) (args : Array Value) (meth : Method) (c : Code) : Prop :=
  p.tables.exec = Jvm.exec ∧ c.code = K.2.1 ∧ c.maxLocals = K.2.2.1 ∧ meth.sig.returnType = K.2.2.2.1 ∧ meth.locks = false ∧ s.vm.findClass K.1 = some m.cls ∧ (∀ w ∈ xws, w.before args s = true) ∧ (∀ w ∈ xnw, va_Nw w s) ∧ va_K X.1.1 classes (xtys X) s ∧ Ex s ∧ (fr = true → s.heap.size = X.2 + n0) ∧ (K.2.2.2.2 = true → meth.name = "<init>") ∧ ∀ q, xA X.2 n0 fr q → ∀ cell, s.heap[q]? = some cell → cell.vm.isStatics = false
def xH (X : xD) (fr : Bool) (n0 : Nat) (sh : List xS) (μ : xM) (s : State) (H : Heap) (locs : List Loc) : Prop :=
  va_P X.1.1 classes (xwl X sh μ) H ∧ va_S (xA X.2 n0 fr) s.heap H locs ∧ n0 ≤ sh.length ∧ (fr = false → sh.length = n0) ∧ (fr = true → H.size = X.2 + sh.length)
def sx (l : Launch) (R : Room) (X : xD) (Ex : State → Prop) (fr : Bool) (K : xK) (n0 : Nat) (Z : List Frame → Array Value → State → State → Prop) (pc : Nat) (L : List (Option Value)) (st : List Value) (sh : List xS) (μ : xM) (cs ss : Nat) : Prop :=
  ∀ (p : Program) (e : Env) (s : State) (m : MethodId) (args : Array Value) (below : List Frame) (meth : Method) (c : Code) (H : Heap) (locs : List Loc) (ls : Array Slot),
    xC X Ex fr K n0 p s m args meth c → xH X fr n0 sh μ s H locs → xL ls K.2.2.1 L → W p l e R s m args below meth c H locs cs ss (Z below args s) (F0 m pc ls st)
def xup (μ : xM) (k j : Nat) (v : Int32) : xM := va_up μ k (upd (μ k) j v)
theorem xup_at (μ : xM) (k j : Nat) (v : Int32) (a b : Nat) : xup μ k j v a b = if a = k ∧ b = j then v else μ a b := by
  unfold xup va_up upd
  by_cases h1 : a = k
  · subst h1
    by_cases h2 : b = j <;> simp [h2]
  · simp [h1]
theorem xsame {α : Type} {l : List α} {k : Nat} {x : α} (h : l[k]? = some x) : l.set k x = l := by
  apply List.ext_getElem?
  intro i
  by_cases hi : k = i
  · subst hi
    rw [List.getElem?_set_self (List.getElem?_eq_some_iff.mp h).1, h]
  · rw [List.getElem?_set_ne hi]
def xcl_t (q : vw_C × (Nat → FieldType)) : Bool := (u_ws q.1.1 q.1.2.1 q.1.2.2).all (fun w => decide (w ∈ lw_tbl) && goodWord w) && (List.range q.1.2.2).all (fun k => decide (parseFieldDescriptor (q.1.2.1 k).2.2.1 = some (q.2 k))) && (List.range q.1.2.2).all (fun a => (List.range q.1.2.2).all (fun b => decide (a = b) || decide ((q.1.2.1 a).2.1 ≠ (q.1.2.1 b).2.1)))
theorem xcl_ok : ∀ (ci : Nat) (q : vw_C), classes[ci]? = some q → (∀ w ∈ u_ws q.1 q.2.1 q.2.2, w ∈ xws) ∧ ∃ ty : Nat → FieldType, (∀ k, k < q.2.2 → parseFieldDescriptor (q.2.1 k).2.2.1 = some (ty k)) ∧ (∀ a, a < q.2.2 → ∀ b, b < q.2.2 → a ≠ b → (q.2.1 a).2.1 ≠ (q.2.1 b).2.1) := by
  have h : (classes.zip ctypes).all xcl_t = true := by decide +kernel
  have hl : classes.length = ctypes.length := by decide +kernel
  intro ci q hq
  have hlt := (List.getElem?_eq_some_iff.mp hq).1
  have ht : ctypes[ci]? = some (ctypes[ci]'(by omega)) := List.getElem?_eq_getElem _
  have hz : (classes.zip ctypes)[ci]? = some (q, ctypes[ci]'(by omega)) := by
    rw [List.getElem?_zip_eq_some]; exact ⟨hq, ht⟩
  have h1 := List.all_eq_true.mp h _ (List.mem_of_getElem? hz)
  simp only [xcl_t, Bool.and_eq_true, List.all_eq_true, decide_eq_true_eq, Bool.or_eq_true, List.mem_range] at h1
  refine ⟨fun w hw => List.mem_filter.mpr ⟨(h1.1.1 w hw).1, (h1.1.1 w hw).2⟩, _, fun k hk => h1.1.2 k hk, fun a ha b hb hne => ?_⟩
  rcases h1.2 a ha b hb with h2 | h2
  · exact absurd h2 hne
  · exact h2
section SX
variable {l : Launch} {R : Room} {X : xD} {Ex : State → Prop} {fr : Bool} {K : xK} {n0 : Nat} {Z : List Frame → Array Value → State → State → Prop} {pc : Nat} {L : List (Option Value)} {st : List Value} {sh : List xS} {μ : xM} {cs ss : Nat}
theorem sx_iconst {n : Int} {v : Int32} (hd : decode K.2.1 pc = .ok (.iconst n, 1)) (hv : Int32.ofInt n = v)
    (kk : sx l R X Ex fr K n0 Z (pc + 1) L (.int v :: st) sh μ cs ss) : sx l R X Ex fr K n0 Z pc L (st) sh μ cs ss :=
  fun p e s m args below meth c H locs ls hC hH hL => lv_iconst hC.1 hC.2.1 hd hv (kk p e s m args below meth c H locs ls hC hH hL)
theorem sx_bipush {n : Int} {v : Int32} (hd : decode K.2.1 pc = .ok (.bipush n, 2)) (hv : (Int8.ofInt n).toInt32 = v)
    (kk : sx l R X Ex fr K n0 Z (pc + 2) L (.int v :: st) sh μ cs ss) : sx l R X Ex fr K n0 Z pc L (st) sh μ cs ss :=
  fun p e s m args below meth c H locs ls hC hH hL => lv_bipush hC.1 hC.2.1 hd hv (kk p e s m args below meth c H locs ls hC hH hL)
theorem sx_sipush {n : Int} {v : Int32} (hd : decode K.2.1 pc = .ok (.sipush n, 3)) (hv : (Int16.ofInt n).toInt32 = v)
    (kk : sx l R X Ex fr K n0 Z (pc + 3) L (.int v :: st) sh μ cs ss) : sx l R X Ex fr K n0 Z pc L (st) sh μ cs ss :=
  fun p e s m args below meth c H locs ls hC hH hL => lv_sipush hC.1 hC.2.1 hd hv (kk p e s m args below meth c H locs ls hC hH hL)
theorem sx_ldc {i : Nat} {v : Int32} (hd : decode K.2.1 pc = .ok (.ldc i, 2)) (hw : Jvm.Cond.constant K.1 i v ∈ xws)
    (kk : sx l R X Ex fr K n0 Z (pc + 2) L (.int v :: st) sh μ cs ss) : sx l R X Ex fr K n0 Z pc L (st) sh μ cs ss :=
  fun p e s m args below meth c H locs ls hC hH hL => lv_ldc hC.1 hC.2.1 hC.2.2.2.2.2.1 (hC.2.2.2.2.2.2.1 _ hw) hd (kk p e s m args below meth c H locs ls hC hH hL)
theorem sx_null  (hd : decode K.2.1 pc = .ok (.aconst_null, 1))
    (kk : sx l R X Ex fr K n0 Z (pc + 1) L (.null :: st) sh μ cs ss) : sx l R X Ex fr K n0 Z pc L (st) sh μ cs ss :=
  fun p e s m args below meth c H locs ls hC hH hL => lv_null hC.1 hC.2.1 hd (kk p e s m args below meth c H locs ls hC hH hL)
theorem sx_iload_n {k : Fin 4} {i : Nat} {x : Int32} (hd : decode K.2.1 pc = .ok (.iload_n k, 1)) (hi : (k : Nat) = i) (hx : L[i]? = some (some (.int x)))
    (kk : sx l R X Ex fr K n0 Z (pc + 1) L (.int x :: st) sh μ cs ss) : sx l R X Ex fr K n0 Z pc L (st) sh μ cs ss :=
  fun p e s m args below meth c H locs ls hC hH hL => lv_iload_n hC.1 hC.2.1 hd hi (xL_at hL hx) (kk p e s m args below meth c H locs ls hC hH hL)
theorem sx_iload {i : Nat} {x : Int32} (hd : decode K.2.1 pc = .ok (.iload i, 2)) (hx : L[i]? = some (some (.int x)))
    (kk : sx l R X Ex fr K n0 Z (pc + 2) L (.int x :: st) sh μ cs ss) : sx l R X Ex fr K n0 Z pc L (st) sh μ cs ss :=
  fun p e s m args below meth c H locs ls hC hH hL => lv_iload hC.1 hC.2.1 hd (xL_at hL hx) (kk p e s m args below meth c H locs ls hC hH hL)
theorem sx_aload_n {k : Fin 4} {i : Nat} {x : Nat} (hd : decode K.2.1 pc = .ok (.aload_n k, 1)) (hi : (k : Nat) = i) (hx : L[i]? = some (some (.ref x)))
    (kk : sx l R X Ex fr K n0 Z (pc + 1) L (.ref x :: st) sh μ cs ss) : sx l R X Ex fr K n0 Z pc L (st) sh μ cs ss :=
  fun p e s m args below meth c H locs ls hC hH hL => lv_aload_n hC.1 hC.2.1 hd hi (xL_at hL hx) (kk p e s m args below meth c H locs ls hC hH hL)
theorem sx_aload {i : Nat} {x : Nat} (hd : decode K.2.1 pc = .ok (.aload i, 2)) (hx : L[i]? = some (some (.ref x)))
    (kk : sx l R X Ex fr K n0 Z (pc + 2) L (.ref x :: st) sh μ cs ss) : sx l R X Ex fr K n0 Z pc L (st) sh μ cs ss :=
  fun p e s m args below meth c H locs ls hC hH hL => lv_aload hC.1 hC.2.1 hd (xL_at hL hx) (kk p e s m args below meth c H locs ls hC hH hL)
theorem sx_istore_n {k : Fin 4} {i : Nat} {x : Int32} {L' : List (Option Value)} (hd : decode K.2.1 pc = .ok (.istore_n k, 1)) (hi : (k : Nat) = i) (hn : i < K.2.2.1) (hq : L.set i (some (.int x)) = L')
    (kk : sx l R X Ex fr K n0 Z (pc + 1) L' (st) sh μ cs ss) : sx l R X Ex fr K n0 Z pc L (.int x :: st) sh μ cs ss :=
  fun p e s m args below meth c H locs ls hC hH hL => lv_istore_n hC.1 hC.2.1 hd hi hL.1 hn rfl (fun ls' hl' => kk p e s m args below meth c H locs ls' hC hH (hq ▸ xL_set hL rfl hl'))
theorem sx_istore {i : Nat} {x : Int32} {L' : List (Option Value)} (hd : decode K.2.1 pc = .ok (.istore i, 2)) (hn : i < K.2.2.1) (hq : L.set i (some (.int x)) = L')
    (kk : sx l R X Ex fr K n0 Z (pc + 2) L' (st) sh μ cs ss) : sx l R X Ex fr K n0 Z pc L (.int x :: st) sh μ cs ss :=
  fun p e s m args below meth c H locs ls hC hH hL => lv_istore hC.1 hC.2.1 hd hL.1 hn rfl (fun ls' hl' => kk p e s m args below meth c H locs ls' hC hH (hq ▸ xL_set hL rfl hl'))
theorem sx_astore_n {k : Fin 4} {i : Nat} {x : Nat} {L' : List (Option Value)} (hd : decode K.2.1 pc = .ok (.astore_n k, 1)) (hi : (k : Nat) = i) (hn : i < K.2.2.1) (hq : L.set i (some (.ref x)) = L')
    (kk : sx l R X Ex fr K n0 Z (pc + 1) L' (st) sh μ cs ss) : sx l R X Ex fr K n0 Z pc L (.ref x :: st) sh μ cs ss :=
  fun p e s m args below meth c H locs ls hC hH hL => lv_astore_n hC.1 hC.2.1 hd hi hL.1 hn rfl (fun ls' hl' => kk p e s m args below meth c H locs ls' hC hH (hq ▸ xL_set hL rfl hl'))
theorem sx_astore {i : Nat} {x : Nat} {L' : List (Option Value)} (hd : decode K.2.1 pc = .ok (.astore i, 2)) (hn : i < K.2.2.1) (hq : L.set i (some (.ref x)) = L')
    (kk : sx l R X Ex fr K n0 Z (pc + 2) L' (st) sh μ cs ss) : sx l R X Ex fr K n0 Z pc L (.ref x :: st) sh μ cs ss :=
  fun p e s m args below meth c H locs ls hC hH hL => lv_astore hC.1 hC.2.1 hd hL.1 hn rfl (fun ls' hl' => kk p e s m args below meth c H locs ls' hC hH (hq ▸ xL_set hL rfl hl'))
theorem sx_iinc {i : Nat} {n : Int} {x v : Int32} {L' : List (Option Value)} (hd : decode K.2.1 pc = .ok (.iinc i n, 3)) (hx : L[i]? = some (some (.int x))) (hv : x + Int32.ofInt n = v) (hn : i < K.2.2.1) (hq : L.set i (some (.int v)) = L')
    (kk : sx l R X Ex fr K n0 Z (pc + 3) L' (st) sh μ cs ss) : sx l R X Ex fr K n0 Z pc L (st) sh μ cs ss :=
  fun p e s m args below meth c H locs ls hC hH hL => by
    obtain ⟨j, hj⟩ := List.getElem?_of_mem ((xlv_mem L 0 (i, .int x)).mpr ⟨i, hx, (Nat.zero_add i).symm⟩)
    exact lv_iinc hC.1 hC.2.1 hd hL.1 hj hv hn rfl (fun ls' hl' => kk p e s m args below meth c H locs ls' hC hH (hq ▸ xL_set hL rfl hl'))
theorem sx_iadd {x y : Int32} (hd : decode K.2.1 pc = .ok (.iadd, 1))
    (kk : sx l R X Ex fr K n0 Z (pc + 1) L (.int (x + y) :: st) sh μ cs ss) : sx l R X Ex fr K n0 Z pc L (.int y :: .int x :: st) sh μ cs ss :=
  fun p e s m args below meth c H locs ls hC hH hL => lv_iadd hC.1 hC.2.1 hd (kk p e s m args below meth c H locs ls hC hH hL)
theorem sx_isub {x y : Int32} (hd : decode K.2.1 pc = .ok (.isub, 1))
    (kk : sx l R X Ex fr K n0 Z (pc + 1) L (.int (x - y) :: st) sh μ cs ss) : sx l R X Ex fr K n0 Z pc L (.int y :: .int x :: st) sh μ cs ss :=
  fun p e s m args below meth c H locs ls hC hH hL => lv_isub hC.1 hC.2.1 hd (kk p e s m args below meth c H locs ls hC hH hL)
theorem sx_imul {x y : Int32} (hd : decode K.2.1 pc = .ok (.imul, 1))
    (kk : sx l R X Ex fr K n0 Z (pc + 1) L (.int (x * y) :: st) sh μ cs ss) : sx l R X Ex fr K n0 Z pc L (.int y :: .int x :: st) sh μ cs ss :=
  fun p e s m args below meth c H locs ls hC hH hL => lv_imul hC.1 hC.2.1 hd (kk p e s m args below meth c H locs ls hC hH hL)
theorem sx_iand {x y : Int32} (hd : decode K.2.1 pc = .ok (.iand, 1))
    (kk : sx l R X Ex fr K n0 Z (pc + 1) L (.int (x &&& y) :: st) sh μ cs ss) : sx l R X Ex fr K n0 Z pc L (.int y :: .int x :: st) sh μ cs ss :=
  fun p e s m args below meth c H locs ls hC hH hL => lv_iand hC.1 hC.2.1 hd (kk p e s m args below meth c H locs ls hC hH hL)
theorem sx_ishr {x y : Int32} (hd : decode K.2.1 pc = .ok (.ishr, 1))
    (kk : sx l R X Ex fr K n0 Z (pc + 1) L (.int (x >>> (y &&& 31)) :: st) sh μ cs ss) : sx l R X Ex fr K n0 Z pc L (.int y :: .int x :: st) sh μ cs ss :=
  fun p e s m args below meth c H locs ls hC hH hL => lv_ishr hC.1 hC.2.1 hd (kk p e s m args below meth c H locs ls hC hH hL)
theorem sx_idiv {x y : Int32} (hd : decode K.2.1 pc = .ok (.idiv, 1)) (hne : ¬ y = 0)
    (kk : sx l R X Ex fr K n0 Z (pc + 1) L (.int (x / y) :: st) sh μ cs ss) : sx l R X Ex fr K n0 Z pc L (.int y :: .int x :: st) sh μ cs ss :=
  fun p e s m args below meth c H locs ls hC hH hL => lv_idiv hC.1 hC.2.1 hd hne (kk p e s m args below meth c H locs ls hC hH hL)
theorem sx_irem {x y : Int32} (hd : decode K.2.1 pc = .ok (.irem, 1)) (hne : ¬ y = 0)
    (kk : sx l R X Ex fr K n0 Z (pc + 1) L (.int (x - x / y * y) :: st) sh μ cs ss) : sx l R X Ex fr K n0 Z pc L (.int y :: .int x :: st) sh μ cs ss :=
  fun p e s m args below meth c H locs ls hC hH hL => lv_irem hC.1 hC.2.1 hd hne (kk p e s m args below meth c H locs ls hC hH hL)
theorem sx_i2b {x v : Int32} (hd : decode K.2.1 pc = .ok (.i2b, 1)) (hv : x.toInt8.toInt32 = v)
    (kk : sx l R X Ex fr K n0 Z (pc + 1) L (.int v :: st) sh μ cs ss) : sx l R X Ex fr K n0 Z pc L (.int x :: st) sh μ cs ss :=
  fun p e s m args below meth c H locs ls hC hH hL => lv_i2b hC.1 hC.2.1 hd hv (kk p e s m args below meth c H locs ls hC hH hL)
theorem sx_i2l {x : Int32} {v : Int64} (hd : decode K.2.1 pc = .ok (.i2l, 1)) (hv : x.toInt64 = v)
    (kk : sx l R X Ex fr K n0 Z (pc + 1) L (.long v :: st) sh μ cs ss) : sx l R X Ex fr K n0 Z pc L (.int x :: st) sh μ cs ss :=
  fun p e s m args below meth c H locs ls hC hH hL => lv_i2l hC.1 hC.2.1 hd hv (kk p e s m args below meth c H locs ls hC hH hL)
theorem sx_dup {va : Value} (hd : decode K.2.1 pc = .ok (.dup, 1)) (h1 : va.category = 1)
    (kk : sx l R X Ex fr K n0 Z (pc + 1) L (va :: va :: st) sh μ cs ss) : sx l R X Ex fr K n0 Z pc L (va :: st) sh μ cs ss :=
  fun p e s m args below meth c H locs ls hC hH hL => lv_dup hC.1 hC.2.1 hd h1 (kk p e s m args below meth c H locs ls hC hH hL)
theorem sx_pop {va : Value} (hd : decode K.2.1 pc = .ok (.pop, 1)) (h1 : va.category = 1)
    (kk : sx l R X Ex fr K n0 Z (pc + 1) L (st) sh μ cs ss) : sx l R X Ex fr K n0 Z pc L (va :: st) sh μ cs ss :=
  fun p e s m args below meth c H locs ls hC hH hL => lv_pop hC.1 hC.2.1 hd h1 (kk p e s m args below meth c H locs ls hC hH hL)
theorem sx_dup_x1 {va vb : Value} (hd : decode K.2.1 pc = .ok (.dup_x1, 1)) (h1 : va.category = 1) (h2 : vb.category = 1)
    (kk : sx l R X Ex fr K n0 Z (pc + 1) L (va :: vb :: va :: st) sh μ cs ss) : sx l R X Ex fr K n0 Z pc L (va :: vb :: st) sh μ cs ss :=
  fun p e s m args below meth c H locs ls hC hH hL => lv_dup_x1 hC.1 hC.2.1 hd h1 h2 (kk p e s m args below meth c H locs ls hC hH hL)
theorem sx_dup_x2 {va vb vd : Value} (hd : decode K.2.1 pc = .ok (.dup_x2, 1)) (h1 : va.category = 1) (h2 : vb.category = 1) (h3 : vd.category = 1)
    (kk : sx l R X Ex fr K n0 Z (pc + 1) L (va :: vb :: vd :: va :: st) sh μ cs ss) : sx l R X Ex fr K n0 Z pc L (va :: vb :: vd :: st) sh μ cs ss :=
  fun p e s m args below meth c H locs ls hC hH hL => lv_dup_x2 hC.1 hC.2.1 hd h1 h2 h3 (kk p e s m args below meth c H locs ls hC hH hL)
theorem sx_dup2 {va vb : Value} (hd : decode K.2.1 pc = .ok (.dup2, 1)) (h1 : va.category = 1) (h2 : vb.category = 1)
    (kk : sx l R X Ex fr K n0 Z (pc + 1) L (va :: vb :: va :: vb :: st) sh μ cs ss) : sx l R X Ex fr K n0 Z pc L (va :: vb :: st) sh μ cs ss :=
  fun p e s m args below meth c H locs ls hC hH hL => lv_dup2_11 hC.1 hC.2.1 hd h1 h2 (kk p e s m args below meth c H locs ls hC hH hL)
theorem sx_goto {off : Int} {tgt : Nat} (hd : decode K.2.1 pc = .ok (.goto off, 3)) (ht : (pc : Int) + off = (tgt : Int))
    (kk : sx l R X Ex fr K n0 Z (tgt) L (st) sh μ cs ss) : sx l R X Ex fr K n0 Z pc L (st) sh μ cs ss :=
  fun p e s m args below meth c H locs ls hC hH hL => lv_goto hC.1 hC.2.1 hd ht (kk p e s m args below meth c H locs ls hC hH hL)
theorem sx_if_eq {x : Int32} {off : Int} {tgt : Nat} (hd : decode K.2.1 pc = .ok (.ifCond .eq off, 3)) (ht : (pc : Int) + off = (tgt : Int))
    (kt : (x = 0) → sx l R X Ex fr K n0 Z tgt L st sh μ cs ss) (kf : ¬ (x = 0) → sx l R X Ex fr K n0 Z (pc + 3) L st sh μ cs ss) : sx l R X Ex fr K n0 Z pc L (.int x :: st) sh μ cs ss :=
  fun p e s m args below meth c H locs ls hC hH hL => lv_if_eq hC.1 hC.2.1 hd ht (fun q => kt q p e s m args below meth c H locs ls hC hH hL) (fun q => kf q p e s m args below meth c H locs ls hC hH hL)
theorem sx_icmp_eq {x y : Int32} {off : Int} {tgt : Nat} (hd : decode K.2.1 pc = .ok (.if_icmp .eq off, 3)) (ht : (pc : Int) + off = (tgt : Int))
    (kt : (x = y) → sx l R X Ex fr K n0 Z tgt L st sh μ cs ss) (kf : ¬ (x = y) → sx l R X Ex fr K n0 Z (pc + 3) L st sh μ cs ss) : sx l R X Ex fr K n0 Z pc L (.int y :: .int x :: st) sh μ cs ss :=
  fun p e s m args below meth c H locs ls hC hH hL => lv_icmp_eq hC.1 hC.2.1 hd ht (fun q => kt q p e s m args below meth c H locs ls hC hH hL) (fun q => kf q p e s m args below meth c H locs ls hC hH hL)
theorem sx_if_ne {x : Int32} {off : Int} {tgt : Nat} (hd : decode K.2.1 pc = .ok (.ifCond .ne off, 3)) (ht : (pc : Int) + off = (tgt : Int))
    (kt : ¬ x = 0 → sx l R X Ex fr K n0 Z tgt L st sh μ cs ss) (kf : x = 0 → sx l R X Ex fr K n0 Z (pc + 3) L st sh μ cs ss) : sx l R X Ex fr K n0 Z pc L (.int x :: st) sh μ cs ss :=
  fun p e s m args below meth c H locs ls hC hH hL => lv_if_ne hC.1 hC.2.1 hd ht (fun q => kt q p e s m args below meth c H locs ls hC hH hL) (fun q => kf q p e s m args below meth c H locs ls hC hH hL)
theorem sx_icmp_ne {x y : Int32} {off : Int} {tgt : Nat} (hd : decode K.2.1 pc = .ok (.if_icmp .ne off, 3)) (ht : (pc : Int) + off = (tgt : Int))
    (kt : ¬ x = y → sx l R X Ex fr K n0 Z tgt L st sh μ cs ss) (kf : x = y → sx l R X Ex fr K n0 Z (pc + 3) L st sh μ cs ss) : sx l R X Ex fr K n0 Z pc L (.int y :: .int x :: st) sh μ cs ss :=
  fun p e s m args below meth c H locs ls hC hH hL => lv_icmp_ne hC.1 hC.2.1 hd ht (fun q => kt q p e s m args below meth c H locs ls hC hH hL) (fun q => kf q p e s m args below meth c H locs ls hC hH hL)
theorem sx_if_lt {x : Int32} {off : Int} {tgt : Nat} (hd : decode K.2.1 pc = .ok (.ifCond .lt off, 3)) (ht : (pc : Int) + off = (tgt : Int))
    (kt : (x < 0) → sx l R X Ex fr K n0 Z tgt L st sh μ cs ss) (kf : ¬ (x < 0) → sx l R X Ex fr K n0 Z (pc + 3) L st sh μ cs ss) : sx l R X Ex fr K n0 Z pc L (.int x :: st) sh μ cs ss :=
  fun p e s m args below meth c H locs ls hC hH hL => lv_if_lt hC.1 hC.2.1 hd ht (fun q => kt q p e s m args below meth c H locs ls hC hH hL) (fun q => kf q p e s m args below meth c H locs ls hC hH hL)
theorem sx_icmp_lt {x y : Int32} {off : Int} {tgt : Nat} (hd : decode K.2.1 pc = .ok (.if_icmp .lt off, 3)) (ht : (pc : Int) + off = (tgt : Int))
    (kt : (x < y) → sx l R X Ex fr K n0 Z tgt L st sh μ cs ss) (kf : ¬ (x < y) → sx l R X Ex fr K n0 Z (pc + 3) L st sh μ cs ss) : sx l R X Ex fr K n0 Z pc L (.int y :: .int x :: st) sh μ cs ss :=
  fun p e s m args below meth c H locs ls hC hH hL => lv_icmp_lt hC.1 hC.2.1 hd ht (fun q => kt q p e s m args below meth c H locs ls hC hH hL) (fun q => kf q p e s m args below meth c H locs ls hC hH hL)
theorem sx_if_ge {x : Int32} {off : Int} {tgt : Nat} (hd : decode K.2.1 pc = .ok (.ifCond .ge off, 3)) (ht : (pc : Int) + off = (tgt : Int))
    (kt : (0 ≤ x) → sx l R X Ex fr K n0 Z tgt L st sh μ cs ss) (kf : ¬ (0 ≤ x) → sx l R X Ex fr K n0 Z (pc + 3) L st sh μ cs ss) : sx l R X Ex fr K n0 Z pc L (.int x :: st) sh μ cs ss :=
  fun p e s m args below meth c H locs ls hC hH hL => lv_if_ge hC.1 hC.2.1 hd ht (fun q => kt q p e s m args below meth c H locs ls hC hH hL) (fun q => kf q p e s m args below meth c H locs ls hC hH hL)
theorem sx_icmp_ge {x y : Int32} {off : Int} {tgt : Nat} (hd : decode K.2.1 pc = .ok (.if_icmp .ge off, 3)) (ht : (pc : Int) + off = (tgt : Int))
    (kt : (y ≤ x) → sx l R X Ex fr K n0 Z tgt L st sh μ cs ss) (kf : ¬ (y ≤ x) → sx l R X Ex fr K n0 Z (pc + 3) L st sh μ cs ss) : sx l R X Ex fr K n0 Z pc L (.int y :: .int x :: st) sh μ cs ss :=
  fun p e s m args below meth c H locs ls hC hH hL => lv_icmp_ge hC.1 hC.2.1 hd ht (fun q => kt q p e s m args below meth c H locs ls hC hH hL) (fun q => kf q p e s m args below meth c H locs ls hC hH hL)
theorem sx_if_gt {x : Int32} {off : Int} {tgt : Nat} (hd : decode K.2.1 pc = .ok (.ifCond .gt off, 3)) (ht : (pc : Int) + off = (tgt : Int))
    (kt : (0 < x) → sx l R X Ex fr K n0 Z tgt L st sh μ cs ss) (kf : ¬ (0 < x) → sx l R X Ex fr K n0 Z (pc + 3) L st sh μ cs ss) : sx l R X Ex fr K n0 Z pc L (.int x :: st) sh μ cs ss :=
  fun p e s m args below meth c H locs ls hC hH hL => lv_if_gt hC.1 hC.2.1 hd ht (fun q => kt q p e s m args below meth c H locs ls hC hH hL) (fun q => kf q p e s m args below meth c H locs ls hC hH hL)
theorem sx_icmp_gt {x y : Int32} {off : Int} {tgt : Nat} (hd : decode K.2.1 pc = .ok (.if_icmp .gt off, 3)) (ht : (pc : Int) + off = (tgt : Int))
    (kt : (y < x) → sx l R X Ex fr K n0 Z tgt L st sh μ cs ss) (kf : ¬ (y < x) → sx l R X Ex fr K n0 Z (pc + 3) L st sh μ cs ss) : sx l R X Ex fr K n0 Z pc L (.int y :: .int x :: st) sh μ cs ss :=
  fun p e s m args below meth c H locs ls hC hH hL => lv_icmp_gt hC.1 hC.2.1 hd ht (fun q => kt q p e s m args below meth c H locs ls hC hH hL) (fun q => kf q p e s m args below meth c H locs ls hC hH hL)
theorem sx_if_le {x : Int32} {off : Int} {tgt : Nat} (hd : decode K.2.1 pc = .ok (.ifCond .le off, 3)) (ht : (pc : Int) + off = (tgt : Int))
    (kt : (x ≤ 0) → sx l R X Ex fr K n0 Z tgt L st sh μ cs ss) (kf : ¬ (x ≤ 0) → sx l R X Ex fr K n0 Z (pc + 3) L st sh μ cs ss) : sx l R X Ex fr K n0 Z pc L (.int x :: st) sh μ cs ss :=
  fun p e s m args below meth c H locs ls hC hH hL => lv_if_le hC.1 hC.2.1 hd ht (fun q => kt q p e s m args below meth c H locs ls hC hH hL) (fun q => kf q p e s m args below meth c H locs ls hC hH hL)
theorem sx_icmp_le {x y : Int32} {off : Int} {tgt : Nat} (hd : decode K.2.1 pc = .ok (.if_icmp .le off, 3)) (ht : (pc : Int) + off = (tgt : Int))
    (kt : (x ≤ y) → sx l R X Ex fr K n0 Z tgt L st sh μ cs ss) (kf : ¬ (x ≤ y) → sx l R X Ex fr K n0 Z (pc + 3) L st sh μ cs ss) : sx l R X Ex fr K n0 Z pc L (.int y :: .int x :: st) sh μ cs ss :=
  fun p e s m args below meth c H locs ls hC hH hL => lv_icmp_le hC.1 hC.2.1 hd ht (fun q => kt q p e s m args below meth c H locs ls hC hH hL) (fun q => kf q p e s m args below meth c H locs ls hC hH hL)
theorem sx_lookup {dflt : Int} {ps : Array (Int × Int)} {len : Nat} {x : Int32} {off : Int} {tgt : Nat} (hd : decode K.2.1 pc = .ok (.lookupswitch dflt ps, len)) (hp : (ps.toList.zip (ps.toList.drop 1)).all (fun (a, next) => a.1 < next.1) = true) (ho : Op.lookupswitch.offset ps.toList dflt x.toInt = off) (ht : (pc : Int) + off = (tgt : Int))
    (kk : sx l R X Ex fr K n0 Z (tgt) L (st) sh μ cs ss) : sx l R X Ex fr K n0 Z pc L (.int x :: st) sh μ cs ss :=
  fun p e s m args below meth c H locs ls hC hH hL => lv_lookup hC.1 hC.2.1 hd hp ho ht (kk p e s m args below meth c H locs ls hC hH hL)
theorem sx_tableOut {dflt lo hi : Int} {offs : Array Int} {len : Nat} {x : Int32} {tgt : Nat} (hd : decode K.2.1 pc = .ok (.tableswitch dflt lo hi offs, len)) (h : x.toInt < lo ∨ hi < x.toInt) (ht : (pc : Int) + dflt = (tgt : Int))
    (kk : sx l R X Ex fr K n0 Z (tgt) L (st) sh μ cs ss) : sx l R X Ex fr K n0 Z pc L (.int x :: st) sh μ cs ss :=
  fun p e s m args below meth c H locs ls hC hH hL => lv_tableOut hC.1 hC.2.1 hd h ht (kk p e s m args below meth c H locs ls hC hH hL)
theorem sx_tableIn {dflt lo hi : Int} {offs : Array Int} {len : Nat} {x : Int32} {off : Int} {tgt : Nat} (hd : decode K.2.1 pc = .ok (.tableswitch dflt lo hi offs, len)) (h1 : ¬ x.toInt < lo) (h2 : ¬ hi < x.toInt) (ho : offs[(x.toInt - lo).toNat]? = some off) (ht : (pc : Int) + off = (tgt : Int))
    (kk : sx l R X Ex fr K n0 Z (tgt) L (st) sh μ cs ss) : sx l R X Ex fr K n0 Z pc L (.int x :: st) sh μ cs ss :=
  fun p e s m args below meth c H locs ls hC hH hL => lv_tableIn hC.1 hC.2.1 hd h1 h2 ho ht (kk p e s m args below meth c H locs ls hC hH hL)
end SX
section SXP
variable {p : Program} {l : Launch} {e : Env} {R : Room} {s : State} {m : MethodId} {args : Array Value} {below : List Frame} {meth : Method} {c : Code} {H : Heap} {locs : List Loc} {cells slots : Nat} {Q : State → Prop}
variable {cc : ByteArray} {pc : Nat} {ls : Array Slot} {rest : List Value} {D : va_G} {cl : List vw_C} {A : Nat → Prop} {a : Nat} {tys : List (ClassId × FieldType)} {ws : va_W} {H0 : Heap}
/-- what a field of a cell of the world is, for a store -/
theorem xf_slot {own C : String} {T : u_T} {N ci : Nat} {Ts : List Cond} (hts : ∀ w ∈ Ts, w.before args s = true) (hin : ∀ w ∈ u_ws C T N, w ∈ Ts) (ty0 : Nat → FieldType) (hty : ∀ k, k < N → parseFieldDescriptor (T k).2.2.1 = some (ty0 k)) (hnm : ∀ a, a < N → ∀ b, b < N → a ≠ b → (T a).2.1 ≠ (T b).2.1) (hK : va_K D cl tys s) (hP : va_P D cl ws H) (q0 : Nat) {fs : List Value} (he : ws[q0]? = some (a, .inr (ci, fs))) (hc : cl[ci]? = some (C, T, N)) (k : Nat) (hk : k < N) (hl : k < fs.length) (v : Value) :
    ∃ (cell : Cell) (cf fi : Nat) (kf kC : Class) (f : Field), H[a]? = some cell ∧ cell.cls = D.1 ci ∧ cell.vm = .none ∧ s.fieldFound? (T k).1 (T k).2.1 (T k).2.2.1 = some (cf, kf, fi, f) ∧ f.isStatic = false ∧ f.slot < cell.slots.size ∧ s.vm.findClass C = some (D.1 ci) ∧ s.vm.classes[D.1 ci]? = some kC ∧ kC.kind = .ordinary ∧
      ∀ H1 : Heap, H1[a]? = some (cell.setSlot f.slot v) → va_at D cl (a, .inr (ci, fs.set k v)) H1 := by
  have hap := va_apart (own := own) hts hin ty0 hty hnm hK hc
  obtain ⟨r, h1, cell, q1, q2, q3, q4⟩ := hP q0 _ he
  obtain rfl : r = (C, T, N) := Option.some.inj (h1.symm.trans hc)
  obtain ⟨hS, hfc, kC, hkC, hkind⟩ := hK.1 ci _ hc
  obtain ⟨cf, kf, fi, f, hi, hsl⟩ := hS k hk
  refine ⟨cell, cf, fi, kf, kC, f, q1, q2, q3, hi, (u_facts hfc hkC (u_lays hts hin hk) hi).1, by rw [hsl]; exact k2_hasslot (q4 k hk), hfc, hkC, hkind, fun H1 e1 => ?_⟩
  rw [hsl] at e1
  exact ⟨_, hc, t_OB.to (V := updV (vp_V fs) k v) ⟨_, e1, q2, q3, t_set q4 hap hk v⟩ (fun j _ => vp_updV_set hl v j)⟩
theorem va_putz (hexec : p.tables.exec = Jvm.exec) (hb : c.code = cc) {own C : String} {T : u_T} {N ci index : Nat} {Ts : List Cond} (hts : ∀ w ∈ Ts, w.before args s = true) (hin : ∀ w ∈ u_ws C T N, w ∈ Ts) (ty0 : Nat → FieldType) (hty : ∀ k, k < N → parseFieldDescriptor (T k).2.2.1 = some (ty0 k)) (hnm : ∀ a, a < N → ∀ b, b < N → a ≠ b → (T a).2.1 ≠ (T b).2.1) (hown : s.vm.findClass own = some m.cls) (hK : va_K D cl tys s) (hP : va_P D cl ws H) (hD : va_D A ws) (hS0 : va_S A H0 H locs) (q0 : Nat) {fs : List Value} (he : ws[q0]? = some (a, .inr (ci, fs))) (hc : cl[ci]? = some (C, T, N)) (k : Nat) (hk : k < N) (hlink : (Cond.fieldLink own index (T k).1 (T k).2.1 (T k).2.2.1).before args s = true) (hfin : (T k).2.2.2 = false) {ty : FieldType} {v : Value} (hd : parseFieldDescriptor (T k).2.2.1 = some ty) (hn : narrow ty v = v) (hfit : fits ty v = true) (hl : k < fs.length)
    (hdg : decode cc pc = .ok (.putfield index, 3)) (kk : ∀ (H1 : Heap) (locs1 : List Loc), H1.size = H.size → va_P D cl (ws.set q0 (a, .inr (ci, fs.set k v))) H1 → va_S A H0 H1 locs1 → W p l e R s m args below meth c H1 locs1 cells slots Q (F0 m (pc + 3) ls rest)) : W p l e R s m args below meth c H locs cells slots Q (F0 m pc ls (v :: .ref a :: rest)) := by
  obtain ⟨cell, cf, fi, kf, kC, f, q1, q2, q3, hi, hst, hlt, hfc, hkC, hkind, hat⟩ := xf_slot (own := own) hts hin ty0 hty hnm hK hP q0 he hc k hk hl v
  have hlay := hts _ (hin _ (u_in_lay hk))
  unfold u_lay at hlay
  rw [if_neg (by rw [hfin]; decide)] at hlay
  refine W.putK hexec hb (f := f) ⟨hown, hlink, ⟨_, _, _, hi⟩, hst⟩ (by rw [q2]; exact u_store hfc hkC hkind hlay hi hd hn hfit) q1 q3 hlt rfl rfl hdg fun H' e1 e2 e3 => ?_
  exact kk H' _ e2 (hP.set hD he (hat H' e1) e3) (hS0.put e2 e3 (hD.2 q0 _ he))
theorem va_putFz (hexec : p.tables.exec = Jvm.exec) (hb : c.code = cc) {own C : String} {T : u_T} {N ci index : Nat} {Ts : List Cond} (hts : ∀ w ∈ Ts, w.before args s = true) (hin : ∀ w ∈ u_ws C T N, w ∈ Ts) (ty0 : Nat → FieldType) (hty : ∀ k, k < N → parseFieldDescriptor (T k).2.2.1 = some (ty0 k)) (hnm : ∀ a, a < N → ∀ b, b < N → a ≠ b → (T a).2.1 ≠ (T b).2.1) (hown : s.vm.findClass own = some m.cls) (hK : va_K D cl tys s) (hP : va_P D cl ws H) (hD : va_D A ws) (hS0 : va_S A H0 H locs) (q0 : Nat) {fs : List Value} (he : ws[q0]? = some (a, .inr (ci, fs))) (hc : cl[ci]? = some (C, T, N)) (k : Nat) (hk : k < N) (hlink : (Cond.fieldLink own index (T k).1 (T k).2.1 (T k).2.2.1).before args s = true) (hfin : (T k).2.2.2 = true) (hin2 : meth.name = "<init>") (hdecl : (T k).1 = own) {ty : FieldType} {v : Value} (hd : parseFieldDescriptor (T k).2.2.1 = some ty) (hn : narrow ty v = v) (hfit : fits ty v = true) (hl : k < fs.length)
    (hdg : decode cc pc = .ok (.putfield index, 3)) (kk : ∀ (H1 : Heap) (locs1 : List Loc), H1.size = H.size → va_P D cl (ws.set q0 (a, .inr (ci, fs.set k v))) H1 → va_S A H0 H1 locs1 → W p l e R s m args below meth c H1 locs1 cells slots Q (F0 m (pc + 3) ls rest)) : W p l e R s m args below meth c H locs cells slots Q (F0 m pc ls (v :: .ref a :: rest)) := by
  obtain ⟨cell, cf, fi, kf, kC, f, q1, q2, q3, hi, hst, hlt, hfc, hkC, hkind, hat⟩ := xf_slot (own := own) hts hin ty0 hty hnm hK hP q0 he hc k hk hl v
  have hlay := hts _ (hin _ (u_in_lay hk))
  unfold u_lay at hlay
  rw [if_pos hfin] at hlay
  have hcf : m.cls = cf := by
    obtain ⟨_, _, c', _, _, _, -, -, hf', -, -, -, hown2, -⟩ := Cond.laysFinal_spec hlay
    have e1 : c' = cf := by have := hi.symm.trans hf'; simp at this; exact this.1.symm
    rw [hdecl] at hown2
    rw [← e1]; exact Option.some.inj (hown.symm.trans hown2)
  refine W.putFinK hexec hb hown hlink hi hst hcf hin2 (by rw [q2]; exact u_fits hfc hkC hkind (Or.inr hlay) hi hd hn hfit) q1 q3 hlt rfl rfl hdg fun H' e1 e2 e3 => ?_
  exact kk H' _ e2 (hP.set hD he (hat H' e1) e3) (hS0.put e2 e3 (hD.2 q0 _ he))
theorem va_iastz (hexec : p.tables.exec = Jvm.exec) (hb : c.code = cc) (hK : va_K D cl tys s) (hP : va_P D cl ws H) (hD : va_D A ws) (hS : va_S A H0 H locs) (q0 t0 : Nat) {cA : ClassId} {n : Nat} {f : Nat → Int32} (ha : ws[q0]? = some (a, .inl (cA, n, .inl f))) (ht : tys[t0]? = some (cA, .int)) {i : Int32} {x : Int32} (hin : vp_in i n) (hdg : decode cc pc = .ok (.iastore, 1))
    (kk : ∀ (H1 : Heap) (locs1 : List Loc), H1.size = H.size → va_P D cl (ws.set q0 (a, .inl (cA, n, .inl (upd f i.toNatClampNeg x)))) H1 → va_S A H0 H1 locs1 → W p l e R s m args below meth c H1 locs1 cells slots Q (F0 m (pc + 1) ls rest)) : W p l e R s m args below meth c H locs cells slots Q (F0 m pc ls (.int x :: .int i :: .ref a :: rest)) := by
  refine W.iast hexec hb (hP q0 _ ha) ((hK.2 t0 _ ht).1 n (fun j => .int (f j))) (fun q => by cases q) (by show ¬ (i < 0 ∨ (arrV _ _ _).slots.size ≤ _); rw [arrV_size]; exact hin) rfl rfl hdg fun H1 e z oq => ?_
  refine kk H1 _ z (hP.set hD ha ?_ oq) (hS.put z oq (hD.2 q0 _ ha))
  show H1[a]? = some (vp_cell _ _)
  rw [e, vp_cell_i, vp_cell_i, arrV_store]
  congr 2
  funext q
  by_cases hq : q = i.toNatClampNeg
  · subst hq
    simp [updV, upd]
  · simp [updV, upd, hq]
end SXP
section SXH
variable {l : Launch} {R : Room} {X : xD} {Ex : State → Prop} {fr : Bool} {K : xK} {n0 : Nat} {Z : List Frame → Array Value → State → State → Prop} {pc : Nat} {L : List (Option Value)} {st : List Value} {sh : List xS} {μ : xM} {cs ss : Nat}
theorem xH_set {n0 : Nat} {fr : Bool} {sh : List xS} {μ : xM} {s : State} {H : Heap} {locs : List Loc} {X : xD} (hH : xH X fr n0 sh μ s H locs) {k : Nat} {s' : xS} {f : Nat → Int32} {e : va_E} (hk : k < sh.length) (he : e = xpic X s' f) {H1 : Heap} {locs1 : List Loc} (hz : H1.size = H.size) (hP : va_P X.1.1 classes ((xwl X sh μ).set k (X.2 + k, e)) H1) (hS : va_S (xA X.2 n0 fr) s.heap H1 locs1) : xH X fr n0 (sh.set k s') (va_up μ k f) s H1 locs1 := by
  subst he
  rw [xwl_set hk] at hP
  refine ⟨hP, hS, by rw [List.length_set]; exact hH.2.2.1, fun h => by rw [List.length_set]; exact hH.2.2.2.1 h, fun h => by rw [List.length_set, hz]; exact hH.2.2.2.2 h⟩
theorem sx_geti {C : String} {T : u_T} {N ci i j k : Nat} {fl : List (Option (Option Nat))} (hd : decode K.2.1 pc = .ok (.getfield i, 3)) (hc : classes[ci]? = some (C, T, N)) (hs : sh[k]? = some (.inl (ci, fl))) (hj : fl[j]? = some none) (hjn : j < N) (hw : Cond.fieldLink K.1 i (T j).1 (T j).2.1 (T j).2.2.1 ∈ xws)
    (kk : sx l R X Ex fr K n0 Z (pc + 3) L (.int (μ k j) :: st) sh μ cs ss) : sx l R X Ex fr K n0 Z pc L (.ref (X.2 + k) :: st) sh μ cs ss :=
  fun p e s m args below meth c H locs ls hC hH hL => va_get hC.1 hC.2.1 hC.2.2.2.2.2.2.1 (xcl_ok ci _ hc).1 hC.2.2.2.2.2.1 hC.2.2.2.2.2.2.2.2.1 hH.1 k (xwl_get μ hs) hc j hjn (hC.2.2.2.2.2.2.1 _ hw) (fun _ h => h) (v := .int (μ k j)) (by have := xfs_get X.2 (μ k) fl 0 j none hj; rwa [Nat.zero_add] at this) hd (kk p e s m args below meth c H locs ls hC hH hL)
theorem sx_getr {C : String} {T : u_T} {N ci i j k r : Nat} {fl : List (Option (Option Nat))} (hd : decode K.2.1 pc = .ok (.getfield i, 3)) (hc : classes[ci]? = some (C, T, N)) (hs : sh[k]? = some (.inl (ci, fl))) (hj : fl[j]? = some (some (some r))) (hjn : j < N) (hw : Cond.fieldLink K.1 i (T j).1 (T j).2.1 (T j).2.2.1 ∈ xws)
    (kk : sx l R X Ex fr K n0 Z (pc + 3) L (.ref (X.2 + r) :: st) sh μ cs ss) : sx l R X Ex fr K n0 Z pc L (.ref (X.2 + k) :: st) sh μ cs ss :=
  fun p e s m args below meth c H locs ls hC hH hL => va_get hC.1 hC.2.1 hC.2.2.2.2.2.2.1 (xcl_ok ci _ hc).1 hC.2.2.2.2.2.1 hC.2.2.2.2.2.2.2.2.1 hH.1 k (xwl_get μ hs) hc j hjn (hC.2.2.2.2.2.2.1 _ hw) (fun _ h => h) (v := .ref (X.2 + r)) (by have := xfs_get X.2 (μ k) fl 0 j _ hj; rwa [Nat.zero_add] at this) hd (kk p e s m args below meth c H locs ls hC hH hL)
theorem sx_getiN {C host : String} {T : u_T} {N ci i j k : Nat} {fl : List (Option (Option Nat))} (hd : decode K.2.1 pc = .ok (.getfield i, 3)) (hc : classes[ci]? = some (C, T, N)) (hs : sh[k]? = some (.inl (ci, fl))) (hj : fl[j]? = some none) (hjn : j < N) (hw : Cond.fieldLinkNest K.1 i (T j).1 (T j).2.1 (T j).2.2.1 host ∈ xnw)
    (kk : sx l R X Ex fr K n0 Z (pc + 3) L (.int (μ k j) :: st) sh μ cs ss) : sx l R X Ex fr K n0 Z pc L (.ref (X.2 + k) :: st) sh μ cs ss :=
  fun p e s m args below meth c H locs ls hC hH hL => va_getN hC.1 hC.2.1 hC.2.2.2.2.2.2.1 (xcl_ok ci _ hc).1 hC.2.2.2.2.2.1 hC.2.2.2.2.2.2.2.2.1 hH.1 k (xwl_get μ hs) hc j hjn (va_Nw.use rfl (hC.2.2.2.2.2.2.2.1 _ hw)) (fun _ h => h) (v := .int (μ k j)) (by have := xfs_get X.2 (μ k) fl 0 j none hj; rwa [Nat.zero_add] at this) hd (kk p e s m args below meth c H locs ls hC hH hL)
theorem sx_getrN {C host : String} {T : u_T} {N ci i j k r : Nat} {fl : List (Option (Option Nat))} (hd : decode K.2.1 pc = .ok (.getfield i, 3)) (hc : classes[ci]? = some (C, T, N)) (hs : sh[k]? = some (.inl (ci, fl))) (hj : fl[j]? = some (some (some r))) (hjn : j < N) (hw : Cond.fieldLinkNest K.1 i (T j).1 (T j).2.1 (T j).2.2.1 host ∈ xnw)
    (kk : sx l R X Ex fr K n0 Z (pc + 3) L (.ref (X.2 + r) :: st) sh μ cs ss) : sx l R X Ex fr K n0 Z pc L (.ref (X.2 + k) :: st) sh μ cs ss :=
  fun p e s m args below meth c H locs ls hC hH hL => va_getN hC.1 hC.2.1 hC.2.2.2.2.2.2.1 (xcl_ok ci _ hc).1 hC.2.2.2.2.2.1 hC.2.2.2.2.2.2.2.2.1 hH.1 k (xwl_get μ hs) hc j hjn (va_Nw.use rfl (hC.2.2.2.2.2.2.2.1 _ hw)) (fun _ h => h) (v := .ref (X.2 + r)) (by have := xfs_get X.2 (μ k) fl 0 j _ hj; rwa [Nat.zero_add] at this) hd (kk p e s m args below meth c H locs ls hC hH hL)
theorem xpic_put {X : xD} {ci j : Nat} {fl : List (Option (Option Nat))} {f : Nat → Int32} (o : Option (Option Nat)) (x : Int32) : (Sum.inr (ci, (xfs X.2 f fl 0).set j (xval X.2 o x)) : va_E) = xpic X (.inl (ci, fl.set j o)) (upd f j x) := by
  have h := xfs_set X.2 f o x fl 0 j
  rw [Nat.zero_add] at h
  simp only [xpic, h]
theorem sx_puti {C : String} {T : u_T} {N ci i j k : Nat} {fl : List (Option (Option Nat))} {v : Int32} {ty : FieldType} (hd : decode K.2.1 pc = .ok (.putfield i, 3)) (hc : classes[ci]? = some (C, T, N)) (hs : sh[k]? = some (.inl (ci, fl))) (hj : fl[j]? = some none) (hjn : j < N) (hw : Cond.fieldLink K.1 i (T j).1 (T j).2.1 (T j).2.2.1 ∈ xws) (hf : (T j).2.2.2 = false) (hy : parseFieldDescriptor (T j).2.2.1 = some ty) (hn : narrow ty (.int v) = .int v) (hv : fits ty (.int v) = true)
    (kk : ∀ μ' : xM, μ' = xup μ k j v → sx l R X Ex fr K n0 Z (pc + 3) L st sh μ' cs ss) : sx l R X Ex fr K n0 Z pc L (.int v :: .ref (X.2 + k) :: st) sh μ cs ss := by
  intro p e s m args below meth c H locs ls hC hH hL
  obtain ⟨hin, ty0, hty, hnm⟩ := xcl_ok ci _ hc
  have hjl : j < (xfs X.2 (μ k) fl 0).length := by rw [xfs_len]; exact (List.getElem?_eq_some_iff.mp hj).1
  have hkl := (List.getElem?_eq_some_iff.mp hs).1
  refine va_putz hC.1 hC.2.1 hC.2.2.2.2.2.2.1 hin ty0 hty hnm hC.2.2.2.2.2.1 hC.2.2.2.2.2.2.2.2.1 hH.1 (xwl_D hH.2.2.2.1) hH.2.1 k (xwl_get μ hs) hc j hjn (hC.2.2.2.2.2.2.1 _ hw) hf hy hn hv hjl hd (fun H1 locs1 hz hP hS => ?_)
  have h2 := xH_set hH hkl (xpic_put (X := X) (ci := ci) (j := j) (fl := fl) (f := μ k) none v) hz hP hS
  rw [xsame hj, xsame hs] at h2
  exact kk _ rfl p e s m args below meth c H1 locs1 ls hC h2 hL
theorem sx_putiN {C host : String} {T : u_T} {N ci i j k : Nat} {fl : List (Option (Option Nat))} {v : Int32} {ty : FieldType} (hfr : fr = false) (hd : decode K.2.1 pc = .ok (.putfield i, 3)) (hc : classes[ci]? = some (C, T, N)) (hs : sh[k]? = some (.inl (ci, fl))) (hj : fl[j]? = some none) (hjn : j < N) (hw : Cond.fieldLinkNest K.1 i (T j).1 (T j).2.1 (T j).2.2.1 host ∈ xnw) (hf : (T j).2.2.2 = false) (hy : parseFieldDescriptor (T j).2.2.1 = some ty) (hn : narrow ty (.int v) = .int v) (hv : fits ty (.int v) = true)
    (kk : ∀ μ' : xM, μ' = xup μ k j v → sx l R X Ex fr K n0 Z (pc + 3) L st sh μ' cs ss) : sx l R X Ex fr K n0 Z pc L (.int v :: .ref (X.2 + k) :: st) sh μ cs ss := by
  intro p e s m args below meth c H locs ls hC hH hL
  subst hfr
  obtain ⟨hin, ty0, hty, hnm⟩ := xcl_ok ci _ hc
  have hjl : j < (xfs X.2 (μ k) fl 0).length := by rw [xfs_len]; exact (List.getElem?_eq_some_iff.mp hj).1
  have hkl := (List.getElem?_eq_some_iff.mp hs).1
  refine va_putN hC.1 hC.2.1 hC.2.2.2.2.2.2.1 hin ty0 hty hnm hC.2.2.2.2.2.1 hC.2.2.2.2.2.2.2.2.1 hH.1 (xwl_D hH.2.2.2.1) hH.2.1 k (xwl_get μ hs) hc j hjn (va_Nw.use rfl (hC.2.2.2.2.2.2.2.1 _ hw)) (fun _ h => h) hf hy hn hv hjl hd (fun H1 locs1 hP _ hS => ?_)
  have h2 : xH X false n0 (sh.set k (.inl (ci, fl.set j none))) (va_up μ k (upd (μ k) j v)) s H1 locs1 := by
    rw [show (Sum.inr (ci, (xfs X.2 (μ k) fl 0).set j (.int v)) : va_E) = xpic X (.inl (ci, fl.set j none)) (upd (μ k) j v) from xpic_put none v, xwl_set hkl] at hP
    exact ⟨hP, hS, by rw [List.length_set]; exact hH.2.2.1, fun h => by rw [List.length_set]; exact hH.2.2.2.1 h, fun h => by cases h⟩
  rw [xsame hj, xsame hs] at h2
  exact kk _ rfl p e s m args below meth c H1 locs1 ls hC h2 hL
/-- a final field of a constructor gets a cell -/
theorem sx_putrF {C : String} {T : u_T} {N ci i j k r : Nat} {fl : List (Option (Option Nat))} {sh' : List xS} {ty : FieldType} (hd : decode K.2.1 pc = .ok (.putfield i, 3)) (hc : classes[ci]? = some (C, T, N)) (hs : sh[k]? = some (.inl (ci, fl))) (hjl : j < fl.length) (hjn : j < N) (hw : Cond.fieldLink K.1 i (T j).1 (T j).2.1 (T j).2.2.1 ∈ xws) (hf : (T j).2.2.2 = true) (hi : K.2.2.2.2 = true) (hT : (T j).1 = K.1) (hy : parseFieldDescriptor (T j).2.2.1 = some ty) (hn : narrow ty (.ref (X.2 + r)) = .ref (X.2 + r)) (hv : fits ty (.ref (X.2 + r)) = true) (hsh : sh.set k (.inl (ci, fl.set j (some (some r)))) = sh')
    (kk : sx l R X Ex fr K n0 Z (pc + 3) L st sh' (xup μ k j 0) cs ss) : sx l R X Ex fr K n0 Z pc L (.ref (X.2 + r) :: .ref (X.2 + k) :: st) sh μ cs ss := by
  subst hsh
  intro p e s m args below meth c H locs ls hC hH hL
  obtain ⟨hin, ty0, hty, hnm⟩ := xcl_ok ci _ hc
  have hkl := (List.getElem?_eq_some_iff.mp hs).1
  refine va_putFz hC.1 hC.2.1 hC.2.2.2.2.2.2.1 hin ty0 hty hnm hC.2.2.2.2.2.1 hC.2.2.2.2.2.2.2.2.1 hH.1 (xwl_D hH.2.2.2.1) hH.2.1 k (xwl_get μ hs) hc j hjn (hC.2.2.2.2.2.2.1 _ hw) hf (hC.2.2.2.2.2.2.2.2.2.2.2.1 hi) hT hy hn hv (by rw [xfs_len]; exact hjl) hd (fun H1 locs1 hz hP hS => ?_)
  exact kk p e s m args below meth c H1 locs1 ls hC (xH_set hH hkl (xpic_put (X := X) (ci := ci) (j := j) (fl := fl) (f := μ k) (some (some r)) 0) hz hP hS) hL
/-! arrays -/
theorem xpic_i {X : xD} {ti n : Nat} {f : Nat → Int32} (h : ti ≠ 0) : xpic X (.inr (ti, n, none)) f = .inl (X.1.2 ti, n, .inl f) := by simp [xpic, h]
theorem sx_iald {k ti n : Nat} {i : Int32} (hd : decode K.2.1 pc = .ok (.iaload, 1)) (hs : sh[k]? = some (.inr (ti, n, none))) (h0 : ti ≠ 0) (ht : xty[ti]? = some .int) (hin : vp_in i n)
    (kk : sx l R X Ex fr K n0 Z (pc + 1) L (.int (μ k i.toNatClampNeg) :: st) sh μ cs ss) : sx l R X Ex fr K n0 Z pc L (.int i :: .ref (X.2 + k) :: st) sh μ cs ss :=
  fun p e s m args below meth c H locs ls hC hH hL => va_iald hC.1 hC.2.1 hC.2.2.2.2.2.2.2.2.1 hH.1 k ti (by rw [xwl_get μ hs, xpic_i h0]) (xtys_at ht) hin hd (kk p e s m args below meth c H locs ls hC hH hL)
theorem sx_bald {k ti n : Nat} {i : Int32} (hd : decode K.2.1 pc = .ok (.baload, 1)) (hs : sh[k]? = some (.inr (ti, n, none))) (h0 : ti ≠ 0) (ht : xty[ti]? = some .byte) (hin : vp_in i n)
    (kk : sx l R X Ex fr K n0 Z (pc + 1) L (.int (μ k i.toNatClampNeg) :: st) sh μ cs ss) : sx l R X Ex fr K n0 Z pc L (.int i :: .ref (X.2 + k) :: st) sh μ cs ss :=
  fun p e s m args below meth c H locs ls hC hH hL => va_bald hC.1 hC.2.1 hC.2.2.2.2.2.2.2.2.1 hH.1 k ti (by rw [xwl_get μ hs, xpic_i h0]) (xtys_at ht) hin hd (kk p e s m args below meth c H locs ls hC hH hL)
theorem sx_zald {k ti n : Nat} {i : Int32} (hd : decode K.2.1 pc = .ok (.baload, 1)) (hs : sh[k]? = some (.inr (ti, n, none))) (h0 : ti ≠ 0) (ht : xty[ti]? = some .boolean) (hin : vp_in i n)
    (kk : sx l R X Ex fr K n0 Z (pc + 1) L (.int (μ k i.toNatClampNeg) :: st) sh μ cs ss) : sx l R X Ex fr K n0 Z pc L (.int i :: .ref (X.2 + k) :: st) sh μ cs ss :=
  fun p e s m args below meth c H locs ls hC hH hL => va_zald hC.1 hC.2.1 hC.2.2.2.2.2.2.2.2.1 hH.1 k ti (by rw [xwl_get μ hs, xpic_i h0]) (xtys_at ht) hin hd (kk p e s m args below meth c H locs ls hC hH hL)
theorem sx_alen {k ti n : Nat} {g : Option (List (Option Nat))} {ty : FieldType} {v : Int32} (hd : decode K.2.1 pc = .ok (.arraylength, 1)) (hs : sh[k]? = some (.inr (ti, n, g))) (ht : xty[ti]? = some ty) (hv : Int32.ofNat n = v)
    (kk : sx l R X Ex fr K n0 Z (pc + 1) L (.int v :: st) sh μ cs ss) : sx l R X Ex fr K n0 Z pc L (.ref (X.2 + k) :: st) sh μ cs ss := by
  intro p e s m args below meth c H locs ls hC hH hL
  cases g with
  | none => exact va_alen (v := v) hC.1 hC.2.1 hC.2.2.2.2.2.2.2.2.1 hH.1 k ti (x := (n, if ti = 0 then .inr (.inl (fun j => (μ k j).toInt64)) else .inl (μ k))) (by rw [xwl_get μ hs]; rfl) (xtys_at ht) hv hd (kk p e s m args below meth c H locs ls hC hH hL)
  | some g => exact va_alen (v := v) hC.1 hC.2.1 hC.2.2.2.2.2.2.2.2.1 hH.1 k ti (x := (n, .inr (.inr (.inr (.inr (fun i => (g.getD i none).map (X.2 + ·))))))) (by rw [xwl_get μ hs]; rfl) (xtys_at ht) hv hd (kk p e s m args below meth c H locs ls hC hH hL)
theorem sx_aald {k ti n r : Nat} {g : List (Option Nat)} {ty : FieldType} {i : Int32} (hd : decode K.2.1 pc = .ok (.aaload, 1)) (hs : sh[k]? = some (.inr (ti, n, some g))) (ht : xty[ti]? = some ty) (hR : ty.isReference = true) (hin : vp_in i n) (hg : g.getD i.toNatClampNeg none = some r)
    (kk : sx l R X Ex fr K n0 Z (pc + 1) L (.ref (X.2 + r) :: st) sh μ cs ss) : sx l R X Ex fr K n0 Z pc L (.int i :: .ref (X.2 + k) :: st) sh μ cs ss := by
  intro p e s m args below meth c H locs ls hC hH hL
  have hlt : i.toNatClampNeg < n := Nat.not_le.mp fun q => hin (Or.inr q)
  have hcell : H[X.2 + k]? = some (vp_cell (X.1.2 ti) (n, .inr (.inr (.inr (.inr (fun i => (g.getD i none).map (X.2 + ·))))))) := hH.1 k _ (xwl_get μ hs)
  rw [vp_cell_q] at hcell
  refine W.aald (v := .ref (X.2 + r)) hC.1 hC.2.1 hcell ((hC.2.2.2.2.2.2.2.2.1.2 ti _ (xtys_at ht)).1 n _) hR (fun q => by cases q) (by rw [arrV_size]; exact hin) (by rw [arrV_read _ _ hlt, hg]; rfl) rfl rfl hd (kk p e s m args below meth c H locs ls hC hH hL)
theorem sx_iast {k ti n : Nat} {i x : Int32} (hd : decode K.2.1 pc = .ok (.iastore, 1)) (hs : sh[k]? = some (.inr (ti, n, none))) (h0 : ti ≠ 0) (ht : xty[ti]? = some .int) (hin : vp_in i n)
    (kk : ∀ μ' : xM, μ' = xup μ k i.toNatClampNeg x → sx l R X Ex fr K n0 Z (pc + 1) L st sh μ' cs ss) : sx l R X Ex fr K n0 Z pc L (.int x :: .int i :: .ref (X.2 + k) :: st) sh μ cs ss := by
  intro p e s m args below meth c H locs ls hC hH hL
  have hkl := (List.getElem?_eq_some_iff.mp hs).1
  refine va_iastz hC.1 hC.2.1 hC.2.2.2.2.2.2.2.2.1 hH.1 (xwl_D hH.2.2.2.1) hH.2.1 k ti (by rw [xwl_get μ hs, xpic_i h0]) (xtys_at ht) hin hd (fun H1 locs1 hz hP hS => ?_)
  have h2 := xH_set hH hkl (xpic_i (X := X) (n := n) (f := upd (μ k) i.toNatClampNeg x) h0).symm hz hP hS
  rw [xsame hs] at h2
  exact kk _ rfl p e s m args below meth c H1 locs1 ls hC h2 hL
theorem sx_bast {k ti n : Nat} {i x : Int32} (hfr : fr = false) (hd : decode K.2.1 pc = .ok (.bastore, 1)) (hs : sh[k]? = some (.inr (ti, n, none))) (h0 : ti ≠ 0) (ht : xty[ti]? = some .byte) (hin : vp_in i n)
    (kk : ∀ μ' : xM, μ' = xup μ k i.toNatClampNeg (vp_nar .byte x) → sx l R X Ex fr K n0 Z (pc + 1) L st sh μ' cs ss) : sx l R X Ex fr K n0 Z pc L (.int x :: .int i :: .ref (X.2 + k) :: st) sh μ cs ss := by
  intro p e s m args below meth c H locs ls hC hH hL
  subst hfr
  have hkl := (List.getElem?_eq_some_iff.mp hs).1
  refine va_bast hC.1 hC.2.1 hC.2.2.2.2.2.2.2.2.1 hH.1 (xwl_D hH.2.2.2.1) hH.2.1 k ti (by rw [xwl_get μ hs, xpic_i h0]) (xtys_at ht) hin hd (fun H1 locs1 hP _ hS => ?_)
  have h2 : xH X false n0 (sh.set k (.inr (ti, n, none))) (va_up μ k (upd (μ k) i.toNatClampNeg (vp_nar .byte x))) s H1 locs1 := by
    rw [← xpic_i (X := X) (n := n) (f := upd (μ k) i.toNatClampNeg (vp_nar .byte x)) h0, xwl_set hkl] at hP
    exact ⟨hP, hS, by rw [List.length_set]; exact hH.2.2.1, fun h => by rw [List.length_set]; exact hH.2.2.2.1 h, fun h => by cases h⟩
  rw [xsame hs] at h2
  exact kk _ rfl p e s m args below meth c H1 locs1 ls hC h2 hL
theorem sx_zast {k ti n : Nat} {i x : Int32} (hfr : fr = false) (hd : decode K.2.1 pc = .ok (.bastore, 1)) (hs : sh[k]? = some (.inr (ti, n, none))) (h0 : ti ≠ 0) (ht : xty[ti]? = some .boolean) (hin : vp_in i n)
    (kk : ∀ μ' : xM, μ' = xup μ k i.toNatClampNeg (vp_nar .boolean x) → sx l R X Ex fr K n0 Z (pc + 1) L st sh μ' cs ss) : sx l R X Ex fr K n0 Z pc L (.int x :: .int i :: .ref (X.2 + k) :: st) sh μ cs ss := by
  intro p e s m args below meth c H locs ls hC hH hL
  subst hfr
  have hkl := (List.getElem?_eq_some_iff.mp hs).1
  refine va_zast hC.1 hC.2.1 hC.2.2.2.2.2.2.2.2.1 hH.1 (xwl_D hH.2.2.2.1) hH.2.1 k ti (by rw [xwl_get μ hs, xpic_i h0]) (xtys_at ht) hin hd (fun H1 locs1 hP _ hS => ?_)
  have h2 : xH X false n0 (sh.set k (.inr (ti, n, none))) (va_up μ k (upd (μ k) i.toNatClampNeg (vp_nar .boolean x))) s H1 locs1 := by
    rw [← xpic_i (X := X) (n := n) (f := upd (μ k) i.toNatClampNeg (vp_nar .boolean x)) h0, xwl_set hkl] at hP
    exact ⟨hP, hS, by rw [List.length_set]; exact hH.2.2.1, fun h => by rw [List.length_set]; exact hH.2.2.2.1 h, fun h => by cases h⟩
  rw [xsame hs] at h2
  exact kk _ rfl p e s m args below meth c H1 locs1 ls hC h2 hL
theorem sx_widen {k n : Nat} (h1 : cs ≤ k) (h2 : ss ≤ n) (kk : sx l R X Ex fr K n0 Z pc L st sh μ k n) : sx l R X Ex fr K n0 Z pc L st sh μ cs ss :=
  fun p e s m args below meth c H locs ls hC hH hL => W.widen h1 h2 (kk p e s m args below meth c H locs ls hC hH hL)
end SXH
end
section
/-! Contracts over the block, and the rows of a call. -/
def xisN : Cond → Bool
  | .fieldLinkNest .. => true
  | .methodLinkNest .. => true
  | _ => false
theorem xnw_warm {w : Cond} (h : xisN w = true) {s U : State} (hW : s.WarmedH U.vm) (hz : va_Nw w s) : va_Nw w U := by
  cases w <;> first | exact va_Nw.warmF hW hz | exact va_Nw.warmM hW hz | cases h
theorem xnw_ok : ∀ w ∈ xnw, xisN w = true := by decide +kernel
def xQ (X : xD) (fr : Bool) (n0 : Nat) (Po : Option Value → List xS → xM → Prop) : Array Value → State → Outcome → State → Prop := fun _ st oc t =>
  (∃ (r : Option Value) (sh' : List xS) (μ' : xM), oc = .returned r ∧ Po r sh' μ' ∧ va_P X.1.1 classes (xwl X sh' μ') t.heap ∧ n0 ≤ sh'.length ∧ (fr = false → sh'.length = n0) ∧ (fr = true → t.heap.size = X.2 + sh'.length)) ∧ va_F (xA X.2 n0 fr) st t
abbrev xZ (X : xD) (fr : Bool) (n0 : Nat) (Po : Option Value → List xS → xM → Prop) (mc ms : Nat) : List Frame → Array Value → State → State → Prop := fun below args s => MQ below (xQ X fr n0 Po) args s mc ms (xA X.2 n0 fr)
def xpre (X : xD) (Ex : State → Prop) (fr : Bool) (sh : List xS) (μ : xM) (U : State) : Prop := va_P X.1.1 classes (xwl X sh μ) U.heap ∧ va_K X.1.1 classes (xtys X) U ∧ (∀ w ∈ xnw, va_Nw w U) ∧ Ex U ∧ (fr = true → U.heap.size = X.2 + sh.length)
/-- what a method is given besides the block stays given -/
def xEs (X : xD) (fr : Bool) (n : Nat) (Ex : State → Prop) : Prop := ∀ s U : State, s.WarmedH U.vm → s.heap.size ≤ U.heap.size → (∀ q, q < s.heap.size → ¬ xA X.2 n fr q → U.heap[q]? = s.heap[q]?) → Ex s → Ex U
theorem xEs_true {X : xD} {fr : Bool} {n : Nat} : xEs X fr n (fun _ => True) := fun _ _ _ _ _ _ => trivial
def Ct (X : xD) (Ex : State → Prop) (fr : Bool) (y : MethodName) (K : xK) (rm : Room) (As : List Value) (sh : List xS) (μ : xM) (Po : Option Value → List xS → xM → Prop) : Prop :=
  ∀ l : Launch, Met l y (.code y K.2.1 K.2.2.1 K.2.2.2.1 :: xws) rm (va_Pc As (xpre X Ex fr sh μ)) (xQ X fr sh.length Po) rm.cells rm.slots (xA X.2 sh.length fr)
theorem xpre_blind {X : xD} {Ex : State → Prop} {fr : Bool} {As : List Value} {sh : List xS} {μ : xM} (hE : xEs X fr sh.length Ex) : FrameBlind (va_Pc As (xpre X Ex fr sh μ)) := by
  rintro a U g mk ⟨rfl, hP, hK, hN, hEx, hf⟩
  refine ⟨rfl, hP, va_K.moved (u := U) (U := U.calling g mk _) (Vm.Alike.refl U.vm) hK, fun w hw => xnw_warm (xnw_ok w hw) (U := U.calling g mk _) (State.WarmedH.refl U) (hN w hw), hE U (U.calling g mk _) (State.WarmedH.refl U) (Nat.le_refl _) (fun _ _ _ => rfl) hEx, hf⟩
theorem xlv_args (As : List Value) (h : ∀ v ∈ As, v.category = 1) (i n : Nat) : xlv (As.map some ++ List.replicate n none) i = lv_args i As := by
  induction As generalizing i with
  | nil =>
    induction n generalizing i with
    | zero => rfl
    | succ n ih => exact ih (i + 1)
  | cons v r ih =>
    have hv := h v List.mem_cons_self
    show (i, v) :: xlv (r.map some ++ List.replicate n none) (i + 1) = lv_args i (v :: r)
    rw [ih (fun w hw => h w (List.mem_cons_of_mem _ hw))]
    simp [lv_args, hv]
theorem lg_sl_len (As : List Value) (h : ∀ v ∈ As, v.category = 1) : (lg_sl As).length = As.length := by
  induction As with
  | nil => rfl
  | cons v r ih =>
    have hv := h v List.mem_cons_self
    have := ih (fun w hw => h w (List.mem_cons_of_mem _ hw))
    unfold lg_sl at this ⊢
    simp [hv, this]
theorem vp_vm (cA : ClassId) (a : vp_A) : (vp_cell cA a).vm = .none := by
  obtain ⟨n, f | f | f | f | f⟩ := a <;> rfl
theorem xNS {X : xD} {fr : Bool} {sh : List xS} {μ : xM} {H : Heap} (hP : va_P X.1.1 classes (xwl X sh μ) H) (hf : fr = true → H.size = X.2 + sh.length) {q : Nat} (hq : xA X.2 sh.length fr q) {cell : Cell} (hc : H[q]? = some cell) : cell.vm.isStatics = false := by
  have hlt : q < X.2 + sh.length := by
    rcases hq.2 with h | h
    · rw [← hf h]
      exact (Array.getElem?_eq_some_iff.mp hc).1
    · exact h
  obtain ⟨k, rfl⟩ : ∃ k, q = X.2 + k := ⟨q - X.2, by have := hq.1; omega⟩
  have hk : k < sh.length := by omega
  have h := hP k _ (xwl_get μ (List.getElem?_eq_getElem hk))
  cases hs : sh[k] with
  | inl o =>
    rw [hs] at h
    obtain ⟨r, -, cell', h1, -, h3, -⟩ := h
    cases h1.symm.trans hc
    rw [h3]
    rfl
  | inr a =>
    obtain ⟨ti, n, g⟩ := a
    rw [hs] at h
    cases g with
    | none =>
      have h : H[X.2 + k]? = some (vp_cell (X.1.2 ti) (n, if ti = 0 then .inr (.inl (fun j => (μ k j).toInt64)) else .inl (μ k))) := h
      cases h.symm.trans hc
      rw [vp_vm]
      rfl
    | some g =>
      have h : H[X.2 + k]? = some (vp_cell (X.1.2 ti) (n, .inr (.inr (.inr (.inr (fun i => (g.getD i none).map (X.2 + ·))))))) := h
      cases h.symm.trans hc
      rw [vp_vm]
      rfl
theorem Ct.of {X : xD} {Ex : State → Prop} {fr : Bool} {y : MethodName} {K : xK} {rm : Room} {As : List Value} {sh : List xS} {μ : xM} {Po : Option Value → List xS → xM → Prop} {L0 : List (Option Value)} (hy : plainName y.cls = true) (hK : K.1 = y.cls) (hi : K.2.2.2.2 = true → y.name = "<init>") (hc : ∀ v ∈ As, v.category = 1) (hn : As.length ≤ K.2.2.1) (hL0 : As.map some ++ List.replicate (K.2.2.1 - As.length) none = L0)
    (h : ∀ l : Launch, sx l rm X Ex fr K sh.length (xZ X fr sh.length Po rm.cells rm.slots) 0 L0 [] sh μ 0 0) : Ct X Ex fr y K rm As sh μ Po := by
  intro l
  subst hL0
  refine Met.ofW (cc := K.2.1) (maxL := K.2.2.1) (ret := K.2.2.2.1) hy rfl ?_
  intro p e s m args below meth c s₁ B hml hv
  obtain ⟨rfl, hP, hKk, hN, hEx, hf⟩ := hv
  have hts := atoms_spec (ws := (.code y K.2.1 K.2.2.1 K.2.2.2.1 :: xws)) B.pre
  have hl := lv_entry As (n := K.2.2.1) (by rw [lg_sl_len As hc]; exact hn)
  rw [lg_entry_eq]
  refine h l p e s m As.toArray below meth c s.heap [] _ ⟨B.exec, B.bytes, hml, B.returns, B.notSynchronized, by rw [hK]; exact findClass_of_methodNamed B.named, fun w hw => hts w (List.mem_cons_of_mem _ hw), hN, hKk, hEx, hf, fun q => ?_, fun q hq cell hcell => ?_⟩ ⟨hP, va_S.rf, Nat.le_refl _, fun _ => rfl, hf⟩ ⟨?_, fun j v hj => ?_⟩
  · exact (name_of_methodNamed B.named B.method).1.trans (hi q)
  · exact xNS hP hf hq hcell
  · rw [xlv_args As hc]
    exact hl
  · have hm := List.mem_of_getElem? hj
    rcases List.mem_append.mp hm with h1 | h1
    · obtain ⟨w, hw, e⟩ := List.mem_map.mp h1
      cases e
      exact hc v hw
    · have := (List.mem_replicate.mp h1).2
      cases this
/-- what the tables say of a method that is called -/
def xcB (y : MethodName) (K : xK) (n : Nat) : Prop := Cond.code y K.2.1 K.2.2.1 K.2.2.2.1 ∈ xws ∧ Cond.initialized y.cls ∈ xws ∧ y.cls ≠ "java/lang/invoke/MethodHandle" ∧ y.cls ≠ "java/lang/invoke/VarHandle" ∧ (parseMethodDescriptor y.desc).map (fun d => d.parameters.length) = some n
def xcV (y : MethodName) (K : xK) (n : Nat) : Prop := xcB y K n ∧ Cond.instanceMethod y ∈ xws ∧ Cond.selects y.cls y y ∈ xws
def xcS (y : MethodName) (K : xK) (n : Nat) : Prop := xcB y K n ∧ Cond.static y ∈ xws
def xcI (y : MethodName) (K : xK) (n : Nat) : Prop := xcB y K n ∧ Cond.instanceMethod y ∈ xws ∧ y.name = "<init>"
theorem xgood {y : MethodName} {K : xK} {n : Nat} (h : xcB y K n) : GoodIn xws (.code y K.2.1 K.2.2.1 K.2.2.2.1 :: xws) := by
  intro w hw
  rcases List.mem_cons.mp hw with rfl | hw
  · exact ⟨h.1, good_of_word (List.mem_filter.mp h.1).2⟩
  · exact ⟨hw, good_of_word (List.mem_filter.mp hw).2⟩
section SXC
variable {l : Launch} {R : Room} {X : xD} {Ex : State → Prop} {fr : Bool} {K K' : xK} {n0 : Nat} {Z : List Frame → Array Value → State → State → Prop} {pc : Nat} {L : List (Option Value)} {st st0 : List Value} {sh : List xS} {μ : xM} {cs ss : Nat} {y : MethodName} {rm : Room} {As : List Value} {Po : Option Value → List xS → xM → Prop}
theorem xA_call {n0 n : Nat} {b : Nat} {fr : Bool} (h : fr = false → n = n0) {q : Nat} (hq : xA b n fr q) : xA b n0 fr q := by
  cases fr with
  | true => exact ⟨hq.1, Or.inl rfl⟩
  | false => rw [← h rfl]; exact hq
/-- behind a call -/
theorem xcall_on {p : Program} {e : Env} {s : State} {m : MethodId} {args : Array Value} {below : List Frame} {meth : Method} {c : Code} {H : Heap} {locs : List Loc} {ls : Array Slot} {aa : Array Value}
    (hC : xC X Ex fr K n0 p s m args meth c) (hH : xH X fr n0 sh μ s H locs) (hL : xL ls K.2.2.1 L)
    (hr : va_Run p l e R s m args below meth c H locs cs ss rm.cells rm.slots (F0 m pc ls st0) st (xQ X fr sh.length Po aa) (xA X.2 sh.length fr))
    (kk : ∀ (r : Option Value) (sh' : List xS) (μ' : xM), Po r sh' μ' → sx l R X Ex fr K n0 Z (pc + 3) L (r.toList ++ st) sh' μ' (cs + rm.cells) (ss + rm.slots)) : W p l e R s m args below meth c H locs cs ss (Z below args s) (F0 m pc ls st0) := by
  intro T hT X'
  obtain ⟨v, st₀, t, T', L', h0, X1, hL', e1, e2, ⟨⟨r, sh', μ', hv, hp, hP', hn', hf', hz'⟩, hzF, hkF⟩, stp⟩ := hr T hT X'
  cases hv
  rw [h0] at hzF hkF
  have hA : ∀ q, xA X.2 sh.length fr q → xA X.2 n0 fr q := fun q => xA_call hH.2.2.2.1
  obtain ⟨t2, a1, b1⟩ := kk _ sh' μ' hp p e s m args below meth c T'.heap (locs ++ L') ls hC ⟨by rw [e1]; exact hP', ⟨Nat.le_trans hH.2.1.1 (by rw [e1]; exact hzF), fun q h1 h2 => by
      rw [e1, hkF q (Nat.lt_of_lt_of_le h1 hH.2.1.1) (fun z => h2 (hA q z))]; exact hH.2.1.2.1 q h1 h2, fun q hq => by
      rcases List.mem_append.mp hq with h | h
      · exact hH.2.1.2.2 q h
      · exact hA _ (hL' q h)⟩, Nat.le_trans hH.2.2.1 hn', fun h => (hf' h).trans (hH.2.2.2.1 h), fun h => by rw [e1]; exact hz' h⟩ hL T' rfl X1
  exact ⟨t2, stp t2 a1, b1⟩
theorem xpre_at {p : Program} {s : State} {m : MethodId} {args : Array Value} {meth : Method} {c : Code} {H : Heap} {locs : List Loc} (hC : xC X Ex fr K n0 p s m args meth c) (hH : xH X fr n0 sh μ s H locs) (hE : xEs X fr n0 Ex) {U : State} (hU : U.heap = H) (hW : s.WarmedH U.vm) : xpre X Ex fr sh μ U := by
  refine ⟨by rw [hU]; exact hH.1, va_K.moved hW.alike hC.2.2.2.2.2.2.2.2.1, fun w hw => xnw_warm (xnw_ok w hw) hW (hC.2.2.2.2.2.2.2.1 w hw), hE s U hW (by rw [hU]; exact hH.2.1.1) (fun q h1 h2 => by rw [hU]; exact hH.2.1.2.1 q h1 h2) hC.2.2.2.2.2.2.2.2.2.1, fun h => by rw [hU]; exact hH.2.2.2.2 h⟩
theorem xEs_sub {n0 n : Nat} (hE : xEs X fr n0 Ex) (h : fr = false → n = n0) : xEs X fr n Ex := fun s U hW hz hk hx => hE s U hW hz (fun q h1 h2 => hk q h1 (fun z => h2 (xA_call h z))) hx
theorem xroom {m : MethodId} {pc : Nat} {ls : Array Slot} {st0 st : List Value} (h : (st.map fun v => v.category).sum ≤ 8) : 2 * (F0 m pc ls st0).monitorRoom + (st.map fun v => v.category).sum ≤ 8 := by
  simpa [JFrame.monitorRoom] using h
theorem sx_callV {i k ci N : Nat} {T : u_T} {fl : List (Option (Option Nat))} (hd : decode K.2.1 pc = .ok (.invokevirtual i, 3)) (hct : Ct X Ex fr y K' rm (.ref (X.2 + k) :: As) sh μ Po) (hw : xcV y K' As.length) (hl : Cond.methodLink K.1 i y ∈ xws) (hst : st0 = As.reverse ++ .ref (X.2 + k) :: st) (hs : sh[k]? = some (.inl (ci, fl))) (hc : classes[ci]? = some (y.cls, T, N)) (hm : rm.frames + 1 ≤ R.frames ∧ 8 + (K'.2.2.1 + 11) + rm.locals ≤ R.locals) (hf : cs + rm.cells ≤ R.cells ∧ ss + rm.slots ≤ R.slots) (h8 : (st.map fun v => v.category).sum ≤ 8) (hE : xEs X fr n0 Ex)
    (kk : ∀ (r : Option Value) (sh' : List xS) (μ' : xM), Po r sh' μ' → sx l R X Ex fr K n0 Z (pc + 3) L (r.toList ++ st) sh' μ' (cs + rm.cells) (ss + rm.slots)) : sx l R X Ex fr K n0 Z pc L st0 sh μ cs ss := by
  intro p e s m args below meth c H locs ls hC hH hL
  subst hst
  have hts := hC.2.2.2.2.2.2.1
  refine xcall_on hC hH hL (va_runV (As := As) (rest := st) (C := y.cls) ⟨hC.1, hC.2.1, hC.2.2.1, hC.2.2.2.2.2.1, hts⟩ (hct l) ⟨callB_of As.length hts (xgood hw.1) rfl rfl rfl (hts _ hw.1.2.1) (hts _ hl) hw.1.2.2 hm, hts _ hw.2.1, hts _ hw.2.2⟩ ⟨xpre_blind (xEs_sub hE hH.2.2.2.1), va_recv hC.2.2.2.2.2.2.2.2.1 hH.1 hc (xwl_get μ hs), fun U hU hW => ⟨rfl, xpre_at hC hH hE hU hW⟩⟩ rfl rfl hL.1.1 rfl (xroom h8) hd hf) kk
theorem sx_callS {i : Nat} (hd : decode K.2.1 pc = .ok (.invokestatic i, 3)) (hct : Ct X Ex fr y K' rm As sh μ Po) (hw : xcS y K' As.length) (hl : Cond.methodLink K.1 i y ∈ xws) (hst : st0 = As.reverse ++ st) (hm : rm.frames + 1 ≤ R.frames ∧ 8 + (K'.2.2.1 + 11) + rm.locals ≤ R.locals) (hf : cs + rm.cells ≤ R.cells ∧ ss + rm.slots ≤ R.slots) (h8 : (st.map fun v => v.category).sum ≤ 8) (hE : xEs X fr n0 Ex)
    (kk : ∀ (r : Option Value) (sh' : List xS) (μ' : xM), Po r sh' μ' → sx l R X Ex fr K n0 Z (pc + 3) L (r.toList ++ st) sh' μ' (cs + rm.cells) (ss + rm.slots)) : sx l R X Ex fr K n0 Z pc L st0 sh μ cs ss := by
  intro p e s m args below meth c H locs ls hC hH hL
  subst hst
  have hts := hC.2.2.2.2.2.2.1
  refine xcall_on hC hH hL (va_runS (As := As) (rest := st) ⟨hC.1, hC.2.1, hC.2.2.1, hC.2.2.2.2.2.1, hts⟩ (hct l) ⟨callB_of As.length hts (xgood hw.1) rfl rfl rfl (hts _ hw.1.2.1) (hts _ hl) hw.1.2.2 hm, hts _ hw.2⟩ ⟨xpre_blind (xEs_sub hE hH.2.2.2.1), fun U hU hW => ⟨rfl, xpre_at hC hH hE hU hW⟩⟩ rfl rfl hL.1.1 rfl (xroom h8) hd hf) kk
theorem sx_callSN {i : Nat} {host : String} (hd : decode K.2.1 pc = .ok (.invokestatic i, 3)) (hct : Ct X Ex fr y K' rm As sh μ Po) (hw : xcS y K' As.length) (hl : Cond.methodLinkNest K.1 i y host ∈ xnw) (hst : st0 = As.reverse ++ st) (hm : rm.frames + 1 ≤ R.frames ∧ 8 + (K'.2.2.1 + 11) + rm.locals ≤ R.locals) (hf : cs + rm.cells ≤ R.cells ∧ ss + rm.slots ≤ R.slots) (h8 : (st.map fun v => v.category).sum ≤ 8) (hE : xEs X fr n0 Ex)
    (kk : ∀ (r : Option Value) (sh' : List xS) (μ' : xM), Po r sh' μ' → sx l R X Ex fr K n0 Z (pc + 3) L (r.toList ++ st) sh' μ' (cs + rm.cells) (ss + rm.slots)) : sx l R X Ex fr K n0 Z pc L st0 sh μ cs ss := by
  intro p e s m args below meth c H locs ls hC hH hL
  subst hst
  have hts := hC.2.2.2.2.2.2.1
  refine xcall_on hC hH hL (va_runSN (As := As) (rest := st) ⟨hC.1, hC.2.1, hC.2.2.1, hC.2.2.2.2.2.1, hts⟩ (hct l) ⟨va_cnB As.length hts (xgood hw.1) rfl rfl rfl (hC.2.2.2.2.2.2.2.1 _ hl) (hts _ hw.1.2.1) hw.1.2.2 hm, hts _ hw.2, trivial⟩ ⟨xpre_blind (xEs_sub hE hH.2.2.2.1), fun U hU hW => ⟨rfl, xpre_at hC hH hE hU hW⟩⟩ rfl rfl hL.1.1 rfl (xroom h8) hd hf) kk
theorem sx_callI {i k : Nat} (hr : K'.2.2.2.1 = none) (hd : decode K.2.1 pc = .ok (.invokespecial i, 3)) (hct : Ct X Ex fr y K' rm (.ref (X.2 + k) :: As) sh μ Po) (hw : xcI y K' As.length) (hl : Cond.methodLink K.1 i y ∈ xws) (hst : st0 = As.reverse ++ .ref (X.2 + k) :: st) (hm : rm.frames + 1 ≤ R.frames ∧ 8 + (K'.2.2.1 + 11) + rm.locals ≤ R.locals) (hf : cs + rm.cells ≤ R.cells ∧ ss + rm.slots ≤ R.slots) (h8 : (st.map fun v => v.category).sum ≤ 8) (hE : xEs X fr n0 Ex)
    (kk : ∀ (r : Option Value) (sh' : List xS) (μ' : xM), Po r sh' μ' → sx l R X Ex fr K n0 Z (pc + 3) L (r.toList ++ st) sh' μ' (cs + rm.cells) (ss + rm.slots)) : sx l R X Ex fr K n0 Z pc L st0 sh μ cs ss := by
  intro p e s m args below meth c H locs ls hC hH hL
  subst hst
  obtain ⟨KA, KB, KC, KD, KE⟩ := K'
  have hr : KD = none := hr
  subst hr
  have hts := hC.2.2.2.2.2.2.1
  refine xcall_on hC hH hL (va_runI (As := As) (rest := st) ⟨hC.1, hC.2.1, hC.2.2.1, hC.2.2.2.2.2.1, hts⟩ (hct l) ⟨callB_of As.length hts (xgood hw.1) rfl rfl rfl (hts _ hw.1.2.1) (hts _ hl) hw.1.2.2 hm, hw.2.2, hts _ hw.2.1⟩ ⟨xpre_blind (xEs_sub hE hH.2.2.2.1), fun U hU hW => ⟨rfl, xpre_at hC hH hE hU hW⟩⟩ rfl rfl hL.1.1 rfl (xroom h8) hd hf) kk
theorem sx_callIN {i k : Nat} {host : String} (hr : K'.2.2.2.1 = none) (hd : decode K.2.1 pc = .ok (.invokespecial i, 3)) (hct : Ct X Ex fr y K' rm (.ref (X.2 + k) :: As) sh μ Po) (hw : xcI y K' As.length) (hl : Cond.methodLinkNest K.1 i y host ∈ xnw) (hst : st0 = As.reverse ++ .ref (X.2 + k) :: st) (hm : rm.frames + 1 ≤ R.frames ∧ 8 + (K'.2.2.1 + 11) + rm.locals ≤ R.locals) (hf : cs + rm.cells ≤ R.cells ∧ ss + rm.slots ≤ R.slots) (h8 : (st.map fun v => v.category).sum ≤ 8) (hE : xEs X fr n0 Ex)
    (kk : ∀ (r : Option Value) (sh' : List xS) (μ' : xM), Po r sh' μ' → sx l R X Ex fr K n0 Z (pc + 3) L (r.toList ++ st) sh' μ' (cs + rm.cells) (ss + rm.slots)) : sx l R X Ex fr K n0 Z pc L st0 sh μ cs ss := by
  intro p e s m args below meth c H locs ls hC hH hL
  subst hst
  obtain ⟨KA, KB, KC, KD, KE⟩ := K'
  have hr : KD = none := hr
  subst hr
  have hts := hC.2.2.2.2.2.2.1
  refine xcall_on hC hH hL (va_runIN (As := As) (rest := st) ⟨hC.1, hC.2.1, hC.2.2.1, hC.2.2.2.2.2.1, hts⟩ (hct l) ⟨va_cnB As.length hts (xgood hw.1) rfl rfl rfl (hC.2.2.2.2.2.2.2.1 _ hl) (hts _ hw.1.2.1) hw.1.2.2 hm, hw.2.2, hts _ hw.2.1⟩ ⟨xpre_blind (xEs_sub hE hH.2.2.2.1), fun U hU hW => ⟨rfl, xpre_at hC hH hE hU hW⟩⟩ rfl rfl hL.1.1 rfl (xroom h8) hd hf) kk
theorem sx_iret {ty : FieldType} {v : Int32} {mc ms : Nat} (hd : decode K.2.1 pc = .ok (.ireturn, 1)) (hr : K.2.2.2.1 = some ty) (hn : narrow ty (.int v) = .int v) (h1 : cs ≤ mc) (h2 : ss ≤ ms) (hp : Po (some (.int v)) sh μ) : sx l R X Ex fr K n0 (xZ X fr n0 Po mc ms) pc L [.int v] sh μ cs ss := by
  intro p e s m args below meth c H locs ls hC hH hL
  have hlocks := hC.2.2.2.2.1
  refine W.widen h1 h2 (W.zret (ty := ty) hC.1 hC.2.1 (hC.2.2.2.1.trans hr) hn (fun t ht hW => ⟨⟨_, sh, μ, rfl, hp, by rw [ht]; exact hH.1, hH.2.2.1, hH.2.2.2.1, fun h => by rw [ht]; exact hH.2.2.2.2 h⟩, hH.2.1.F ht⟩) hH.2.1.2.2 hd)
theorem sx_vret {mc ms : Nat} (hd : decode K.2.1 pc = .ok (.return_, 1)) (hr : K.2.2.2.1 = none) (h1 : cs ≤ mc) (h2 : ss ≤ ms) (hp : Po none sh μ) : sx l R X Ex fr K n0 (xZ X fr n0 Po mc ms) pc L [] sh μ cs ss := by
  intro p e s m args below meth c H locs ls hC hH hL
  have hlocks := hC.2.2.2.2.1
  refine W.widen h1 h2 (W.vret hC.1 hC.2.1 (hC.2.2.2.1.trans hr) (fun t ht hW => ⟨⟨_, sh, μ, rfl, hp, by rw [ht]; exact hH.1, hH.2.2.1, hH.2.2.2.1, fun h => by rw [ht]; exact hH.2.2.2.2 h⟩, hH.2.1.F ht⟩) hH.2.1.2.2 hd)
end SXC
end
section
theorem xw {w : Cond} (i : Nat) (h : (decide (lw_tbl[i]? = some w) && goodWord w) = true) : w ∈ xws := by
  simp only [Bool.and_eq_true, decide_eq_true_eq] at h
  exact List.mem_filter.mpr ⟨List.mem_of_getElem? h.1, h.2⟩
theorem xwc {w : Cond} (i : Nat) (h : lw_tbl[i]? = some w) (hg : goodWord w = true) : w ∈ xws := List.mem_filter.mpr ⟨List.mem_of_getElem? h, hg⟩
abbrev kX0_init : xK := (RX0, cX0_init, 2, none, true)
set_option maxRecDepth 20000 in
theorem mX0_init : xcI yX0_init kX0_init 0 := ⟨⟨xwc 139 rfl rfl, xw 39 (by decide +kernel), by decide +kernel, by decide +kernel, by decide +kernel⟩, xw 138 (by decide +kernel), rfl⟩
abbrev kX0_decide : xK := (RX0, cX0_decide, 2, (some .boolean), false)
set_option maxRecDepth 20000 in
theorem mX0_decide : xcV yX0_decide kX0_decide 1 := ⟨⟨xwc 379 rfl rfl, xw 39 (by decide +kernel), by decide +kernel, by decide +kernel, by decide +kernel⟩, xw 377 (by decide +kernel), xw 378 (by decide +kernel)⟩
abbrev kX0_figureFor : xK := (RX0, cX0_figureFor, 2, (some .int), false)
set_option maxRecDepth 20000 in
theorem mX0_figureFor : xcV yX0_figureFor kX0_figureFor 1 := ⟨⟨xwc 421 rfl rfl, xw 39 (by decide +kernel), by decide +kernel, by decide +kernel, by decide +kernel⟩, xw 419 (by decide +kernel), xw 420 (by decide +kernel)⟩
abbrev kX0_lend : xK := (RX0, cX0_lend, 4, (some .boolean), false)
set_option maxRecDepth 20000 in
theorem mX0_lend : xcV yX0_lend kX0_lend 2 := ⟨⟨xwc 383 rfl rfl, xw 39 (by decide +kernel), by decide +kernel, by decide +kernel, by decide +kernel⟩, xw 382 (by decide +kernel), xw 10 (by decide +kernel)⟩
abbrev kX0_bringBack : xK := (RX0, cX0_bringBack, 2, (some .boolean), false)
set_option maxRecDepth 20000 in
theorem mX0_bringBack : xcV yX0_bringBack kX0_bringBack 1 := ⟨⟨xwc 391 rfl rfl, xw 39 (by decide +kernel), by decide +kernel, by decide +kernel, by decide +kernel⟩, xw 390 (by decide +kernel), xw 12 (by decide +kernel)⟩
abbrev kX0_pay : xK := (RX0, cX0_pay, 3, (some .boolean), false)
set_option maxRecDepth 20000 in
theorem mX0_pay : xcV yX0_pay kX0_pay 2 := ⟨⟨xwc 395 rfl rfl, xw 39 (by decide +kernel), by decide +kernel, by decide +kernel, by decide +kernel⟩, xw 394 (by decide +kernel), xw 13 (by decide +kernel)⟩
abbrev kX0_queueUp : xK := (RX0, cX0_queueUp, 5, (some .boolean), false)
set_option maxRecDepth 20000 in
theorem mX0_queueUp : xcV yX0_queueUp kX0_queueUp 2 := ⟨⟨xwc 399 rfl rfl, xw 39 (by decide +kernel), by decide +kernel, by decide +kernel, by decide +kernel⟩, xw 398 (by decide +kernel), xw 14 (by decide +kernel)⟩
abbrev kX0_renew : xK := (RX0, cX0_renew, 4, (some .boolean), false)
set_option maxRecDepth 20000 in
theorem mX0_renew : xcV yX0_renew kX0_renew 2 := ⟨⟨xwc 408 rfl rfl, xw 39 (by decide +kernel), by decide +kernel, by decide +kernel, by decide +kernel⟩, xw 407 (by decide +kernel), xw 16 (by decide +kernel)⟩
abbrev kX0_itemsOf : xK := (RX0, cX0_itemsOf, 4, (some .int), false)
set_option maxRecDepth 20000 in
theorem mX0_itemsOf : xcV yX0_itemsOf kX0_itemsOf 1 := ⟨⟨xwc 425 rfl rfl, xw 39 (by decide +kernel), by decide +kernel, by decide +kernel, by decide +kernel⟩, xw 424 (by decide +kernel), xw 17 (by decide +kernel)⟩
abbrev kX0_isInQueue : xK := (RX0, cX0_isInQueue, 4, (some .boolean), false)
set_option maxRecDepth 20000 in
theorem mX0_isInQueue : xcV yX0_isInQueue kX0_isInQueue 2 := ⟨⟨xwc 403 rfl rfl, xw 39 (by decide +kernel), by decide +kernel, by decide +kernel, by decide +kernel⟩, xw 402 (by decide +kernel), xw 15 (by decide +kernel)⟩
abbrev kX0_dropFirst : xK := (RX0, cX0_dropFirst, 3, none, false)
set_option maxRecDepth 20000 in
theorem mX0_dropFirst : xcV yX0_dropFirst kX0_dropFirst 1 := ⟨⟨xwc 387 rfl rfl, xw 39 (by decide +kernel), by decide +kernel, by decide +kernel, by decide +kernel⟩, xw 386 (by decide +kernel), xw 11 (by decide +kernel)⟩
abbrev kX1_init : xK := (RX1, cX1_init, 1, none, true)
set_option maxRecDepth 20000 in
theorem mX1_init : xcI yX1_init kX1_init 0 := ⟨⟨xwc 167 rfl rfl, xw 40 (by decide +kernel), by decide +kernel, by decide +kernel, by decide +kernel⟩, xw 166 (by decide +kernel), rfl⟩
abbrev kX1_add : xK := (RX1, cX1_add, 4, none, false)
set_option maxRecDepth 20000 in
theorem mX1_add : xcV yX1_add kX1_add 2 := ⟨⟨xwc 416 rfl rfl, xw 40 (by decide +kernel), by decide +kernel, by decide +kernel, by decide +kernel⟩, xw 414 (by decide +kernel), xw 415 (by decide +kernel)⟩
abbrev kX1_tell : xK := (RX1, cX1_tell, 3, (some .int), false)
set_option maxRecDepth 20000 in
theorem mX1_tell : xcV yX1_tell kX1_tell 2 := ⟨⟨xwc 483 rfl rfl, xw 40 (by decide +kernel), by decide +kernel, by decide +kernel, by decide +kernel⟩, xw 481 (by decide +kernel), xw 482 (by decide +kernel)⟩
abbrev kX2_init : xK := (RX2, cX2_init, 1, none, true)
set_option maxRecDepth 20000 in
theorem mX2_init : xcI yX2_init kX2_init 0 := ⟨⟨xwc 67 rfl rfl, xw 37 (by decide +kernel), by decide +kernel, by decide +kernel, by decide +kernel⟩, xw 66 (by decide +kernel), rfl⟩
abbrev kX2_take : xK := (RX2, cX2_take, 2, (some .int), false)
set_option maxRecDepth 20000 in
theorem mX2_take : xcV yX2_take kX2_take 1 := ⟨⟨xwc 239 rfl rfl, xw 37 (by decide +kernel), by decide +kernel, by decide +kernel, by decide +kernel⟩, xw 237 (by decide +kernel), xw 238 (by decide +kernel)⟩
abbrev kX2_clear : xK := (RX2, cX2_clear, 1, none, false)
set_option maxRecDepth 20000 in
theorem mX2_clear : xcV yX2_clear kX2_clear 0 := ⟨⟨xwc 450 rfl rfl, xw 37 (by decide +kernel), by decide +kernel, by decide +kernel, by decide +kernel⟩, xw 448 (by decide +kernel), xw 449 (by decide +kernel)⟩
abbrev kX2_addRow : xK := (RX2, cX2_addRow, 4, (some .int), false)
set_option maxRecDepth 20000 in
theorem mX2_addRow : xcV yX2_addRow kX2_addRow 3 := ⟨⟨xwc 458 rfl rfl, xw 37 (by decide +kernel), by decide +kernel, by decide +kernel, by decide +kernel⟩, xw 456 (by decide +kernel), xw 457 (by decide +kernel)⟩
abbrev kX3_init : xK := (RX3, cX3_init, 1, none, true)
set_option maxRecDepth 20000 in
theorem mX3_init : xcI yX3_init kX3_init 0 := ⟨⟨xwc 181 rfl rfl, xw 41 (by decide +kernel), by decide +kernel, by decide +kernel, by decide +kernel⟩, xw 180 (by decide +kernel), rfl⟩
abbrev kX3_fillFromRow : xK := (RX3, cX3_fillFromRow, 4, none, false)
set_option maxRecDepth 20000 in
theorem mX3_fillFromRow : xcV yX3_fillFromRow kX3_fillFromRow 3 := ⟨⟨xwc 466 rfl rfl, xw 41 (by decide +kernel), by decide +kernel, by decide +kernel, by decide +kernel⟩, xw 464 (by decide +kernel), xw 465 (by decide +kernel)⟩
abbrev kX3_read : xK := (RX3, cX3_read, 6, (some .boolean), false)
set_option maxRecDepth 20000 in
theorem mX3_read : xcV yX3_read kX3_read 2 := ⟨⟨xwc 248 rfl rfl, xw 41 (by decide +kernel), by decide +kernel, by decide +kernel, by decide +kernel⟩, xw 246 (by decide +kernel), xw 247 (by decide +kernel)⟩
abbrev kX3_firstBadField : xK := (RX3, cX3_firstBadField, 3, (some .int), false)
set_option maxRecDepth 20000 in
theorem mX3_firstBadField : xcV yX3_firstBadField kX3_firstBadField 0 := ⟨⟨xwc 361 rfl rfl, xw 41 (by decide +kernel), by decide +kernel, by decide +kernel, by decide +kernel⟩, xw 359 (by decide +kernel), xw 360 (by decide +kernel)⟩
abbrev kX3_changesTheHouse : xK := (RX3, cX3_changesTheHouse, 1, (some .boolean), false)
set_option maxRecDepth 20000 in
theorem mX3_changesTheHouse : xcV yX3_changesTheHouse kX3_changesTheHouse 0 := ⟨⟨xwc 412 rfl rfl, xw 41 (by decide +kernel), by decide +kernel, by decide +kernel, by decide +kernel⟩, xw 410 (by decide +kernel), xw 411 (by decide +kernel)⟩
abbrev kX3_forget : xK := (RX3, cX3_forget, 1, none, false)
set_option maxRecDepth 20000 in
theorem mX3_forget : xcV yX3_forget kX3_forget 0 := ⟨⟨xwc 252 rfl rfl, xw 41 (by decide +kernel), by decide +kernel, by decide +kernel, by decide +kernel⟩, xw 251 (by decide +kernel), xw 1 (by decide +kernel)⟩
abbrev kX3_fieldsOf : xK := (RX3, cX3_fieldsOf, 1, (some (.object "java/lang/String")), false)
set_option maxRecDepth 20000 in
theorem mX3_fieldsOf : xcS yX3_fieldsOf kX3_fieldsOf 1 := ⟨⟨xwc 255 rfl rfl, xw 41 (by decide +kernel), by decide +kernel, by decide +kernel, by decide +kernel⟩, xw 254 (by decide +kernel)⟩
abbrev kX3_readField : xK := (RX3, cX3_readField, 9, (some .int), false)
set_option maxRecDepth 20000 in
theorem mX3_readField : xcV yX3_readField kX3_readField 4 := ⟨⟨xwc 315 rfl rfl, xw 41 (by decide +kernel), by decide +kernel, by decide +kernel, by decide +kernel⟩, xw 314 (by decide +kernel), xw 2 (by decide +kernel)⟩
abbrev kX3_keepField : xK := (RX3, cX3_keepField, 3, none, false)
set_option maxRecDepth 20000 in
theorem mX3_keepField : xcV yX3_keepField kX3_keepField 2 := ⟨⟨xwc 322 rfl rfl, xw 41 (by decide +kernel), by decide +kernel, by decide +kernel, by decide +kernel⟩, xw 321 (by decide +kernel), xw 3 (by decide +kernel)⟩
abbrev kX3_isGoodField : xK := (RX3, cX3_isGoodField, 2, (some .boolean), false)
set_option maxRecDepth 20000 in
theorem mX3_isGoodField : xcV yX3_isGoodField kX3_isGoodField 1 := ⟨⟨xwc 365 rfl rfl, xw 41 (by decide +kernel), by decide +kernel, by decide +kernel, by decide +kernel⟩, xw 364 (by decide +kernel), xw 8 (by decide +kernel)⟩
abbrev kX3_endsWithSum : xK := (RX3, cX3_endsWithSum, 4, (some .boolean), false)
set_option maxRecDepth 20000 in
theorem mX3_endsWithSum : xcS yX3_endsWithSum kX3_endsWithSum 3 := ⟨⟨xwc 325 rfl rfl, xw 41 (by decide +kernel), by decide +kernel, by decide +kernel, by decide +kernel⟩, xw 324 (by decide +kernel)⟩
abbrev kX4_init : xK := (RX4, cX4_init, 1, none, true)
set_option maxRecDepth 20000 in
theorem mX4_init : xcI yX4_init kX4_init 0 := ⟨⟨xwc 73 rfl rfl, xw 38 (by decide +kernel), by decide +kernel, by decide +kernel, by decide +kernel⟩, xw 72 (by decide +kernel), rfl⟩
abbrev kX4_writeWrong : xK := (RX4, cX4_writeWrong, 1, none, false)
set_option maxRecDepth 20000 in
theorem mX4_writeWrong : xcV yX4_writeWrong kX4_writeWrong 0 := ⟨⟨xwc 335 rfl rfl, xw 38 (by decide +kernel), by decide +kernel, by decide +kernel, by decide +kernel⟩, xw 333 (by decide +kernel), xw 334 (by decide +kernel)⟩
abbrev kX4_writeNo : xK := (RX4, cX4_writeNo, 2, none, false)
set_option maxRecDepth 20000 in
theorem mX4_writeNo : xcV yX4_writeNo kX4_writeNo 1 := ⟨⟨xwc 349 rfl rfl, xw 38 (by decide +kernel), by decide +kernel, by decide +kernel, by decide +kernel⟩, xw 347 (by decide +kernel), xw 348 (by decide +kernel)⟩
abbrev kX4_writeError : xK := (RX4, cX4_writeError, 3, none, false)
set_option maxRecDepth 20000 in
theorem mX4_writeError : xcV yX4_writeError kX4_writeError 2 := ⟨⟨xwc 371 rfl rfl, xw 38 (by decide +kernel), by decide +kernel, by decide +kernel, by decide +kernel⟩, xw 369 (by decide +kernel), xw 370 (by decide +kernel)⟩
abbrev kX4_writeVerdict : xK := (RX4, cX4_writeVerdict, 4, none, false)
set_option maxRecDepth 20000 in
theorem mX4_writeVerdict : xcV yX4_writeVerdict kX4_writeVerdict 3 := ⟨⟨xwc 429 rfl rfl, xw 38 (by decide +kernel), by decide +kernel, by decide +kernel, by decide +kernel⟩, xw 427 (by decide +kernel), xw 428 (by decide +kernel)⟩
abbrev kX4_copy : xK := (RX4, cX4_copy, 2, none, false)
set_option maxRecDepth 20000 in
theorem mX4_copy : xcV yX4_copy kX4_copy 1 := ⟨⟨xwc 438 rfl rfl, xw 38 (by decide +kernel), by decide +kernel, by decide +kernel, by decide +kernel⟩, xw 436 (by decide +kernel), xw 437 (by decide +kernel)⟩
abbrev kX4_addSource : xK := (RX4, cX4_addSource, 2, none, false)
set_option maxRecDepth 20000 in
theorem mX4_addSource : xcV yX4_addSource kX4_addSource 1 := ⟨⟨xwc 353 rfl rfl, xw 38 (by decide +kernel), by decide +kernel, by decide +kernel, by decide +kernel⟩, xw 352 (by decide +kernel), xw 6 (by decide +kernel)⟩
abbrev kX4_addSumAndEnd : xK := (RX4, cX4_addSumAndEnd, 2, none, false)
set_option maxRecDepth 20000 in
theorem mX4_addSumAndEnd : xcV yX4_addSumAndEnd kX4_addSumAndEnd 0 := ⟨⟨xwc 343 rfl rfl, xw 38 (by decide +kernel), by decide +kernel, by decide +kernel, by decide +kernel⟩, xw 342 (by decide +kernel), xw 5 (by decide +kernel)⟩
abbrev kX4_addDigits : xK := (RX4, cX4_addDigits, 3, none, false)
set_option maxRecDepth 20000 in
theorem mX4_addDigits : xcV yX4_addDigits kX4_addDigits 1 := ⟨⟨xwc 433 rfl rfl, xw 38 (by decide +kernel), by decide +kernel, by decide +kernel, by decide +kernel⟩, xw 432 (by decide +kernel), xw 18 (by decide +kernel)⟩
abbrev kX4_add : xK := (RX4, cX4_add, 2, none, false)
set_option maxRecDepth 20000 in
theorem mX4_add : xcV yX4_add kX4_add 1 := ⟨⟨xwc 339 rfl rfl, xw 38 (by decide +kernel), by decide +kernel, by decide +kernel, by decide +kernel⟩, xw 338 (by decide +kernel), xw 4 (by decide +kernel)⟩
abbrev kX5_init : xK := (RX5, cX5_init, 2, none, true)
set_option maxRecDepth 20000 in
theorem mX5_init : xcI yX5_init kX5_init 0 := ⟨⟨xwc 58 rfl rfl, xw 36 (by decide +kernel), by decide +kernel, by decide +kernel, by decide +kernel⟩, xw 57 (by decide +kernel), rfl⟩
abbrev kX5_octet : xK := (RX5, cX5_octet, 5, (some .int), false)
set_option maxRecDepth 20000 in
theorem mX5_octet : xcV yX5_octet kX5_octet 2 := ⟨⟨xwc 232 rfl rfl, xw 36 (by decide +kernel), by decide +kernel, by decide +kernel, by decide +kernel⟩, xw 230 (by decide +kernel), xw 231 (by decide +kernel)⟩
abbrev kX5_answer : xK := (RX5, cX5_answer, 3, (some .int), false)
set_option maxRecDepth 20000 in
theorem mX5_answer : xcV yX5_answer kX5_answer 2 := ⟨⟨xwc 504 rfl rfl, xw 36 (by decide +kernel), by decide +kernel, by decide +kernel, by decide +kernel⟩, xw 502 (by decide +kernel), xw 503 (by decide +kernel)⟩
abbrev kX5_reset : xK := (RX5, cX5_reset, 3, (some .int), false)
set_option maxRecDepth 20000 in
theorem mX5_reset : xcV yX5_reset kX5_reset 1 := ⟨⟨xwc 446 rfl rfl, xw 36 (by decide +kernel), by decide +kernel, by decide +kernel, by decide +kernel⟩, xw 444 (by decide +kernel), xw 445 (by decide +kernel)⟩
abbrev kX5_offline : xK := (RX5, cX5_offline, 6, (some .int), false)
set_option maxRecDepth 20000 in
theorem mX5_offline : xcV yX5_offline kX5_offline 4 := ⟨⟨xwc 454 rfl rfl, xw 36 (by decide +kernel), by decide +kernel, by decide +kernel, by decide +kernel⟩, xw 452 (by decide +kernel), xw 453 (by decide +kernel)⟩
abbrev kX5_join : xK := (RX5, cX5_join, 5, (some .int), false)
set_option maxRecDepth 20000 in
theorem mX5_join : xcV yX5_join kX5_join 1 := ⟨⟨xwc 462 rfl rfl, xw 36 (by decide +kernel), by decide +kernel, by decide +kernel, by decide +kernel⟩, xw 460 (by decide +kernel), xw 461 (by decide +kernel)⟩
abbrev kX5_owes : xK := (RX5, cX5_owes, 4, (some .int), false)
set_option maxRecDepth 20000 in
theorem mX5_owes : xcV yX5_owes kX5_owes 2 := ⟨⟨xwc 470 rfl rfl, xw 36 (by decide +kernel), by decide +kernel, by decide +kernel, by decide +kernel⟩, xw 468 (by decide +kernel), xw 469 (by decide +kernel)⟩
abbrev kX5_acts : xK := (RX5, cX5_acts, 1, (some .int), false)
set_option maxRecDepth 20000 in
theorem mX5_acts : xcV yX5_acts kX5_acts 0 := ⟨⟨xwc 475 rfl rfl, xw 36 (by decide +kernel), by decide +kernel, by decide +kernel, by decide +kernel⟩, xw 473 (by decide +kernel), xw 474 (by decide +kernel)⟩
abbrev kX5_act : xK := (RX5, cX5_act, 3, (some .int), false)
set_option maxRecDepth 20000 in
theorem mX5_act : xcV yX5_act kX5_act 2 := ⟨⟨xwc 479 rfl rfl, xw 36 (by decide +kernel), by decide +kernel, by decide +kernel, by decide +kernel⟩, xw 477 (by decide +kernel), xw 478 (by decide +kernel)⟩
abbrev kX5_sum : xK := (RX5, cX5_sum, 3, (some .int), false)
set_option maxRecDepth 20000 in
theorem mX5_sum : xcV yX5_sum kX5_sum 1 := ⟨⟨xwc 488 rfl rfl, xw 36 (by decide +kernel), by decide +kernel, by decide +kernel, by decide +kernel⟩, xw 486 (by decide +kernel), xw 487 (by decide +kernel)⟩
abbrev kX5_state : xK := (RX5, cX5_state, 4, (some .int), false)
set_option maxRecDepth 20000 in
theorem mX5_state : xcV yX5_state kX5_state 2 := ⟨⟨xwc 492 rfl rfl, xw 36 (by decide +kernel), by decide +kernel, by decide +kernel, by decide +kernel⟩, xw 490 (by decide +kernel), xw 491 (by decide +kernel)⟩
abbrev kX5_waits : xK := (RX5, cX5_waits, 3, (some .int), false)
set_option maxRecDepth 20000 in
theorem mX5_waits : xcV yX5_waits kX5_waits 2 := ⟨⟨xwc 496 rfl rfl, xw 36 (by decide +kernel), by decide +kernel, by decide +kernel, by decide +kernel⟩, xw 494 (by decide +kernel), xw 495 (by decide +kernel)⟩
abbrev kX5_endMessage : xK := (RX5, cX5_endMessage, 4, none, false)
set_option maxRecDepth 20000 in
theorem mX5_endMessage : xcV yX5_endMessage kX5_endMessage 2 := ⟨⟨xwc 244 rfl rfl, xw 36 (by decide +kernel), by decide +kernel, by decide +kernel, by decide +kernel⟩, xw 243 (by decide +kernel), xw 0 (by decide +kernel)⟩
abbrev kX5_doMessage : xK := (RX5, cX5_doMessage, 5, none, false)
set_option maxRecDepth 20000 in
theorem mX5_doMessage : xcV yX5_doMessage kX5_doMessage 2 := ⟨⟨xwc 357 rfl rfl, xw 36 (by decide +kernel), by decide +kernel, by decide +kernel, by decide +kernel⟩, xw 356 (by decide +kernel), xw 7 (by decide +kernel)⟩
abbrev kX5_carryOut : xK := (RX5, cX5_carryOut, 3, (some .boolean), false)
set_option maxRecDepth 20000 in
theorem mX5_carryOut : xcV yX5_carryOut kX5_carryOut 1 := ⟨⟨xwc 375 rfl rfl, xw 36 (by decide +kernel), by decide +kernel, by decide +kernel, by decide +kernel⟩, xw 374 (by decide +kernel), xw 9 (by decide +kernel)⟩
abbrev kX5_isBelow : xK := (RX5, cX5_isBelow, 2, (some .boolean), false)
set_option maxRecDepth 20000 in
theorem mX5_isBelow : xcS yX5_isBelow kX5_isBelow 2 := ⟨⟨xwc 235 rfl rfl, xw 36 (by decide +kernel), by decide +kernel, by decide +kernel, by decide +kernel⟩, xw 234 (by decide +kernel)⟩
abbrev kX5_isDigit : xK := (RX5, cX5_isDigit, 1, (some .boolean), false)
set_option maxRecDepth 20000 in
theorem mX5_isDigit : xcS yX5_isDigit kX5_isDigit 1 := ⟨⟨xwc 263 rfl rfl, xw 36 (by decide +kernel), by decide +kernel, by decide +kernel, by decide +kernel⟩, xw 262 (by decide +kernel)⟩
abbrev kX5_hexDigit : xK := (RX5, cX5_hexDigit, 2, (some .int), false)
set_option maxRecDepth 20000 in
theorem mX5_hexDigit : xcS yX5_hexDigit kX5_hexDigit 1 := ⟨⟨xwc 331 rfl rfl, xw 36 (by decide +kernel), by decide +kernel, by decide +kernel, by decide +kernel⟩, xw 330 (by decide +kernel)⟩
abbrev kX5_sumOf : xK := (RX5, cX5_sumOf, 4, (some .int), false)
set_option maxRecDepth 20000 in
theorem mX5_sumOf : xcS yX5_sumOf kX5_sumOf 2 := ⟨⟨xwc 328 rfl rfl, xw 36 (by decide +kernel), by decide +kernel, by decide +kernel, by decide +kernel⟩, xw 327 (by decide +kernel)⟩
abbrev kX6_init : xK := (RX6, cX6_init, 2, none, true)
set_option maxRecDepth 20000 in
theorem mX6_init : xcI yX6_init kX6_init 0 := ⟨⟨xwc 579 rfl rfl, xw 42 (by decide +kernel), by decide +kernel, by decide +kernel, by decide +kernel⟩, xw 578 (by decide +kernel), rfl⟩
abbrev kX6_in : xK := (RX6, cX6_in, 3, (some .boolean), false)
set_option maxRecDepth 20000 in
theorem mX6_in : xcS yX6_in kX6_in 3 := ⟨⟨xwc 682 rfl rfl, xw 42 (by decide +kernel), by decide +kernel, by decide +kernel, by decide +kernel⟩, xw 681 (by decide +kernel)⟩
abbrev kX6_isDevice : xK := (RX6, cX6_isDevice, 1, (some .boolean), false)
set_option maxRecDepth 20000 in
theorem mX6_isDevice : xcS yX6_isDevice kX6_isDevice 1 := ⟨⟨xwc 679 rfl rfl, xw 42 (by decide +kernel), by decide +kernel, by decide +kernel, by decide +kernel⟩, xw 678 (by decide +kernel)⟩
abbrev kX6_look : xK := (RX6, cX6_look, 2, (some .int), false)
set_option maxRecDepth 20000 in
theorem mX6_look : xcV yX6_look kX6_look 1 := ⟨⟨xwc 694 rfl rfl, xw 42 (by decide +kernel), by decide +kernel, by decide +kernel, by decide +kernel⟩, xw 693 (by decide +kernel), xw 22 (by decide +kernel)⟩
abbrev kX6_isKind : xK := (RX6, cX6_isKind, 1, (some .boolean), false)
set_option maxRecDepth 20000 in
theorem mX6_isKind : xcS yX6_isKind kX6_isKind 1 := ⟨⟨xwc 697 rfl rfl, xw 42 (by decide +kernel), by decide +kernel, by decide +kernel, by decide +kernel⟩, xw 696 (by decide +kernel)⟩
abbrev kX6_hasPerson : xK := (RX6, cX6_hasPerson, 1, (some .boolean), false)
set_option maxRecDepth 20000 in
theorem mX6_hasPerson : xcS yX6_hasPerson kX6_hasPerson 1 := ⟨⟨xwc 700 rfl rfl, xw 42 (by decide +kernel), by decide +kernel, by decide +kernel, by decide +kernel⟩, xw 699 (by decide +kernel)⟩
abbrev kX6_hasItem : xK := (RX6, cX6_hasItem, 1, (some .boolean), false)
set_option maxRecDepth 20000 in
theorem mX6_hasItem : xcS yX6_hasItem kX6_hasItem 1 := ⟨⟨xwc 707 rfl rfl, xw 42 (by decide +kernel), by decide +kernel, by decide +kernel, by decide +kernel⟩, xw 706 (by decide +kernel)⟩
abbrev kX6_field : xK := (RX6, cX6_field, 5, (some .int), false)
set_option maxRecDepth 20000 in
theorem mX6_field : xcV yX6_field kX6_field 2 := ⟨⟨xwc 704 rfl rfl, xw 42 (by decide +kernel), by decide +kernel, by decide +kernel, by decide +kernel⟩, xw 703 (by decide +kernel), xw 23 (by decide +kernel)⟩
abbrev kX6_hex : xK := (RX6, cX6_hex, 1, (some .int), false)
set_option maxRecDepth 20000 in
theorem mX6_hex : xcS yX6_hex kX6_hex 1 := ⟨⟨xwc 710 rfl rfl, xw 42 (by decide +kernel), by decide +kernel, by decide +kernel, by decide +kernel⟩, xw 709 (by decide +kernel)⟩
abbrev kX6_digit : xK := (RX6, cX6_digit, 1, (some .int), false)
set_option maxRecDepth 20000 in
theorem mX6_digit : xcS yX6_digit kX6_digit 1 := ⟨⟨xwc 721 rfl rfl, xw 42 (by decide +kernel), by decide +kernel, by decide +kernel, by decide +kernel⟩, xw 720 (by decide +kernel)⟩
abbrev kX6_reads : xK := (RX6, cX6_reads, 5, (some .boolean), false)
set_option maxRecDepth 20000 in
theorem mX6_reads : xcV yX6_reads kX6_reads 1 := ⟨⟨xwc 690 rfl rfl, xw 42 (by decide +kernel), by decide +kernel, by decide +kernel, by decide +kernel⟩, xw 689 (by decide +kernel), xw 21 (by decide +kernel)⟩
abbrev kX6_put : xK := (RX6, cX6_put, 3, none, false)
set_option maxRecDepth 20000 in
theorem mX6_put : xcV yX6_put kX6_put 2 := ⟨⟨xwc 714 rfl rfl, xw 42 (by decide +kernel), by decide +kernel, by decide +kernel, by decide +kernel⟩, xw 713 (by decide +kernel), xw 24 (by decide +kernel)⟩
abbrev kX6_close : xK := (RX6, cX6_close, 4, none, false)
set_option maxRecDepth 20000 in
theorem mX6_close : xcV yX6_close kX6_close 1 := ⟨⟨xwc 718 rfl rfl, xw 42 (by decide +kernel), by decide +kernel, by decide +kernel, by decide +kernel⟩, xw 717 (by decide +kernel), xw 25 (by decide +kernel)⟩
abbrev kX6_finish : xK := (RX6, cX6_finish, 4, none, false)
set_option maxRecDepth 20000 in
theorem mX6_finish : xcV yX6_finish kX6_finish 2 := ⟨⟨xwc 725 rfl rfl, xw 42 (by decide +kernel), by decide +kernel, by decide +kernel, by decide +kernel⟩, xw 724 (by decide +kernel), xw 26 (by decide +kernel)⟩
abbrev kX6_again : xK := (RX6, cX6_again, 3, none, false)
set_option maxRecDepth 20000 in
theorem mX6_again : xcV yX6_again kX6_again 1 := ⟨⟨xwc 729 rfl rfl, xw 42 (by decide +kernel), by decide +kernel, by decide +kernel, by decide +kernel⟩, xw 728 (by decide +kernel), xw 27 (by decide +kernel)⟩
abbrev kX6_bad : xK := (RX6, cX6_bad, 1, (some .int), false)
set_option maxRecDepth 20000 in
theorem mX6_bad : xcV yX6_bad kX6_bad 0 := ⟨⟨xwc 733 rfl rfl, xw 42 (by decide +kernel), by decide +kernel, by decide +kernel, by decide +kernel⟩, xw 732 (by decide +kernel), xw 28 (by decide +kernel)⟩
abbrev kX6_answers : xK := (RX6, cX6_answers, 5, none, false)
set_option maxRecDepth 20000 in
theorem mX6_answers : xcV yX6_answers kX6_answers 1 := ⟨⟨xwc 686 rfl rfl, xw 42 (by decide +kernel), by decide +kernel, by decide +kernel, by decide +kernel⟩, xw 685 (by decide +kernel), xw 20 (by decide +kernel)⟩
abbrev kX6_items : xK := (RX6, cX6_items, 4, (some .int), false)
set_option maxRecDepth 20000 in
theorem mX6_items : xcV yX6_items kX6_items 1 := ⟨⟨xwc 750 rfl rfl, xw 42 (by decide +kernel), by decide +kernel, by decide +kernel, by decide +kernel⟩, xw 749 (by decide +kernel), xw 32 (by decide +kernel)⟩
abbrev kX6_placeOf : xK := (RX6, cX6_placeOf, 4, (some .int), false)
set_option maxRecDepth 20000 in
theorem mX6_placeOf : xcV yX6_placeOf kX6_placeOf 2 := ⟨⟨xwc 758 rfl rfl, xw 42 (by decide +kernel), by decide +kernel, by decide +kernel, by decide +kernel⟩, xw 757 (by decide +kernel), xw 34 (by decide +kernel)⟩
abbrev kX6_enter : xK := (RX6, cX6_enter, 7, none, false)
set_option maxRecDepth 20000 in
theorem mX6_enter : xcV yX6_enter kX6_enter 5 := ⟨⟨xwc 746 rfl rfl, xw 42 (by decide +kernel), by decide +kernel, by decide +kernel, by decide +kernel⟩, xw 745 (by decide +kernel), xw 31 (by decide +kernel)⟩
abbrev kX6_lends : xK := (RX6, cX6_lends, 5, (some .int), false)
set_option maxRecDepth 20000 in
theorem mX6_lends : xcV yX6_lends kX6_lends 2 := ⟨⟨xwc 742 rfl rfl, xw 42 (by decide +kernel), by decide +kernel, by decide +kernel, by decide +kernel⟩, xw 741 (by decide +kernel), xw 30 (by decide +kernel)⟩
abbrev kX6_brings : xK := (RX6, cX6_brings, 3, (some .int), false)
set_option maxRecDepth 20000 in
theorem mX6_brings : xcV yX6_brings kX6_brings 2 := ⟨⟨xwc 754 rfl rfl, xw 42 (by decide +kernel), by decide +kernel, by decide +kernel, by decide +kernel⟩, xw 753 (by decide +kernel), xw 33 (by decide +kernel)⟩
abbrev kX6_judge : xK := (RX6, cX6_judge, 3, (some .int), false)
set_option maxRecDepth 20000 in
theorem mX6_judge : xcV yX6_judge kX6_judge 2 := ⟨⟨xwc 738 rfl rfl, xw 42 (by decide +kernel), by decide +kernel, by decide +kernel, by decide +kernel⟩, xw 737 (by decide +kernel), xw 29 (by decide +kernel)⟩
abbrev kX6_octet : xK := (RX6, cX6_octet, 3, (some .int), false)
set_option maxRecDepth 20000 in
theorem mX6_octet : xcV yX6_octet kX6_octet 2 := ⟨⟨xwc 676 rfl rfl, xw 42 (by decide +kernel), by decide +kernel, by decide +kernel, by decide +kernel⟩, xw 674 (by decide +kernel), xw 675 (by decide +kernel)⟩
abbrev kX6_answer : xK := (RX6, cX6_answer, 3, (some .int), false)
set_option maxRecDepth 20000 in
theorem mX6_answer : xcV yX6_answer kX6_answer 2 := ⟨⟨xwc 762 rfl rfl, xw 42 (by decide +kernel), by decide +kernel, by decide +kernel, by decide +kernel⟩, xw 760 (by decide +kernel), xw 761 (by decide +kernel)⟩
abbrev kX6_reset : xK := (RX6, cX6_reset, 3, (some .int), false)
set_option maxRecDepth 20000 in
theorem mX6_reset : xcV yX6_reset kX6_reset 1 := ⟨⟨xwc 766 rfl rfl, xw 42 (by decide +kernel), by decide +kernel, by decide +kernel, by decide +kernel⟩, xw 764 (by decide +kernel), xw 765 (by decide +kernel)⟩
abbrev kX6_offline : xK := (RX6, cX6_offline, 6, (some .int), false)
set_option maxRecDepth 20000 in
theorem mX6_offline : xcV yX6_offline kX6_offline 4 := ⟨⟨xwc 770 rfl rfl, xw 42 (by decide +kernel), by decide +kernel, by decide +kernel, by decide +kernel⟩, xw 768 (by decide +kernel), xw 769 (by decide +kernel)⟩
abbrev kX6_join : xK := (RX6, cX6_join, 5, (some .int), false)
set_option maxRecDepth 20000 in
theorem mX6_join : xcV yX6_join kX6_join 1 := ⟨⟨xwc 774 rfl rfl, xw 42 (by decide +kernel), by decide +kernel, by decide +kernel, by decide +kernel⟩, xw 772 (by decide +kernel), xw 773 (by decide +kernel)⟩
abbrev kX6_owes : xK := (RX6, cX6_owes, 4, (some .int), false)
set_option maxRecDepth 20000 in
theorem mX6_owes : xcV yX6_owes kX6_owes 2 := ⟨⟨xwc 778 rfl rfl, xw 42 (by decide +kernel), by decide +kernel, by decide +kernel, by decide +kernel⟩, xw 776 (by decide +kernel), xw 777 (by decide +kernel)⟩
abbrev kX6_acts : xK := (RX6, cX6_acts, 1, (some .int), false)
set_option maxRecDepth 20000 in
theorem mX6_acts : xcV yX6_acts kX6_acts 0 := ⟨⟨xwc 783 rfl rfl, xw 42 (by decide +kernel), by decide +kernel, by decide +kernel, by decide +kernel⟩, xw 781 (by decide +kernel), xw 782 (by decide +kernel)⟩
abbrev kX6_act : xK := (RX6, cX6_act, 3, (some .int), false)
set_option maxRecDepth 20000 in
theorem mX6_act : xcV yX6_act kX6_act 2 := ⟨⟨xwc 787 rfl rfl, xw 42 (by decide +kernel), by decide +kernel, by decide +kernel, by decide +kernel⟩, xw 785 (by decide +kernel), xw 786 (by decide +kernel)⟩
abbrev kX6_sum : xK := (RX6, cX6_sum, 3, (some .int), false)
set_option maxRecDepth 20000 in
theorem mX6_sum : xcV yX6_sum kX6_sum 1 := ⟨⟨xwc 791 rfl rfl, xw 42 (by decide +kernel), by decide +kernel, by decide +kernel, by decide +kernel⟩, xw 789 (by decide +kernel), xw 790 (by decide +kernel)⟩
abbrev kX6_state : xK := (RX6, cX6_state, 3, (some .int), false)
set_option maxRecDepth 20000 in
theorem mX6_state : xcV yX6_state kX6_state 2 := ⟨⟨xwc 795 rfl rfl, xw 42 (by decide +kernel), by decide +kernel, by decide +kernel, by decide +kernel⟩, xw 793 (by decide +kernel), xw 794 (by decide +kernel)⟩
abbrev kX6_waits : xK := (RX6, cX6_waits, 3, (some .int), false)
set_option maxRecDepth 20000 in
theorem mX6_waits : xcV yX6_waits kX6_waits 2 := ⟨⟨xwc 799 rfl rfl, xw 42 (by decide +kernel), by decide +kernel, by decide +kernel, by decide +kernel⟩, xw 797 (by decide +kernel), xw 798 (by decide +kernel)⟩
theorem lc_L_8 : Jvm.Cond.classLink "ExchangeWireLaw" (8 : Nat) "ExchangeWire" ∈ xws := xw 54 (by decide +kernel)
theorem lm_L_15 : Jvm.Cond.methodLink "ExchangeWireLaw" (15 : Nat) ({ cls := "ExchangeWire", name := "<init>", desc := "()V" } : Jvm.MethodName) ∈ xws := xw 56 (by decide +kernel)
theorem lm_X5_1 : Jvm.Cond.methodLink "ExchangeWire" (1 : Nat) ({ cls := "java/lang/Object", name := "<init>", desc := "()V" } : Jvm.MethodName) ∈ xws := xw 59 (by decide +kernel)
theorem lc_X5_9 : Jvm.Cond.classLink "ExchangeWire" (9 : Nat) "ExchangeWire$Line" ∈ xws := xw 62 (by decide +kernel)
theorem lm_X2_3 : Jvm.Cond.methodLink "ExchangeWire$Line" (3 : Nat) ({ cls := "java/lang/Object", name := "<init>", desc := "()V" } : Jvm.MethodName) ∈ xws := xw 68 (by decide +kernel)
theorem lc_X2_32 : Jvm.Cond.classLink "ExchangeWire$Line" (32 : Nat) "ExchangeWire$Reply" ∈ xws := xw 69 (by decide +kernel)
theorem lm_X4_3 : Jvm.Cond.methodLink "ExchangeWire$Reply" (3 : Nat) ({ cls := "java/lang/Object", name := "<init>", desc := "()V" } : Jvm.MethodName) ∈ xws := xw 74 (by decide +kernel)
theorem lf_X4_11 : Jvm.Cond.fieldLink "ExchangeWire$Reply" (11 : Nat) "ExchangeWire$Reply" "signs" "[I" ∈ xws := xw 75 (by decide +kernel)
theorem lf_X5_73 : Jvm.Cond.fieldLink "ExchangeWire" (73 : Nat) "ExchangeWire$Reply" "signs" "[I" ∈ xws := xw 76 (by decide +kernel)
theorem lf_X4_15 : Jvm.Cond.fieldLink "ExchangeWire$Reply" (15 : Nat) "ExchangeWire$Reply" "length" "I" ∈ xws := xw 77 (by decide +kernel)
theorem lf_X5_61 : Jvm.Cond.fieldLink "ExchangeWire" (61 : Nat) "ExchangeWire$Reply" "length" "I" ∈ xws := xw 78 (by decide +kernel)
theorem lf_X2_58 : Jvm.Cond.fieldLink "ExchangeWire$Line" (58 : Nat) "ExchangeWire$Reply" "length" "I" ∈ xws := xw 79 (by decide +kernel)
theorem lf_X2_9 : Jvm.Cond.fieldLink "ExchangeWire$Line" (9 : Nat) "ExchangeWire$Line" "signs" "[I" ∈ xws := xw 86 (by decide +kernel)
theorem lf_X5_132 : Jvm.Cond.fieldLink "ExchangeWire" (132 : Nat) "ExchangeWire$Line" "signs" "[I" ∈ xws := xw 87 (by decide +kernel)
theorem lf_X2_15 : Jvm.Cond.fieldLink "ExchangeWire$Line" (15 : Nat) "ExchangeWire$Line" "count" "I" ∈ xws := xw 88 (by decide +kernel)
theorem lf_X5_77 : Jvm.Cond.fieldLink "ExchangeWire" (77 : Nat) "ExchangeWire$Line" "count" "I" ∈ xws := xw 89 (by decide +kernel)
theorem lf_X2_19 : Jvm.Cond.fieldLink "ExchangeWire$Line" (19 : Nat) "ExchangeWire$Line" "broken" "Z" ∈ xws := xw 90 (by decide +kernel)
theorem lf_X5_45 : Jvm.Cond.fieldLink "ExchangeWire" (45 : Nat) "ExchangeWire$Line" "broken" "Z" ∈ xws := xw 91 (by decide +kernel)
theorem lf_X2_23 : Jvm.Cond.fieldLink "ExchangeWire$Line" (23 : Nat) "ExchangeWire$Line" "signedOn" "Z" ∈ xws := xw 92 (by decide +kernel)
theorem lf_X5_119 : Jvm.Cond.fieldLink "ExchangeWire" (119 : Nat) "ExchangeWire$Line" "signedOn" "Z" ∈ xws := xw 93 (by decide +kernel)
theorem lf_X2_26 : Jvm.Cond.fieldLink "ExchangeWire$Line" (26 : Nat) "ExchangeWire$Line" "latestNumber" "I" ∈ xws := xw 94 (by decide +kernel)
theorem lf_X5_116 : Jvm.Cond.fieldLink "ExchangeWire" (116 : Nat) "ExchangeWire$Line" "latestNumber" "I" ∈ xws := xw 95 (by decide +kernel)
theorem lf_X2_29 : Jvm.Cond.fieldLink "ExchangeWire$Line" (29 : Nat) "ExchangeWire$Line" "wrongCount" "I" ∈ xws := xw 96 (by decide +kernel)
theorem lf_X5_122 : Jvm.Cond.fieldLink "ExchangeWire" (122 : Nat) "ExchangeWire$Line" "wrongCount" "I" ∈ xws := xw 97 (by decide +kernel)
theorem lf_X2_35 : Jvm.Cond.fieldLink "ExchangeWire$Line" (35 : Nat) "ExchangeWire$Line" "shown" "LExchangeWire$Reply;" ∈ xws := xw 98 (by decide +kernel)
theorem lf_X5_57 : Jvm.Cond.fieldLink "ExchangeWire" (57 : Nat) "ExchangeWire$Line" "shown" "LExchangeWire$Reply;" ∈ xws := xw 99 (by decide +kernel)
theorem lf_X2_39 : Jvm.Cond.fieldLink "ExchangeWire$Line" (39 : Nat) "ExchangeWire$Line" "kept" "LExchangeWire$Reply;" ∈ xws := xw 100 (by decide +kernel)
theorem lf_X5_143 : Jvm.Cond.fieldLink "ExchangeWire" (143 : Nat) "ExchangeWire$Line" "kept" "LExchangeWire$Reply;" ∈ xws := xw 101 (by decide +kernel)
theorem lf_X2_42 : Jvm.Cond.fieldLink "ExchangeWire$Line" (42 : Nat) "ExchangeWire$Line" "rowKinds" "[I" ∈ xws := xw 102 (by decide +kernel)
theorem lf_X5_90 : Jvm.Cond.fieldLink "ExchangeWire" (90 : Nat) "ExchangeWire$Line" "rowKinds" "[I" ∈ xws := xw 103 (by decide +kernel)
theorem lf_X2_45 : Jvm.Cond.fieldLink "ExchangeWire$Line" (45 : Nat) "ExchangeWire$Line" "rowItems" "[I" ∈ xws := xw 104 (by decide +kernel)
theorem lf_X5_93 : Jvm.Cond.fieldLink "ExchangeWire" (93 : Nat) "ExchangeWire$Line" "rowItems" "[I" ∈ xws := xw 105 (by decide +kernel)
theorem lf_X2_48 : Jvm.Cond.fieldLink "ExchangeWire$Line" (48 : Nat) "ExchangeWire$Line" "rowPersons" "[I" ∈ xws := xw 106 (by decide +kernel)
theorem lf_X5_96 : Jvm.Cond.fieldLink "ExchangeWire" (96 : Nat) "ExchangeWire$Line" "rowPersons" "[I" ∈ xws := xw 107 (by decide +kernel)
theorem lf_X2_51 : Jvm.Cond.fieldLink "ExchangeWire$Line" (51 : Nat) "ExchangeWire$Line" "rowCount" "I" ∈ xws := xw 108 (by decide +kernel)
theorem lf_X5_87 : Jvm.Cond.fieldLink "ExchangeWire" (87 : Nat) "ExchangeWire$Line" "rowCount" "I" ∈ xws := xw 109 (by decide +kernel)
theorem lc_X5_16 : Jvm.Cond.classLink "ExchangeWire" (16 : Nat) "ExchangeWire$House" ∈ xws := xw 135 (by decide +kernel)
theorem lm_X5_18 : Jvm.Cond.methodLink "ExchangeWire" (18 : Nat) ({ cls := "ExchangeWire$House", name := "<init>", desc := "()V" } : Jvm.MethodName) ∈ xws := xw 137 (by decide +kernel)
theorem lm_X0_3 : Jvm.Cond.methodLink "ExchangeWire$House" (3 : Nat) ({ cls := "java/lang/Object", name := "<init>", desc := "()V" } : Jvm.MethodName) ∈ xws := xw 140 (by decide +kernel)
theorem lc_X0_21 : Jvm.Cond.classLink "ExchangeWire$House" (21 : Nat) "[[I" ∈ xws := xw 141 (by decide +kernel)
theorem lf_X0_9 : Jvm.Cond.fieldLink "ExchangeWire$House" (9 : Nat) "ExchangeWire$House" "debts" "[I" ∈ xws := xw 143 (by decide +kernel)
theorem lf_X5_108 : Jvm.Cond.fieldLink "ExchangeWire" (108 : Nat) "ExchangeWire$House" "debts" "[I" ∈ xws := xw 144 (by decide +kernel)
theorem lf_X0_15 : Jvm.Cond.fieldLink "ExchangeWire$House" (15 : Nat) "ExchangeWire$House" "borrowers" "[I" ∈ xws := xw 145 (by decide +kernel)
theorem lf_X5_176 : Jvm.Cond.fieldLink "ExchangeWire" (176 : Nat) "ExchangeWire$House" "borrowers" "[I" ∈ xws := xw 146 (by decide +kernel)
theorem lf_X0_18 : Jvm.Cond.fieldLink "ExchangeWire$House" (18 : Nat) "ExchangeWire$House" "renewals" "[I" ∈ xws := xw 147 (by decide +kernel)
theorem lf_X0_23 : Jvm.Cond.fieldLink "ExchangeWire$House" (23 : Nat) "ExchangeWire$House" "queues" "[[I" ∈ xws := xw 148 (by decide +kernel)
theorem lf_X5_128 : Jvm.Cond.fieldLink "ExchangeWire" (128 : Nat) "ExchangeWire$House" "queues" "[[I" ∈ xws := xw 149 (by decide +kernel)
theorem lf_X0_26 : Jvm.Cond.fieldLink "ExchangeWire$House" (26 : Nat) "ExchangeWire$House" "queueLengths" "[I" ∈ xws := xw 150 (by decide +kernel)
theorem lf_X5_125 : Jvm.Cond.fieldLink "ExchangeWire" (125 : Nat) "ExchangeWire$House" "queueLengths" "[I" ∈ xws := xw 151 (by decide +kernel)
theorem lc_X5_23 : Jvm.Cond.classLink "ExchangeWire" (23 : Nat) "ExchangeWire$Journal" ∈ xws := xw 163 (by decide +kernel)
theorem lm_X1_3 : Jvm.Cond.methodLink "ExchangeWire$Journal" (3 : Nat) ({ cls := "java/lang/Object", name := "<init>", desc := "()V" } : Jvm.MethodName) ∈ xws := xw 168 (by decide +kernel)
theorem lf_X1_11 : Jvm.Cond.fieldLink "ExchangeWire$Journal" (11 : Nat) "ExchangeWire$Journal" "parts" "[I" ∈ xws := xw 169 (by decide +kernel)
theorem lf_X1_15 : Jvm.Cond.fieldLink "ExchangeWire$Journal" (15 : Nat) "ExchangeWire$Journal" "count" "I" ∈ xws := xw 170 (by decide +kernel)
theorem lf_X5_111 : Jvm.Cond.fieldLink "ExchangeWire" (111 : Nat) "ExchangeWire$Journal" "count" "I" ∈ xws := xw 171 (by decide +kernel)
theorem lc_X5_30 : Jvm.Cond.classLink "ExchangeWire" (30 : Nat) "ExchangeWire$Message" ∈ xws := xw 177 (by decide +kernel)
theorem lm_X3_3 : Jvm.Cond.methodLink "ExchangeWire$Message" (3 : Nat) ({ cls := "java/lang/Object", name := "<init>", desc := "()V" } : Jvm.MethodName) ∈ xws := xw 182 (by decide +kernel)
theorem lf_X3_9 : Jvm.Cond.fieldLink "ExchangeWire$Message" (9 : Nat) "ExchangeWire$Message" "kind" "I" ∈ xws := xw 183 (by decide +kernel)
theorem lf_X0_29 : Jvm.Cond.fieldLink "ExchangeWire$House" (29 : Nat) "ExchangeWire$Message" "kind" "I" ∈ xws := xw 184 (by decide +kernel)
theorem lf_X1_23 : Jvm.Cond.fieldLink "ExchangeWire$Journal" (23 : Nat) "ExchangeWire$Message" "kind" "I" ∈ xws := xw 185 (by decide +kernel)
theorem lf_X4_39 : Jvm.Cond.fieldLink "ExchangeWire$Reply" (39 : Nat) "ExchangeWire$Message" "kind" "I" ∈ xws := xw 186 (by decide +kernel)
theorem lf_X5_140 : Jvm.Cond.fieldLink "ExchangeWire" (140 : Nat) "ExchangeWire$Message" "kind" "I" ∈ xws := xw 187 (by decide +kernel)
theorem lf_X3_15 : Jvm.Cond.fieldLink "ExchangeWire$Message" (15 : Nat) "ExchangeWire$Message" "number" "I" ∈ xws := xw 188 (by decide +kernel)
theorem lf_X1_34 : Jvm.Cond.fieldLink "ExchangeWire$Journal" (34 : Nat) "ExchangeWire$Message" "number" "I" ∈ xws := xw 189 (by decide +kernel)
theorem lf_X4_44 : Jvm.Cond.fieldLink "ExchangeWire$Reply" (44 : Nat) "ExchangeWire$Message" "number" "I" ∈ xws := xw 190 (by decide +kernel)
theorem lf_X5_150 : Jvm.Cond.fieldLink "ExchangeWire" (150 : Nat) "ExchangeWire$Message" "number" "I" ∈ xws := xw 191 (by decide +kernel)
theorem lf_X3_18 : Jvm.Cond.fieldLink "ExchangeWire$Message" (18 : Nat) "ExchangeWire$Message" "person" "I" ∈ xws := xw 192 (by decide +kernel)
theorem lf_X0_35 : Jvm.Cond.fieldLink "ExchangeWire$House" (35 : Nat) "ExchangeWire$Message" "person" "I" ∈ xws := xw 193 (by decide +kernel)
theorem lf_X1_31 : Jvm.Cond.fieldLink "ExchangeWire$Journal" (31 : Nat) "ExchangeWire$Message" "person" "I" ∈ xws := xw 194 (by decide +kernel)
theorem lf_X5_182 : Jvm.Cond.fieldLink "ExchangeWire" (182 : Nat) "ExchangeWire$Message" "person" "I" ∈ xws := xw 195 (by decide +kernel)
theorem lf_X3_21 : Jvm.Cond.fieldLink "ExchangeWire$Message" (21 : Nat) "ExchangeWire$Message" "item" "I" ∈ xws := xw 196 (by decide +kernel)
theorem lf_X1_28 : Jvm.Cond.fieldLink "ExchangeWire$Journal" (28 : Nat) "ExchangeWire$Message" "item" "I" ∈ xws := xw 197 (by decide +kernel)
theorem lf_X0_38 : Jvm.Cond.fieldLink "ExchangeWire$House" (38 : Nat) "ExchangeWire$Message" "item" "I" ∈ xws := xw 198 (by decide +kernel)
theorem lf_X5_179 : Jvm.Cond.fieldLink "ExchangeWire" (179 : Nat) "ExchangeWire$Message" "item" "I" ∈ xws := xw 199 (by decide +kernel)
theorem lf_X3_24 : Jvm.Cond.fieldLink "ExchangeWire$Message" (24 : Nat) "ExchangeWire$Message" "cents" "I" ∈ xws := xw 200 (by decide +kernel)
theorem lf_X0_49 : Jvm.Cond.fieldLink "ExchangeWire$House" (49 : Nat) "ExchangeWire$Message" "cents" "I" ∈ xws := xw 201 (by decide +kernel)
theorem lf_X5_11 : Jvm.Cond.fieldLink "ExchangeWire" (11 : Nat) "ExchangeWire" "lines" "[LExchangeWire$Line;" ∈ xws := xw 213 (by decide +kernel)
theorem lf_X5_19 : Jvm.Cond.fieldLink "ExchangeWire" (19 : Nat) "ExchangeWire" "house" "LExchangeWire$House;" ∈ xws := xw 214 (by decide +kernel)
theorem lf_X5_26 : Jvm.Cond.fieldLink "ExchangeWire" (26 : Nat) "ExchangeWire" "journal" "LExchangeWire$Journal;" ∈ xws := xw 215 (by decide +kernel)
theorem lf_X5_33 : Jvm.Cond.fieldLink "ExchangeWire" (33 : Nat) "ExchangeWire" "message" "LExchangeWire$Message;" ∈ xws := xw 216 (by decide +kernel)
theorem lf_X5_37 : Jvm.Cond.fieldLink "ExchangeWire" (37 : Nat) "ExchangeWire" "sumSoFar" "I" ∈ xws := xw 217 (by decide +kernel)
theorem lm_L_19 : Jvm.Cond.methodLink "ExchangeWireLaw" (19 : Nat) ({ cls := "ExchangeWire", name := "octet", desc := "(II)I" } : Jvm.MethodName) ∈ xws := xw 229 (by decide +kernel)
theorem lm_X5_41 : Jvm.Cond.methodLink "ExchangeWire" (41 : Nat) ({ cls := "ExchangeWire", name := "isBelow", desc := "(II)Z" } : Jvm.MethodName) ∈ xws := xw 233 (by decide +kernel)
theorem lm_X5_49 : Jvm.Cond.methodLink "ExchangeWire" (49 : Nat) ({ cls := "ExchangeWire$Line", name := "take", desc := "(I)I" } : Jvm.MethodName) ∈ xws := xw 236 (by decide +kernel)
theorem lm_X5_53 : Jvm.Cond.methodLink "ExchangeWire" (53 : Nat) ({ cls := "ExchangeWire", name := "endMessage", desc := "(ILExchangeWire$Line;)V" } : Jvm.MethodName) ∈ xws := xw 241 (by decide +kernel)
theorem lm_X5_133 : Jvm.Cond.methodLink "ExchangeWire" (133 : Nat) ({ cls := "ExchangeWire$Message", name := "read", desc := "([II)Z" } : Jvm.MethodName) ∈ xws := xw 245 (by decide +kernel)
theorem lm_X3_27 : Jvm.Cond.methodLink "ExchangeWire$Message" (27 : Nat) ({ cls := "ExchangeWire$Message", name := "forget", desc := "()V" } : Jvm.MethodName) ∈ xws := xw 249 (by decide +kernel)
theorem lm_X3_30 : Jvm.Cond.methodLink "ExchangeWire$Message" (30 : Nat) ({ cls := "ExchangeWire$Message", name := "fieldsOf", desc := "(I)Ljava/lang/String;" } : Jvm.MethodName) ∈ xws := xw 253 (by decide +kernel)
theorem lm_X3_38 : Jvm.Cond.methodLink "ExchangeWire$Message" (38 : Nat) ({ cls := "java/lang/String", name := "length", desc := "()I" } : Jvm.MethodName) ∈ xws := xw 264 (by decide +kernel)
theorem lm_X3_44 : Jvm.Cond.methodLink "ExchangeWire$Message" (44 : Nat) ({ cls := "java/lang/String", name := "charAt", desc := "(I)C" } : Jvm.MethodName) ∈ xws := xw 274 (by decide +kernel)
theorem lm_X3_48 : Jvm.Cond.methodLink "ExchangeWire$Message" (48 : Nat) ({ cls := "ExchangeWire$Message", name := "readField", desc := "(I[III)I" } : Jvm.MethodName) ∈ xws := xw 312 (by decide +kernel)
theorem lm_X3_69 : Jvm.Cond.methodLink "ExchangeWire$Message" (69 : Nat) ({ cls := "java/lang/Math", name := "min", desc := "(II)I" } : Jvm.MethodName) ∈ xws := xw 316 (by decide +kernel)
theorem lm_X3_75 : Jvm.Cond.methodLink "ExchangeWire$Message" (75 : Nat) ({ cls := "ExchangeWire$Message", name := "keepField", desc := "(II)V" } : Jvm.MethodName) ∈ xws := xw 319 (by decide +kernel)
theorem lm_X3_52 : Jvm.Cond.methodLink "ExchangeWire$Message" (52 : Nat) ({ cls := "ExchangeWire$Message", name := "endsWithSum", desc := "([III)Z" } : Jvm.MethodName) ∈ xws := xw 323 (by decide +kernel)
theorem lm_X5_137 : Jvm.Cond.methodLink "ExchangeWire" (137 : Nat) ({ cls := "ExchangeWire$Reply", name := "writeWrong", desc := "()V" } : Jvm.MethodName) ∈ xws := xw 332 (by decide +kernel)
theorem lm_X4_19 : Jvm.Cond.methodLink "ExchangeWire$Reply" (19 : Nat) ({ cls := "ExchangeWire$Reply", name := "add", desc := "(I)V" } : Jvm.MethodName) ∈ xws := xw 336 (by decide +kernel)
theorem lm_X4_23 : Jvm.Cond.methodLink "ExchangeWire$Reply" (23 : Nat) ({ cls := "ExchangeWire$Reply", name := "addSumAndEnd", desc := "()V" } : Jvm.MethodName) ∈ xws := xw 340 (by decide +kernel)
theorem lm_X5_146 : Jvm.Cond.methodLink "ExchangeWire" (146 : Nat) ({ cls := "ExchangeWire$Reply", name := "writeNo", desc := "(LExchangeWire$Message;)V" } : Jvm.MethodName) ∈ xws := xw 346 (by decide +kernel)
theorem lm_X4_26 : Jvm.Cond.methodLink "ExchangeWire$Reply" (26 : Nat) ({ cls := "ExchangeWire$Reply", name := "addSource", desc := "(LExchangeWire$Message;)V" } : Jvm.MethodName) ∈ xws := xw 350 (by decide +kernel)
theorem lm_X5_153 : Jvm.Cond.methodLink "ExchangeWire" (153 : Nat) ({ cls := "ExchangeWire", name := "doMessage", desc := "(ILExchangeWire$Line;)V" } : Jvm.MethodName) ∈ xws := xw 354 (by decide +kernel)
theorem lm_X5_160 : Jvm.Cond.methodLink "ExchangeWire" (160 : Nat) ({ cls := "ExchangeWire$Message", name := "firstBadField", desc := "()I" } : Jvm.MethodName) ∈ xws := xw 358 (by decide +kernel)
theorem lm_X3_56 : Jvm.Cond.methodLink "ExchangeWire$Message" (56 : Nat) ({ cls := "ExchangeWire$Message", name := "isGoodField", desc := "(I)Z" } : Jvm.MethodName) ∈ xws := xw 362 (by decide +kernel)
theorem ld_X3_83 : Jvm.Cond.constant "ExchangeWire$Message" (83 : Nat) (50000 : Int32) ∈ xws := xw 367 (by decide +kernel)
theorem lm_X5_164 : Jvm.Cond.methodLink "ExchangeWire" (164 : Nat) ({ cls := "ExchangeWire$Reply", name := "writeError", desc := "(LExchangeWire$Message;I)V" } : Jvm.MethodName) ∈ xws := xw 368 (by decide +kernel)
theorem lm_X5_103 : Jvm.Cond.methodLink "ExchangeWire" (103 : Nat) ({ cls := "ExchangeWire", name := "carryOut", desc := "(I)Z" } : Jvm.MethodName) ∈ xws := xw 372 (by decide +kernel)
theorem lm_X5_185 : Jvm.Cond.methodLink "ExchangeWire" (185 : Nat) ({ cls := "ExchangeWire$House", name := "decide", desc := "(LExchangeWire$Message;)Z" } : Jvm.MethodName) ∈ xws := xw 376 (by decide +kernel)
theorem lm_X0_41 : Jvm.Cond.methodLink "ExchangeWire$House" (41 : Nat) ({ cls := "ExchangeWire$House", name := "lend", desc := "(II)Z" } : Jvm.MethodName) ∈ xws := xw 380 (by decide +kernel)
theorem lm_X0_65 : Jvm.Cond.methodLink "ExchangeWire$House" (65 : Nat) ({ cls := "ExchangeWire$House", name := "dropFirst", desc := "(I)V" } : Jvm.MethodName) ∈ xws := xw 384 (by decide +kernel)
theorem lm_X0_45 : Jvm.Cond.methodLink "ExchangeWire$House" (45 : Nat) ({ cls := "ExchangeWire$House", name := "bringBack", desc := "(I)Z" } : Jvm.MethodName) ∈ xws := xw 388 (by decide +kernel)
theorem lm_X0_52 : Jvm.Cond.methodLink "ExchangeWire$House" (52 : Nat) ({ cls := "ExchangeWire$House", name := "pay", desc := "(II)Z" } : Jvm.MethodName) ∈ xws := xw 392 (by decide +kernel)
theorem lm_X0_55 : Jvm.Cond.methodLink "ExchangeWire$House" (55 : Nat) ({ cls := "ExchangeWire$House", name := "queueUp", desc := "(II)Z" } : Jvm.MethodName) ∈ xws := xw 396 (by decide +kernel)
theorem lm_X0_69 : Jvm.Cond.methodLink "ExchangeWire$House" (69 : Nat) ({ cls := "ExchangeWire$House", name := "isInQueue", desc := "(II)Z" } : Jvm.MethodName) ∈ xws := xw 400 (by decide +kernel)
theorem lm_X0_58 : Jvm.Cond.methodLink "ExchangeWire$House" (58 : Nat) ({ cls := "ExchangeWire$House", name := "renew", desc := "(II)Z" } : Jvm.MethodName) ∈ xws := xw 405 (by decide +kernel)
theorem lm_X5_189 : Jvm.Cond.methodLink "ExchangeWire" (189 : Nat) ({ cls := "ExchangeWire$Message", name := "changesTheHouse", desc := "()Z" } : Jvm.MethodName) ∈ xws := xw 409 (by decide +kernel)
theorem lm_X5_193 : Jvm.Cond.methodLink "ExchangeWire" (193 : Nat) ({ cls := "ExchangeWire$Journal", name := "add", desc := "(ILExchangeWire$Message;)V" } : Jvm.MethodName) ∈ xws := xw 413 (by decide +kernel)
theorem lm_X5_168 : Jvm.Cond.methodLink "ExchangeWire" (168 : Nat) ({ cls := "ExchangeWire$House", name := "figureFor", desc := "(LExchangeWire$Message;)I" } : Jvm.MethodName) ∈ xws := xw 418 (by decide +kernel)
theorem lm_X0_61 : Jvm.Cond.methodLink "ExchangeWire$House" (61 : Nat) ({ cls := "ExchangeWire$House", name := "itemsOf", desc := "(I)I" } : Jvm.MethodName) ∈ xws := xw 422 (by decide +kernel)
theorem lm_X5_172 : Jvm.Cond.methodLink "ExchangeWire" (172 : Nat) ({ cls := "ExchangeWire$Reply", name := "writeVerdict", desc := "(LExchangeWire$Message;ZI)V" } : Jvm.MethodName) ∈ xws := xw 426 (by decide +kernel)
theorem lm_X4_30 : Jvm.Cond.methodLink "ExchangeWire$Reply" (30 : Nat) ({ cls := "ExchangeWire$Reply", name := "addDigits", desc := "(I)V" } : Jvm.MethodName) ∈ xws := xw 430 (by decide +kernel)
theorem ld_X4_55 : Jvm.Cond.constant "ExchangeWire$Reply" (55 : Nat) (100000 : Int32) ∈ xws := xw 434 (by decide +kernel)
theorem lm_X5_156 : Jvm.Cond.methodLink "ExchangeWire" (156 : Nat) ({ cls := "ExchangeWire$Reply", name := "copy", desc := "(LExchangeWire$Reply;)V" } : Jvm.MethodName) ∈ xws := xw 435 (by decide +kernel)
theorem lm_X4_33 : Jvm.Cond.methodLink "ExchangeWire$Reply" (33 : Nat) ({ cls := "java/lang/System", name := "arraycopy", desc := "(Ljava/lang/Object;ILjava/lang/Object;II)V" } : Jvm.MethodName) ∈ xws := xw 439 (by decide +kernel)
theorem lm_L_29 : Jvm.Cond.methodLink "ExchangeWireLaw" (29 : Nat) ({ cls := "ExchangeWire", name := "reset", desc := "(I)I" } : Jvm.MethodName) ∈ xws := xw 443 (by decide +kernel)
theorem lm_X5_80 : Jvm.Cond.methodLink "ExchangeWire" (80 : Nat) ({ cls := "ExchangeWire$Line", name := "clear", desc := "()V" } : Jvm.MethodName) ∈ xws := xw 447 (by decide +kernel)
theorem lm_L_34 : Jvm.Cond.methodLink "ExchangeWireLaw" (34 : Nat) ({ cls := "ExchangeWire", name := "offline", desc := "(IIII)I" } : Jvm.MethodName) ∈ xws := xw 451 (by decide +kernel)
theorem lm_X5_83 : Jvm.Cond.methodLink "ExchangeWire" (83 : Nat) ({ cls := "ExchangeWire$Line", name := "addRow", desc := "(III)I" } : Jvm.MethodName) ∈ xws := xw 455 (by decide +kernel)
theorem lm_L_39 : Jvm.Cond.methodLink "ExchangeWireLaw" (39 : Nat) ({ cls := "ExchangeWire", name := "join", desc := "(I)I" } : Jvm.MethodName) ∈ xws := xw 459 (by decide +kernel)
theorem lm_X5_99 : Jvm.Cond.methodLink "ExchangeWire" (99 : Nat) ({ cls := "ExchangeWire$Message", name := "fillFromRow", desc := "(III)V" } : Jvm.MethodName) ∈ xws := xw 463 (by decide +kernel)
theorem lm_L_43 : Jvm.Cond.methodLink "ExchangeWireLaw" (43 : Nat) ({ cls := "ExchangeWire", name := "owes", desc := "(II)I" } : Jvm.MethodName) ∈ xws := xw 467 (by decide +kernel)
theorem ld_X5_107 : Jvm.Cond.constant "ExchangeWire" (107 : Nat) (100000 : Int32) ∈ xws := xw 471 (by decide +kernel)
theorem lm_L_47 : Jvm.Cond.methodLink "ExchangeWireLaw" (47 : Nat) ({ cls := "ExchangeWire", name := "acts", desc := "()I" } : Jvm.MethodName) ∈ xws := xw 472 (by decide +kernel)
theorem lm_L_52 : Jvm.Cond.methodLink "ExchangeWireLaw" (52 : Nat) ({ cls := "ExchangeWire", name := "act", desc := "(II)I" } : Jvm.MethodName) ∈ xws := xw 476 (by decide +kernel)
theorem lm_X5_112 : Jvm.Cond.methodLink "ExchangeWire" (112 : Nat) ({ cls := "ExchangeWire$Journal", name := "tell", desc := "(II)I" } : Jvm.MethodName) ∈ xws := xw 480 (by decide +kernel)
theorem lm_X1_37 : Jvm.Cond.methodLink "ExchangeWire$Journal" (37 : Nat) ({ cls := "java/lang/Math", name := "min", desc := "(II)I" } : Jvm.MethodName) ∈ xws := xw 484 (by decide +kernel)
theorem lm_L_56 : Jvm.Cond.methodLink "ExchangeWireLaw" (56 : Nat) ({ cls := "ExchangeWire", name := "sum", desc := "(I)I" } : Jvm.MethodName) ∈ xws := xw 485 (by decide +kernel)
theorem lm_L_60 : Jvm.Cond.methodLink "ExchangeWireLaw" (60 : Nat) ({ cls := "ExchangeWire", name := "state", desc := "(II)I" } : Jvm.MethodName) ∈ xws := xw 489 (by decide +kernel)
theorem lm_L_64 : Jvm.Cond.methodLink "ExchangeWireLaw" (64 : Nat) ({ cls := "ExchangeWire", name := "waits", desc := "(II)I" } : Jvm.MethodName) ∈ xws := xw 493 (by decide +kernel)
theorem lm_L_23 : Jvm.Cond.methodLink "ExchangeWireLaw" (23 : Nat) ({ cls := "ExchangeWireLaw", name := "answer", desc := "(LExchangeWire;II[J)I" } : Jvm.MethodName) ∈ xws := xw 497 (by decide +kernel)
theorem lc_L_13 : Jvm.Cond.classLink "ExchangeWireLaw" (13 : Nat) "java/lang/ArrayIndexOutOfBoundsException" ∈ xws := xw 500 (by decide +kernel)
theorem lm_L_7 : Jvm.Cond.methodLink "ExchangeWireLaw" (7 : Nat) ({ cls := "ExchangeWire", name := "answer", desc := "(II)I" } : Jvm.MethodName) ∈ xws := xw 501 (by decide +kernel)
theorem lc_X5_66 : Jvm.Cond.classLink "ExchangeWire" (66 : Nat) "java/lang/ArrayIndexOutOfBoundsException" ∈ xws := xw 505 (by decide +kernel)
theorem lm_X5_70 : Jvm.Cond.methodLink "ExchangeWire" (70 : Nat) ({ cls := "java/lang/ArrayIndexOutOfBoundsException", name := "<init>", desc := "(Ljava/lang/String;)V" } : Jvm.MethodName) ∈ xws := xw 547 (by decide +kernel)
theorem lc_L_16 : Jvm.Cond.classLink "ExchangeWireLaw" (16 : Nat) "ExchangeWireModel" ∈ xws := xw 575 (by decide +kernel)
theorem lm_L_18 : Jvm.Cond.methodLink "ExchangeWireLaw" (18 : Nat) ({ cls := "ExchangeWireModel", name := "<init>", desc := "()V" } : Jvm.MethodName) ∈ xws := xw 577 (by decide +kernel)
theorem lm_X6_1 : Jvm.Cond.methodLink "ExchangeWireModel" (1 : Nat) ({ cls := "java/lang/Object", name := "<init>", desc := "()V" } : Jvm.MethodName) ∈ xws := xw 580 (by decide +kernel)
theorem lf_X6_72 : Jvm.Cond.fieldLink "ExchangeWireModel" (72 : Nat) "ExchangeWireModel" "thrown" "I" ∈ xws := xw 581 (by decide +kernel)
theorem lf_X6_7 : Jvm.Cond.fieldLink "ExchangeWireModel" (7 : Nat) "ExchangeWireModel" "size" "[I" ∈ xws := xw 582 (by decide +kernel)
theorem lf_X6_13 : Jvm.Cond.fieldLink "ExchangeWireModel" (13 : Nat) "ExchangeWireModel" "line" "[B" ∈ xws := xw 583 (by decide +kernel)
theorem lf_X6_17 : Jvm.Cond.fieldLink "ExchangeWireModel" (17 : Nat) "ExchangeWireModel" "broken" "[Z" ∈ xws := xw 584 (by decide +kernel)
theorem lf_X6_21 : Jvm.Cond.fieldLink "ExchangeWireModel" (21 : Nat) "ExchangeWireModel" "signed" "[Z" ∈ xws := xw 585 (by decide +kernel)
theorem lf_X6_24 : Jvm.Cond.fieldLink "ExchangeWireModel" (24 : Nat) "ExchangeWireModel" "done" "[I" ∈ xws := xw 586 (by decide +kernel)
theorem lf_X6_27 : Jvm.Cond.fieldLink "ExchangeWireModel" (27 : Nat) "ExchangeWireModel" "wrongs" "[I" ∈ xws := xw 587 (by decide +kernel)
theorem lf_X6_30 : Jvm.Cond.fieldLink "ExchangeWireModel" (30 : Nat) "ExchangeWireModel" "told" "[I" ∈ xws := xw 588 (by decide +kernel)
theorem lf_X6_33 : Jvm.Cond.fieldLink "ExchangeWireModel" (33 : Nat) "ExchangeWireModel" "answers" "[B" ∈ xws := xw 589 (by decide +kernel)
theorem lf_X6_36 : Jvm.Cond.fieldLink "ExchangeWireModel" (36 : Nat) "ExchangeWireModel" "kept" "[I" ∈ xws := xw 590 (by decide +kernel)
theorem lf_X6_39 : Jvm.Cond.fieldLink "ExchangeWireModel" (39 : Nat) "ExchangeWireModel" "keeps" "[B" ∈ xws := xw 591 (by decide +kernel)
theorem lf_X6_42 : Jvm.Cond.fieldLink "ExchangeWireModel" (42 : Nat) "ExchangeWireModel" "rows" "[I" ∈ xws := xw 592 (by decide +kernel)
theorem lf_X6_45 : Jvm.Cond.fieldLink "ExchangeWireModel" (45 : Nat) "ExchangeWireModel" "rowKind" "[I" ∈ xws := xw 593 (by decide +kernel)
theorem lf_X6_48 : Jvm.Cond.fieldLink "ExchangeWireModel" (48 : Nat) "ExchangeWireModel" "rowItem" "[I" ∈ xws := xw 594 (by decide +kernel)
theorem lf_X6_51 : Jvm.Cond.fieldLink "ExchangeWireModel" (51 : Nat) "ExchangeWireModel" "rowPerson" "[I" ∈ xws := xw 595 (by decide +kernel)
theorem lf_X6_54 : Jvm.Cond.fieldLink "ExchangeWireModel" (54 : Nat) "ExchangeWireModel" "owes" "[I" ∈ xws := xw 596 (by decide +kernel)
theorem lf_X6_57 : Jvm.Cond.fieldLink "ExchangeWireModel" (57 : Nat) "ExchangeWireModel" "lent" "[I" ∈ xws := xw 597 (by decide +kernel)
theorem lf_X6_60 : Jvm.Cond.fieldLink "ExchangeWireModel" (60 : Nat) "ExchangeWireModel" "renewed" "[I" ∈ xws := xw 598 (by decide +kernel)
theorem lf_X6_63 : Jvm.Cond.fieldLink "ExchangeWireModel" (63 : Nat) "ExchangeWireModel" "waiting" "[I" ∈ xws := xw 599 (by decide +kernel)
theorem lf_X6_66 : Jvm.Cond.fieldLink "ExchangeWireModel" (66 : Nat) "ExchangeWireModel" "waits" "[I" ∈ xws := xw 600 (by decide +kernel)
theorem lf_X6_152 : Jvm.Cond.fieldLink "ExchangeWireModel" (152 : Nat) "ExchangeWireModel" "acts" "I" ∈ xws := xw 601 (by decide +kernel)
theorem lf_X6_69 : Jvm.Cond.fieldLink "ExchangeWireModel" (69 : Nat) "ExchangeWireModel" "actRow" "[I" ∈ xws := xw 602 (by decide +kernel)
theorem lf_X6_177 : Jvm.Cond.fieldLink "ExchangeWireModel" (177 : Nat) "ExchangeWireModel" "summed" "I" ∈ xws := xw 603 (by decide +kernel)
theorem lf_X6_80 : Jvm.Cond.fieldLink "ExchangeWireModel" (80 : Nat) "ExchangeWireModel" "at" "I" ∈ xws := xw 604 (by decide +kernel)
theorem lf_X6_87 : Jvm.Cond.fieldLink "ExchangeWireModel" (87 : Nat) "ExchangeWireModel" "kind" "I" ∈ xws := xw 605 (by decide +kernel)
theorem lf_X6_94 : Jvm.Cond.fieldLink "ExchangeWireModel" (94 : Nat) "ExchangeWireModel" "number" "I" ∈ xws := xw 606 (by decide +kernel)
theorem lf_X6_104 : Jvm.Cond.fieldLink "ExchangeWireModel" (104 : Nat) "ExchangeWireModel" "person" "I" ∈ xws := xw 607 (by decide +kernel)
theorem lf_X6_110 : Jvm.Cond.fieldLink "ExchangeWireModel" (110 : Nat) "ExchangeWireModel" "item" "I" ∈ xws := xw 608 (by decide +kernel)
theorem lf_X6_113 : Jvm.Cond.fieldLink "ExchangeWireModel" (113 : Nat) "ExchangeWireModel" "cents" "I" ∈ xws := xw 609 (by decide +kernel)
theorem lf_X6_148 : Jvm.Cond.fieldLink "ExchangeWireModel" (148 : Nat) "ExchangeWireModel" "verdict" "Z" ∈ xws := xw 610 (by decide +kernel)
theorem lm_L_22 : Jvm.Cond.methodLink "ExchangeWireLaw" (22 : Nat) ({ cls := "ExchangeWireModel", name := "octet", desc := "(II)I" } : Jvm.MethodName) ∈ xws := xw 673 (by decide +kernel)
theorem lm_X6_171 : Jvm.Cond.methodLink "ExchangeWireModel" (171 : Nat) ({ cls := "ExchangeWireModel", name := "isDevice", desc := "(I)Z" } : Jvm.MethodName) ∈ xws := xw 677 (by decide +kernel)
theorem lm_X6_76 : Jvm.Cond.methodLink "ExchangeWireModel" (76 : Nat) ({ cls := "ExchangeWireModel", name := "in", desc := "(III)Z" } : Jvm.MethodName) ∈ xws := xw 680 (by decide +kernel)
theorem lm_X6_174 : Jvm.Cond.methodLink "ExchangeWireModel" (174 : Nat) ({ cls := "ExchangeWireModel", name := "answers", desc := "(I)V" } : Jvm.MethodName) ∈ xws := xw 683 (by decide +kernel)
theorem lm_X6_131 : Jvm.Cond.methodLink "ExchangeWireModel" (131 : Nat) ({ cls := "ExchangeWireModel", name := "reads", desc := "(I)Z" } : Jvm.MethodName) ∈ xws := xw 687 (by decide +kernel)
theorem lm_X6_83 : Jvm.Cond.methodLink "ExchangeWireModel" (83 : Nat) ({ cls := "ExchangeWireModel", name := "look", desc := "(I)I" } : Jvm.MethodName) ∈ xws := xw 691 (by decide +kernel)
theorem lm_X6_90 : Jvm.Cond.methodLink "ExchangeWireModel" (90 : Nat) ({ cls := "ExchangeWireModel", name := "isKind", desc := "(I)Z" } : Jvm.MethodName) ∈ xws := xw 695 (by decide +kernel)
theorem lm_X6_97 : Jvm.Cond.methodLink "ExchangeWireModel" (97 : Nat) ({ cls := "ExchangeWireModel", name := "hasPerson", desc := "(I)Z" } : Jvm.MethodName) ∈ xws := xw 698 (by decide +kernel)
theorem lm_X6_100 : Jvm.Cond.methodLink "ExchangeWireModel" (100 : Nat) ({ cls := "ExchangeWireModel", name := "field", desc := "(II)I" } : Jvm.MethodName) ∈ xws := xw 701 (by decide +kernel)
theorem lm_X6_107 : Jvm.Cond.methodLink "ExchangeWireModel" (107 : Nat) ({ cls := "ExchangeWireModel", name := "hasItem", desc := "(I)Z" } : Jvm.MethodName) ∈ xws := xw 705 (by decide +kernel)
theorem lm_X6_116 : Jvm.Cond.methodLink "ExchangeWireModel" (116 : Nat) ({ cls := "ExchangeWireModel", name := "hex", desc := "(I)I" } : Jvm.MethodName) ∈ xws := xw 708 (by decide +kernel)
theorem lm_X6_119 : Jvm.Cond.methodLink "ExchangeWireModel" (119 : Nat) ({ cls := "ExchangeWireModel", name := "put", desc := "(II)V" } : Jvm.MethodName) ∈ xws := xw 711 (by decide +kernel)
theorem lm_X6_126 : Jvm.Cond.methodLink "ExchangeWireModel" (126 : Nat) ({ cls := "ExchangeWireModel", name := "close", desc := "(I)V" } : Jvm.MethodName) ∈ xws := xw 715 (by decide +kernel)
theorem lm_X6_123 : Jvm.Cond.methodLink "ExchangeWireModel" (123 : Nat) ({ cls := "ExchangeWireModel", name := "digit", desc := "(I)I" } : Jvm.MethodName) ∈ xws := xw 719 (by decide +kernel)
theorem lm_X6_134 : Jvm.Cond.methodLink "ExchangeWireModel" (134 : Nat) ({ cls := "ExchangeWireModel", name := "finish", desc := "(IZ)V" } : Jvm.MethodName) ∈ xws := xw 722 (by decide +kernel)
theorem lm_X6_138 : Jvm.Cond.methodLink "ExchangeWireModel" (138 : Nat) ({ cls := "ExchangeWireModel", name := "again", desc := "(I)V" } : Jvm.MethodName) ∈ xws := xw 726 (by decide +kernel)
theorem lm_X6_141 : Jvm.Cond.methodLink "ExchangeWireModel" (141 : Nat) ({ cls := "ExchangeWireModel", name := "bad", desc := "()I" } : Jvm.MethodName) ∈ xws := xw 730 (by decide +kernel)
theorem ld_X6_130 : Jvm.Cond.constant "ExchangeWireModel" (130 : Nat) (50000 : Int32) ∈ xws := xw 734 (by decide +kernel)
theorem lm_X6_145 : Jvm.Cond.methodLink "ExchangeWireModel" (145 : Nat) ({ cls := "ExchangeWireModel", name := "judge", desc := "(II)I" } : Jvm.MethodName) ∈ xws := xw 735 (by decide +kernel)
theorem lm_X6_162 : Jvm.Cond.methodLink "ExchangeWireModel" (162 : Nat) ({ cls := "ExchangeWireModel", name := "lends", desc := "(II)I" } : Jvm.MethodName) ∈ xws := xw 739 (by decide +kernel)
theorem lm_X6_155 : Jvm.Cond.methodLink "ExchangeWireModel" (155 : Nat) ({ cls := "ExchangeWireModel", name := "enter", desc := "(IIIII)V" } : Jvm.MethodName) ∈ xws := xw 743 (by decide +kernel)
theorem lm_X6_159 : Jvm.Cond.methodLink "ExchangeWireModel" (159 : Nat) ({ cls := "ExchangeWireModel", name := "items", desc := "(I)I" } : Jvm.MethodName) ∈ xws := xw 747 (by decide +kernel)
theorem lm_X6_165 : Jvm.Cond.methodLink "ExchangeWireModel" (165 : Nat) ({ cls := "ExchangeWireModel", name := "brings", desc := "(II)I" } : Jvm.MethodName) ∈ xws := xw 751 (by decide +kernel)
theorem lm_X6_168 : Jvm.Cond.methodLink "ExchangeWireModel" (168 : Nat) ({ cls := "ExchangeWireModel", name := "placeOf", desc := "(II)I" } : Jvm.MethodName) ∈ xws := xw 755 (by decide +kernel)
theorem lm_L_28 : Jvm.Cond.methodLink "ExchangeWireLaw" (28 : Nat) ({ cls := "ExchangeWireModel", name := "answer", desc := "(II)I" } : Jvm.MethodName) ∈ xws := xw 759 (by decide +kernel)
theorem lm_L_33 : Jvm.Cond.methodLink "ExchangeWireLaw" (33 : Nat) ({ cls := "ExchangeWireModel", name := "reset", desc := "(I)I" } : Jvm.MethodName) ∈ xws := xw 763 (by decide +kernel)
theorem lm_L_38 : Jvm.Cond.methodLink "ExchangeWireLaw" (38 : Nat) ({ cls := "ExchangeWireModel", name := "offline", desc := "(IIII)I" } : Jvm.MethodName) ∈ xws := xw 767 (by decide +kernel)
theorem lm_L_42 : Jvm.Cond.methodLink "ExchangeWireLaw" (42 : Nat) ({ cls := "ExchangeWireModel", name := "join", desc := "(I)I" } : Jvm.MethodName) ∈ xws := xw 771 (by decide +kernel)
theorem lm_L_46 : Jvm.Cond.methodLink "ExchangeWireLaw" (46 : Nat) ({ cls := "ExchangeWireModel", name := "owes", desc := "(II)I" } : Jvm.MethodName) ∈ xws := xw 775 (by decide +kernel)
theorem ld_X6_176 : Jvm.Cond.constant "ExchangeWireModel" (176 : Nat) (100000 : Int32) ∈ xws := xw 779 (by decide +kernel)
theorem lm_L_51 : Jvm.Cond.methodLink "ExchangeWireLaw" (51 : Nat) ({ cls := "ExchangeWireModel", name := "acts", desc := "()I" } : Jvm.MethodName) ∈ xws := xw 780 (by decide +kernel)
theorem lm_L_55 : Jvm.Cond.methodLink "ExchangeWireLaw" (55 : Nat) ({ cls := "ExchangeWireModel", name := "act", desc := "(II)I" } : Jvm.MethodName) ∈ xws := xw 784 (by decide +kernel)
theorem lm_L_59 : Jvm.Cond.methodLink "ExchangeWireLaw" (59 : Nat) ({ cls := "ExchangeWireModel", name := "sum", desc := "(I)I" } : Jvm.MethodName) ∈ xws := xw 788 (by decide +kernel)
theorem lm_L_63 : Jvm.Cond.methodLink "ExchangeWireLaw" (63 : Nat) ({ cls := "ExchangeWireModel", name := "state", desc := "(II)I" } : Jvm.MethodName) ∈ xws := xw 792 (by decide +kernel)
theorem lm_L_67 : Jvm.Cond.methodLink "ExchangeWireLaw" (67 : Nat) ({ cls := "ExchangeWireModel", name := "waits", desc := "(II)I" } : Jvm.MethodName) ∈ xws := xw 796 (by decide +kernel)
end
section
/-! Rows of what makes cells: the block grows at its end (fr = true). -/
section SXM
variable {l : Launch} {R : Room} {X : xD} {Ex : State → Prop} {K : xK} {n0 : Nat} {Z : List Frame → Array Value → State → State → Prop} {pc : Nat} {L : List (Option Value)} {st : List Value} {sh sh' : List xS} {μ : xM} {cs ss : Nat}
theorem xH_push {n0 : Nat} {sh : List xS} {μ : xM} {s : State} {H H1 : Heap} {locs : List Loc} {X : xD} (hH : xH X true n0 sh μ s H locs) (s' : xS) (f : Nat → Int32) (hz : H1.size = H.size + 1) (ho : ∀ q, q < H.size → H1[q]? = H[q]?) (hat : va_at X.1.1 classes (H.size, xpic X s' f) H1) : xH X true n0 (sh ++ [s']) (va_up μ sh.length f) s H1 locs := by
  obtain ⟨hP, hS, hn, -, hf⟩ := hH
  have hsz := hf rfl
  refine ⟨?_, ⟨Nat.le_trans hS.1 (by omega), fun q h1 h2 => (ho q (Nat.lt_of_lt_of_le h1 hS.1)).trans (hS.2.1 q h1 h2), hS.2.2⟩, by rw [List.length_append]; omega, fun h => (by cases h), fun _ => by rw [hz, hsz, List.length_append]; rfl⟩
  rw [← xwl_push]
  refine va_P.app (hP.kept fun k q hq => ho q.1 ((hP k q hq).lt)) (fun k q hk => ?_)
  have h0 : k < 1 := (List.getElem?_eq_some_iff.mp hk).1
  rw [show k = 0 by omega] at hk
  cases hk
  rw [hsz] at hat
  exact hat
theorem sx_objInit {fr : Bool} {i k : Nat} (hd : decode K.2.1 pc = .ok (.invokespecial i, 3)) (hl : Cond.methodLink K.1 i Lib.objectInit ∈ xws) (hi : Cond.instanceMethod Lib.objectInit ∈ xws) (hc : Cond.code Lib.objectInit ⟨#[0xb1]⟩ 1 none ∈ xws) (hf : 1 ≤ R.frames) (h8 : (st.map fun v => v.category).sum + 12 ≤ R.locals)
    (kk : sx l R X Ex fr K n0 Z (pc + 3) L st sh μ cs ss) : sx l R X Ex fr K n0 Z pc L (.ref k :: st) sh μ cs ss := by
  intro p e s m args below meth c H locs ls hC hH hL
  have hts := hC.2.2.2.2.2.2.1
  refine W.objInit hC.1 hC.2.1 hC.2.2.2.2.2.1 (hts _ hl) (hts _ hi) (hts _ hc) rfl (hL.1.1.trans hC.2.2.1.symm) rfl hd hf ?_ (kk p e s m args below meth c H locs ls hC hH hL)
  simpa [JFrame.monitorRoom] using h8
theorem sx_new {C : String} {T : u_T} {N ci i : Nat} {fl : List (Option (Option Nat))} (hd : decode K.2.1 pc = .ok (.new i, 3)) (hc : classes[ci]? = some (C, T, N)) (hcl : Cond.classLink K.1 i C ∈ xws) (hinst : Cond.instantiable C N ∈ xws) (hini : Cond.initialized C ∈ xws) (hfs : ∀ (b j : Nat), j < N → ∀ t, parseFieldDescriptor (T j).2.2.1 = some t → defaultValue t = vp_V (xfs b (fun _ => 0) fl 0) j) (hsh : sh ++ [.inl (ci, fl)] = sh') (h1 : cs + 1 ≤ R.cells) (h2 : ss + N ≤ R.slots)
    (kk : sx l R X Ex true K n0 Z (pc + 3) L (.ref (X.2 + sh.length) :: st) sh' (va_up μ sh.length (fun _ => 0)) (cs + 1) (ss + N)) : sx l R X Ex true K n0 Z pc L st sh μ cs ss := by
  intro p e s m args below meth c H locs ls hC hH hL
  subst hsh
  have hts := hC.2.2.2.2.2.2.1
  obtain ⟨hin, ty, hty, -⟩ := xcl_ok ci _ hc
  have hKn := hC.2.2.2.2.2.2.2.2.1.1 ci _ hc
  have hsz := hH.2.2.2.2 rfl
  refine W.newcK hC.1 hC.2.1 hC.2.2.2.2.2.1 (hts _ hcl) (hts _ hinst) (hts _ hini) rfl hd h1 h2 hKn.2.1 hsz fun H1 kC hkC e1 z1 o1 => ?_
  refine kk p e s m args below meth c H1 locs ls hC (xH_push hH (.inl (ci, fl)) (fun _ => 0) (by rw [z1, hsz]) (by rw [hsz]; exact o1) ?_) hL
  rw [hsz]
  exact ⟨_, hc, (u_born ty hts hin hKn hkC e1 hty).to (fun j hj => hfs X.2 j hj _ (hty j hj))⟩
theorem sx_newa {at' : ArrayType} {ti N : Nat} {n : Int32} {ty : FieldType} (hd : decode K.2.1 pc = .ok (.newarray at', 2)) (harr : Cond.arrayClass (newarray.typeOf at') ∈ xws) (hty : newarray.typeOf at' = ty) (ht : xty[ti]? = some ty) (hdv : defaultValue ty = if ti = 0 then .long 0 else .int 0) (hn : ¬ n < 0) (hN : n.toNatClampNeg = N) (hb : N * componentBytes ty ≤ 536870912) (hsh : sh ++ [.inr (ti, N, none)] = sh') (h1 : cs + 1 ≤ R.cells) (h2 : ss + N ≤ R.slots) (hra : ∀ (U : State) (cA : ClassId), va_RA U cA ty → U.vm.findClass ("[" ++ ty.toString) = some cA)
    (kk : sx l R X Ex true K n0 Z (pc + 2) L (.ref (X.2 + sh.length) :: st) sh' (va_up μ sh.length (fun _ => 0)) (cs + 1) (ss + N)) : sx l R X Ex true K n0 Z pc L (.int n :: st) sh μ cs ss := by
  intro p e s m args below meth c H locs ls hC hH hL
  subst hsh
  subst hty
  have hts := hC.2.2.2.2.2.2.1
  have hsz := hH.2.2.2.2 rfl
  have hKt := hC.2.2.2.2.2.2.2.2.1.2 ti _ (xtys_at ht)
  refine va_newaK hC.1 hC.2.1 (hts _ harr) rfl hd rfl hn hN hb h1 h2 hsz fun H1 cA e1 z1 o1 _ hNm => ?_
  have hcA : cA = X.1.2 ti := Option.some.inj (hNm.symm.trans (hra _ _ hKt.2))
  subst hcA
  refine kk p e s m args below meth c H1 locs ls hC (xH_push hH (.inr (ti, N, none)) (fun _ => 0) (by rw [z1, hsz]) (by rw [hsz]; exact o1) ?_) hL
  rw [hsz]
  show H1[X.2 + sh.length]? = some (vp_cell _ _)
  rw [e1, hdv]
  by_cases h0 : ti = 0
  · subst h0
    rfl
  · simp only [h0, if_false]
    rfl
theorem sx_anewa {C : String} {i ti N : Nat} {n : Int32} (hd : decode K.2.1 pc = .ok (.anewarray i, 3)) (hcl : Cond.classLink K.1 i C ∈ xws) (ho : ∀ s : State, Ex s → va_AO C s) (ht : xty[ti]? = some (.object C)) (hn : ¬ n < 0) (hN : n.toNatClampNeg = N) (hb : N * 4 ≤ 536870912) (hsh : sh ++ [.inr (ti, N, some [])] = sh') (h1 : cs + 1 ≤ R.cells) (h2 : ss + N ≤ R.slots)
    (kk : sx l R X Ex true K n0 Z (pc + 3) L (.ref (X.2 + sh.length) :: st) sh' (va_up μ sh.length (fun _ => 0)) (cs + 1) (ss + N)) : sx l R X Ex true K n0 Z pc L (.int n :: st) sh μ cs ss := by
  intro p e s m args below meth c H locs ls hC hH hL
  subst hsh
  subst hN
  have hts := hC.2.2.2.2.2.2.1
  have hsz := hH.2.2.2.2 rfl
  obtain ⟨-, kA', comp', r1, r2, r3, r4⟩ := hC.2.2.2.2.2.2.2.2.1.2 ti _ (xtys_at ht)
  refine W.anew hC.1 hC.2.1 hC.2.2.2.2.2.1 (hts _ hcl) (va_AO.use (ho s hC.2.2.2.2.2.2.2.2.2.1)) rfl hd rfl hn hb h1 h2 fun cA kA comp q1 q2 q3 q4 => ?_
  have hcA : cA = X.1.2 ti := Option.some.inj (q1.symm.trans r4)
  subst hcA
  rw [hsz]
  refine kk p e s m args below meth c _ locs ls hC (xH_push hH (.inr (ti, n.toNatClampNeg, some [])) (fun _ => 0) (by simp) (fun q hq => by rw [Array.getElem?_push, if_neg (Nat.ne_of_lt hq)]) ?_) hL
  show (H.push _)[H.size]? = some (vp_cell _ _)
  rw [vp_cell_q, Array.getElem?_push, if_pos rfl, arrV_new]
  rfl
theorem sx_aast {k r ti n ci N : Nat} {C : String} {T : u_T} {g : List (Option Nat)} {fl : List (Option (Option Nat))} {i : Int32} (hd : decode K.2.1 pc = .ok (.aastore, 1)) (hs : sh[k]? = some (.inr (ti, n, some g))) (ht : xty[ti]? = some (.object C)) (hc : classes[ci]? = some (C, T, N)) (hv : sh[r]? = some (.inl (ci, fl))) (hin : vp_in i n) (hg : i.toNatClampNeg = g.length) (hsh : sh.set k (.inr (ti, n, some (g ++ [some r]))) = sh')
    (kk : ∀ μ' : xM, μ' = va_up μ k (μ k) → sx l R X Ex true K n0 Z (pc + 1) L st sh' μ' cs ss) : sx l R X Ex true K n0 Z pc L (.ref (X.2 + r) :: .int i :: .ref (X.2 + k) :: st) sh μ cs ss := by
  intro p e s m args below meth c H locs ls hC hH hL
  subst hsh
  have hK := hC.2.2.2.2.2.2.2.2.1
  have hkl := (List.getElem?_eq_some_iff.mp hs).1
  have hlt : i.toNatClampNeg < n := Nat.not_le.mp fun q => hin (Or.inr q)
  have h0 : ¬ i < 0 := fun q => hin (Or.inl q)
  obtain ⟨r', hr', cellV, g1, g2, g3, -⟩ := hH.1 r _ (xwl_get μ hv)
  have hcls := (hK.1 ci _ hc).2
  obtain ⟨kA, comp, k1, k2, k3, -⟩ := (hK.2 ti _ (xtys_at ht)).2
  have hcomp : comp = X.1.1.1 ci := Option.some.inj (k3.symm.trans hcls.1)
  subst hcomp
  obtain ⟨kC, hkC, -⟩ := hcls.2
  have hcell : H[X.2 + k]? = some (arrV (X.1.2 ti) n (fun j => va_rf ((g.getD j none).map (X.2 + ·)))) := hH.1 k _ (xwl_get μ hs)
  refine W.aast hC.1 hC.2.1 hcell (fun q h => by cases h) (fun h => by cases h) k1 k2 rfl hkC ⟨h0, by rw [arrV_size]; exact hlt⟩ g1 (fun q h => by rw [g3] at h; cases h) (by rw [g2]; exact hkC) (by rw [g2]; exact va_assign hcls) rfl rfl hd fun H1 e z oq => ?_
  have hD := xwl_D (μ := μ) (X := X) (sh := sh) (n0 := n0) (fr := true) (fun h => by cases h)
  refine kk _ rfl p _ s m args below meth c H1 _ ls hC (xH_set hH (s' := .inr (ti, n, some (g ++ [some r]))) (f := μ k) hkl rfl z (hH.1.set hD (xwl_get μ hs) ?_ oq) (hH.2.1.put z oq (hD.2 k _ (xwl_get μ hs)))) hL
  show H1[X.2 + k]? = some (vp_cell _ _)
  rw [e, vp_cell_q, arrV_store]
  congr 2
  funext q
  by_cases hq : q = i.toNatClampNeg
  · subst hq
    simp [updV, hg, va_rf]
  · by_cases hq2 : q < g.length
    · simp [updV, hq, List.getElem?_append_left hq2]
    · have h3 : g[q]? = none := List.getElem?_eq_none (by omega)
      have h4 : (g ++ [some r])[q]? = none := List.getElem?_eq_none (by simp; omega)
      simp [updV, hq, h3, h4]
end SXM
end
section
theorem dX0_init_0 : decode cX0_init 0 = .ok (.aload_n 0, 1) := by decide +kernel
theorem dX0_init_1 : decode cX0_init 1 = .ok (.invokespecial 3, 3) := by decide +kernel
theorem dX0_init_4 : decode cX0_init 4 = .ok (.aload_n 0, 1) := by decide +kernel
theorem dX0_init_5 : decode cX0_init 5 = .ok (.bipush 30, 2) := by decide +kernel
theorem dX0_init_7 : decode cX0_init 7 = .ok (.newarray .int, 2) := by decide +kernel
theorem dX0_init_9 : decode cX0_init 9 = .ok (.putfield 9, 3) := by decide +kernel
theorem dX0_init_12 : decode cX0_init 12 = .ok (.aload_n 0, 1) := by decide +kernel
theorem dX0_init_13 : decode cX0_init 13 = .ok (.bipush 30, 2) := by decide +kernel
theorem dX0_init_15 : decode cX0_init 15 = .ok (.newarray .int, 2) := by decide +kernel
theorem dX0_init_17 : decode cX0_init 17 = .ok (.putfield 15, 3) := by decide +kernel
theorem dX0_init_20 : decode cX0_init 20 = .ok (.aload_n 0, 1) := by decide +kernel
theorem dX0_init_21 : decode cX0_init 21 = .ok (.bipush 30, 2) := by decide +kernel
theorem dX0_init_23 : decode cX0_init 23 = .ok (.newarray .int, 2) := by decide +kernel
theorem dX0_init_25 : decode cX0_init 25 = .ok (.putfield 18, 3) := by decide +kernel
theorem dX0_init_28 : decode cX0_init 28 = .ok (.aload_n 0, 1) := by decide +kernel
theorem dX0_init_29 : decode cX0_init 29 = .ok (.bipush 30, 2) := by decide +kernel
theorem dX0_init_31 : decode cX0_init 31 = .ok (.bipush 30, 2) := by decide +kernel
theorem dX0_init_33 : decode cX0_init 33 = .ok (.multianewarray 21 2, 4) := by decide +kernel
theorem dX0_init_37 : decode cX0_init 37 = .ok (.putfield 23, 3) := by decide +kernel
theorem dX0_init_40 : decode cX0_init 40 = .ok (.aload_n 0, 1) := by decide +kernel
theorem dX0_init_41 : decode cX0_init 41 = .ok (.bipush 30, 2) := by decide +kernel
theorem dX0_init_43 : decode cX0_init 43 = .ok (.newarray .int, 2) := by decide +kernel
theorem dX0_init_45 : decode cX0_init 45 = .ok (.putfield 26, 3) := by decide +kernel
theorem dX0_init_48 : decode cX0_init 48 = .ok (.iconst 0, 1) := by decide +kernel
theorem dX0_init_49 : decode cX0_init 49 = .ok (.istore_n 1, 1) := by decide +kernel
theorem dX0_init_50 : decode cX0_init 50 = .ok (.iload_n 1, 1) := by decide +kernel
theorem dX0_init_51 : decode cX0_init 51 = .ok (.bipush 30, 2) := by decide +kernel
theorem dX0_init_53 : decode cX0_init 53 = .ok (.if_icmp .ge 16, 3) := by decide +kernel
theorem dX0_init_56 : decode cX0_init 56 = .ok (.aload_n 0, 1) := by decide +kernel
theorem dX0_init_57 : decode cX0_init 57 = .ok (.getfield 15, 3) := by decide +kernel
theorem dX0_init_60 : decode cX0_init 60 = .ok (.iload_n 1, 1) := by decide +kernel
theorem dX0_init_61 : decode cX0_init 61 = .ok (.iconst (-1), 1) := by decide +kernel
theorem dX0_init_62 : decode cX0_init 62 = .ok (.iastore, 1) := by decide +kernel
theorem dX0_init_63 : decode cX0_init 63 = .ok (.iinc 1 1, 3) := by decide +kernel
theorem dX0_init_66 : decode cX0_init 66 = .ok (.goto (-16), 3) := by decide +kernel
theorem dX0_init_69 : decode cX0_init 69 = .ok (.return_, 1) := by decide +kernel
theorem dX0_decide_0 : decode cX0_decide 0 = .ok (.aload_n 1, 1) := by decide +kernel
theorem dX0_decide_1 : decode cX0_decide 1 = .ok (.getfield 29, 3) := by decide +kernel
theorem dX0_decide_4 : decode cX0_decide 4 = .ok (.lookupswitch 113 #[(66, 65), (67, 52), (70, 74), (72, 87), (82, 100)], 52) := by decide +kernel
theorem dX0_decide_56 : decode cX0_decide 56 = .ok (.aload_n 0, 1) := by decide +kernel
theorem dX0_decide_57 : decode cX0_decide 57 = .ok (.aload_n 1, 1) := by decide +kernel
theorem dX0_decide_58 : decode cX0_decide 58 = .ok (.getfield 35, 3) := by decide +kernel
theorem dX0_decide_61 : decode cX0_decide 61 = .ok (.aload_n 1, 1) := by decide +kernel
theorem dX0_decide_62 : decode cX0_decide 62 = .ok (.getfield 38, 3) := by decide +kernel
theorem dX0_decide_65 : decode cX0_decide 65 = .ok (.invokevirtual 41, 3) := by decide +kernel
theorem dX0_decide_68 : decode cX0_decide 68 = .ok (.ireturn, 1) := by decide +kernel
theorem dX0_decide_69 : decode cX0_decide 69 = .ok (.aload_n 0, 1) := by decide +kernel
theorem dX0_decide_70 : decode cX0_decide 70 = .ok (.aload_n 1, 1) := by decide +kernel
theorem dX0_decide_71 : decode cX0_decide 71 = .ok (.getfield 38, 3) := by decide +kernel
theorem dX0_decide_74 : decode cX0_decide 74 = .ok (.invokevirtual 45, 3) := by decide +kernel
theorem dX0_decide_77 : decode cX0_decide 77 = .ok (.ireturn, 1) := by decide +kernel
theorem dX0_decide_78 : decode cX0_decide 78 = .ok (.aload_n 0, 1) := by decide +kernel
theorem dX0_decide_79 : decode cX0_decide 79 = .ok (.aload_n 1, 1) := by decide +kernel
theorem dX0_decide_80 : decode cX0_decide 80 = .ok (.getfield 35, 3) := by decide +kernel
theorem dX0_decide_83 : decode cX0_decide 83 = .ok (.aload_n 1, 1) := by decide +kernel
theorem dX0_decide_84 : decode cX0_decide 84 = .ok (.getfield 49, 3) := by decide +kernel
theorem dX0_decide_87 : decode cX0_decide 87 = .ok (.invokevirtual 52, 3) := by decide +kernel
theorem dX0_decide_90 : decode cX0_decide 90 = .ok (.ireturn, 1) := by decide +kernel
theorem dX0_decide_91 : decode cX0_decide 91 = .ok (.aload_n 0, 1) := by decide +kernel
theorem dX0_decide_92 : decode cX0_decide 92 = .ok (.aload_n 1, 1) := by decide +kernel
theorem dX0_decide_93 : decode cX0_decide 93 = .ok (.getfield 35, 3) := by decide +kernel
theorem dX0_decide_96 : decode cX0_decide 96 = .ok (.aload_n 1, 1) := by decide +kernel
theorem dX0_decide_97 : decode cX0_decide 97 = .ok (.getfield 38, 3) := by decide +kernel
theorem dX0_decide_100 : decode cX0_decide 100 = .ok (.invokevirtual 55, 3) := by decide +kernel
theorem dX0_decide_103 : decode cX0_decide 103 = .ok (.ireturn, 1) := by decide +kernel
theorem dX0_decide_104 : decode cX0_decide 104 = .ok (.aload_n 0, 1) := by decide +kernel
theorem dX0_decide_105 : decode cX0_decide 105 = .ok (.aload_n 1, 1) := by decide +kernel
theorem dX0_decide_106 : decode cX0_decide 106 = .ok (.getfield 35, 3) := by decide +kernel
theorem dX0_decide_109 : decode cX0_decide 109 = .ok (.aload_n 1, 1) := by decide +kernel
theorem dX0_decide_110 : decode cX0_decide 110 = .ok (.getfield 38, 3) := by decide +kernel
theorem dX0_decide_113 : decode cX0_decide 113 = .ok (.invokevirtual 58, 3) := by decide +kernel
theorem dX0_decide_116 : decode cX0_decide 116 = .ok (.ireturn, 1) := by decide +kernel
theorem dX0_decide_117 : decode cX0_decide 117 = .ok (.iconst 1, 1) := by decide +kernel
theorem dX0_decide_118 : decode cX0_decide 118 = .ok (.ireturn, 1) := by decide +kernel
theorem dX0_figureFor_0 : decode cX0_figureFor 0 = .ok (.aload_n 1, 1) := by decide +kernel
theorem dX0_figureFor_1 : decode cX0_figureFor 1 = .ok (.getfield 29, 3) := by decide +kernel
theorem dX0_figureFor_4 : decode cX0_figureFor 4 = .ok (.tableswitch 152 66 82 #[93, 84, 152, 152, 103, 152, 93, 113, 152, 152, 152, 152, 152, 152, 103, 152, 142], 84) := by decide +kernel
theorem dX0_figureFor_88 : decode cX0_figureFor 88 = .ok (.aload_n 0, 1) := by decide +kernel
theorem dX0_figureFor_89 : decode cX0_figureFor 89 = .ok (.aload_n 1, 1) := by decide +kernel
theorem dX0_figureFor_90 : decode cX0_figureFor 90 = .ok (.getfield 35, 3) := by decide +kernel
theorem dX0_figureFor_93 : decode cX0_figureFor 93 = .ok (.invokevirtual 61, 3) := by decide +kernel
theorem dX0_figureFor_96 : decode cX0_figureFor 96 = .ok (.ireturn, 1) := by decide +kernel
theorem dX0_figureFor_97 : decode cX0_figureFor 97 = .ok (.aload_n 0, 1) := by decide +kernel
theorem dX0_figureFor_98 : decode cX0_figureFor 98 = .ok (.getfield 26, 3) := by decide +kernel
theorem dX0_figureFor_101 : decode cX0_figureFor 101 = .ok (.aload_n 1, 1) := by decide +kernel
theorem dX0_figureFor_102 : decode cX0_figureFor 102 = .ok (.getfield 38, 3) := by decide +kernel
theorem dX0_figureFor_105 : decode cX0_figureFor 105 = .ok (.iaload, 1) := by decide +kernel
theorem dX0_figureFor_106 : decode cX0_figureFor 106 = .ok (.ireturn, 1) := by decide +kernel
theorem dX0_figureFor_107 : decode cX0_figureFor 107 = .ok (.aload_n 0, 1) := by decide +kernel
theorem dX0_figureFor_108 : decode cX0_figureFor 108 = .ok (.getfield 9, 3) := by decide +kernel
theorem dX0_figureFor_111 : decode cX0_figureFor 111 = .ok (.aload_n 1, 1) := by decide +kernel
theorem dX0_figureFor_112 : decode cX0_figureFor 112 = .ok (.getfield 35, 3) := by decide +kernel
theorem dX0_figureFor_115 : decode cX0_figureFor 115 = .ok (.iaload, 1) := by decide +kernel
theorem dX0_figureFor_116 : decode cX0_figureFor 116 = .ok (.ireturn, 1) := by decide +kernel
theorem dX0_figureFor_117 : decode cX0_figureFor 117 = .ok (.aload_n 0, 1) := by decide +kernel
theorem dX0_figureFor_118 : decode cX0_figureFor 118 = .ok (.getfield 15, 3) := by decide +kernel
theorem dX0_figureFor_121 : decode cX0_figureFor 121 = .ok (.aload_n 1, 1) := by decide +kernel
theorem dX0_figureFor_122 : decode cX0_figureFor 122 = .ok (.getfield 38, 3) := by decide +kernel
theorem dX0_figureFor_125 : decode cX0_figureFor 125 = .ok (.iaload, 1) := by decide +kernel
theorem dX0_figureFor_126 : decode cX0_figureFor 126 = .ok (.iconst (-1), 1) := by decide +kernel
theorem dX0_figureFor_127 : decode cX0_figureFor 127 = .ok (.if_icmp .ne 7, 3) := by decide +kernel
theorem dX0_figureFor_130 : decode cX0_figureFor 130 = .ok (.iconst 0, 1) := by decide +kernel
theorem dX0_figureFor_131 : decode cX0_figureFor 131 = .ok (.goto 14, 3) := by decide +kernel
theorem dX0_figureFor_134 : decode cX0_figureFor 134 = .ok (.aload_n 0, 1) := by decide +kernel
theorem dX0_figureFor_135 : decode cX0_figureFor 135 = .ok (.getfield 15, 3) := by decide +kernel
theorem dX0_figureFor_138 : decode cX0_figureFor 138 = .ok (.aload_n 1, 1) := by decide +kernel
theorem dX0_figureFor_139 : decode cX0_figureFor 139 = .ok (.getfield 38, 3) := by decide +kernel
theorem dX0_figureFor_142 : decode cX0_figureFor 142 = .ok (.iaload, 1) := by decide +kernel
theorem dX0_figureFor_143 : decode cX0_figureFor 143 = .ok (.iconst 1, 1) := by decide +kernel
theorem dX0_figureFor_144 : decode cX0_figureFor 144 = .ok (.iadd, 1) := by decide +kernel
theorem dX0_figureFor_145 : decode cX0_figureFor 145 = .ok (.ireturn, 1) := by decide +kernel
theorem dX0_figureFor_146 : decode cX0_figureFor 146 = .ok (.aload_n 0, 1) := by decide +kernel
theorem dX0_figureFor_147 : decode cX0_figureFor 147 = .ok (.getfield 18, 3) := by decide +kernel
theorem dX0_figureFor_150 : decode cX0_figureFor 150 = .ok (.aload_n 1, 1) := by decide +kernel
theorem dX0_figureFor_151 : decode cX0_figureFor 151 = .ok (.getfield 38, 3) := by decide +kernel
theorem dX0_figureFor_154 : decode cX0_figureFor 154 = .ok (.iaload, 1) := by decide +kernel
theorem dX0_figureFor_155 : decode cX0_figureFor 155 = .ok (.ireturn, 1) := by decide +kernel
theorem dX0_figureFor_156 : decode cX0_figureFor 156 = .ok (.iconst 0, 1) := by decide +kernel
theorem dX0_figureFor_157 : decode cX0_figureFor 157 = .ok (.ireturn, 1) := by decide +kernel
theorem dX0_lend_0 : decode cX0_lend 0 = .ok (.aload_n 0, 1) := by decide +kernel
theorem dX0_lend_1 : decode cX0_lend 1 = .ok (.getfield 26, 3) := by decide +kernel
theorem dX0_lend_4 : decode cX0_lend 4 = .ok (.iload_n 2, 1) := by decide +kernel
theorem dX0_lend_5 : decode cX0_lend 5 = .ok (.iaload, 1) := by decide +kernel
theorem dX0_lend_6 : decode cX0_lend 6 = .ok (.ifCond .eq 15, 3) := by decide +kernel
theorem dX0_lend_9 : decode cX0_lend 9 = .ok (.aload_n 0, 1) := by decide +kernel
theorem dX0_lend_10 : decode cX0_lend 10 = .ok (.getfield 23, 3) := by decide +kernel
theorem dX0_lend_13 : decode cX0_lend 13 = .ok (.iload_n 2, 1) := by decide +kernel
theorem dX0_lend_14 : decode cX0_lend 14 = .ok (.aaload, 1) := by decide +kernel
theorem dX0_lend_15 : decode cX0_lend 15 = .ok (.iconst 0, 1) := by decide +kernel
theorem dX0_lend_16 : decode cX0_lend 16 = .ok (.iaload, 1) := by decide +kernel
theorem dX0_lend_17 : decode cX0_lend 17 = .ok (.iload_n 1, 1) := by decide +kernel
theorem dX0_lend_18 : decode cX0_lend 18 = .ok (.if_icmp .ne 7, 3) := by decide +kernel
theorem dX0_lend_21 : decode cX0_lend 21 = .ok (.iconst 1, 1) := by decide +kernel
theorem dX0_lend_22 : decode cX0_lend 22 = .ok (.goto 4, 3) := by decide +kernel
theorem dX0_lend_25 : decode cX0_lend 25 = .ok (.iconst 0, 1) := by decide +kernel
theorem dX0_lend_26 : decode cX0_lend 26 = .ok (.istore_n 3, 1) := by decide +kernel
theorem dX0_lend_27 : decode cX0_lend 27 = .ok (.aload_n 0, 1) := by decide +kernel
theorem dX0_lend_28 : decode cX0_lend 28 = .ok (.getfield 15, 3) := by decide +kernel
theorem dX0_lend_31 : decode cX0_lend 31 = .ok (.iload_n 2, 1) := by decide +kernel
theorem dX0_lend_32 : decode cX0_lend 32 = .ok (.iaload, 1) := by decide +kernel
theorem dX0_lend_33 : decode cX0_lend 33 = .ok (.iconst (-1), 1) := by decide +kernel
theorem dX0_lend_34 : decode cX0_lend 34 = .ok (.if_icmp .ne 19, 3) := by decide +kernel
theorem dX0_lend_37 : decode cX0_lend 37 = .ok (.iload_n 3, 1) := by decide +kernel
theorem dX0_lend_38 : decode cX0_lend 38 = .ok (.ifCond .eq 15, 3) := by decide +kernel
theorem dX0_lend_41 : decode cX0_lend 41 = .ok (.aload_n 0, 1) := by decide +kernel
theorem dX0_lend_42 : decode cX0_lend 42 = .ok (.getfield 9, 3) := by decide +kernel
theorem dX0_lend_45 : decode cX0_lend 45 = .ok (.iload_n 1, 1) := by decide +kernel
theorem dX0_lend_46 : decode cX0_lend 46 = .ok (.iaload, 1) := by decide +kernel
theorem dX0_lend_47 : decode cX0_lend 47 = .ok (.sipush 500, 3) := by decide +kernel
theorem dX0_lend_50 : decode cX0_lend 50 = .ok (.if_icmp .le 5, 3) := by decide +kernel
theorem dX0_lend_53 : decode cX0_lend 53 = .ok (.iconst 0, 1) := by decide +kernel
theorem dX0_lend_54 : decode cX0_lend 54 = .ok (.ireturn, 1) := by decide +kernel
theorem dX0_lend_55 : decode cX0_lend 55 = .ok (.aload_n 0, 1) := by decide +kernel
theorem dX0_lend_56 : decode cX0_lend 56 = .ok (.iload_n 2, 1) := by decide +kernel
theorem dX0_lend_57 : decode cX0_lend 57 = .ok (.invokevirtual 65, 3) := by decide +kernel
theorem dX0_lend_60 : decode cX0_lend 60 = .ok (.aload_n 0, 1) := by decide +kernel
theorem dX0_lend_61 : decode cX0_lend 61 = .ok (.getfield 15, 3) := by decide +kernel
theorem dX0_lend_64 : decode cX0_lend 64 = .ok (.iload_n 2, 1) := by decide +kernel
theorem dX0_lend_65 : decode cX0_lend 65 = .ok (.iload_n 1, 1) := by decide +kernel
theorem dX0_lend_66 : decode cX0_lend 66 = .ok (.iastore, 1) := by decide +kernel
theorem dX0_lend_67 : decode cX0_lend 67 = .ok (.aload_n 0, 1) := by decide +kernel
theorem dX0_lend_68 : decode cX0_lend 68 = .ok (.getfield 18, 3) := by decide +kernel
theorem dX0_lend_71 : decode cX0_lend 71 = .ok (.iload_n 2, 1) := by decide +kernel
theorem dX0_lend_72 : decode cX0_lend 72 = .ok (.iconst 0, 1) := by decide +kernel
theorem dX0_lend_73 : decode cX0_lend 73 = .ok (.iastore, 1) := by decide +kernel
theorem dX0_lend_74 : decode cX0_lend 74 = .ok (.iconst 1, 1) := by decide +kernel
theorem dX0_lend_75 : decode cX0_lend 75 = .ok (.ireturn, 1) := by decide +kernel
theorem dX0_bringBack_0 : decode cX0_bringBack 0 = .ok (.aload_n 0, 1) := by decide +kernel
theorem dX0_bringBack_1 : decode cX0_bringBack 1 = .ok (.getfield 15, 3) := by decide +kernel
theorem dX0_bringBack_4 : decode cX0_bringBack 4 = .ok (.iload_n 1, 1) := by decide +kernel
theorem dX0_bringBack_5 : decode cX0_bringBack 5 = .ok (.iaload, 1) := by decide +kernel
theorem dX0_bringBack_6 : decode cX0_bringBack 6 = .ok (.iconst (-1), 1) := by decide +kernel
theorem dX0_bringBack_7 : decode cX0_bringBack 7 = .ok (.if_icmp .ne 5, 3) := by decide +kernel
theorem dX0_bringBack_10 : decode cX0_bringBack 10 = .ok (.iconst 0, 1) := by decide +kernel
theorem dX0_bringBack_11 : decode cX0_bringBack 11 = .ok (.ireturn, 1) := by decide +kernel
theorem dX0_bringBack_12 : decode cX0_bringBack 12 = .ok (.aload_n 0, 1) := by decide +kernel
theorem dX0_bringBack_13 : decode cX0_bringBack 13 = .ok (.getfield 15, 3) := by decide +kernel
theorem dX0_bringBack_16 : decode cX0_bringBack 16 = .ok (.iload_n 1, 1) := by decide +kernel
theorem dX0_bringBack_17 : decode cX0_bringBack 17 = .ok (.iconst (-1), 1) := by decide +kernel
theorem dX0_bringBack_18 : decode cX0_bringBack 18 = .ok (.iastore, 1) := by decide +kernel
theorem dX0_bringBack_19 : decode cX0_bringBack 19 = .ok (.iconst 1, 1) := by decide +kernel
theorem dX0_bringBack_20 : decode cX0_bringBack 20 = .ok (.ireturn, 1) := by decide +kernel
theorem dX0_pay_0 : decode cX0_pay 0 = .ok (.iload_n 2, 1) := by decide +kernel
theorem dX0_pay_1 : decode cX0_pay 1 = .ok (.aload_n 0, 1) := by decide +kernel
theorem dX0_pay_2 : decode cX0_pay 2 = .ok (.getfield 9, 3) := by decide +kernel
theorem dX0_pay_5 : decode cX0_pay 5 = .ok (.iload_n 1, 1) := by decide +kernel
theorem dX0_pay_6 : decode cX0_pay 6 = .ok (.iaload, 1) := by decide +kernel
theorem dX0_pay_7 : decode cX0_pay 7 = .ok (.if_icmp .le 5, 3) := by decide +kernel
theorem dX0_pay_10 : decode cX0_pay 10 = .ok (.iconst 0, 1) := by decide +kernel
theorem dX0_pay_11 : decode cX0_pay 11 = .ok (.ireturn, 1) := by decide +kernel
theorem dX0_pay_12 : decode cX0_pay 12 = .ok (.aload_n 0, 1) := by decide +kernel
theorem dX0_pay_13 : decode cX0_pay 13 = .ok (.getfield 9, 3) := by decide +kernel
theorem dX0_pay_16 : decode cX0_pay 16 = .ok (.iload_n 1, 1) := by decide +kernel
theorem dX0_pay_17 : decode cX0_pay 17 = .ok (.dup2, 1) := by decide +kernel
theorem dX0_pay_18 : decode cX0_pay 18 = .ok (.iaload, 1) := by decide +kernel
theorem dX0_pay_19 : decode cX0_pay 19 = .ok (.iload_n 2, 1) := by decide +kernel
theorem dX0_pay_20 : decode cX0_pay 20 = .ok (.isub, 1) := by decide +kernel
theorem dX0_pay_21 : decode cX0_pay 21 = .ok (.iastore, 1) := by decide +kernel
theorem dX0_pay_22 : decode cX0_pay 22 = .ok (.iconst 1, 1) := by decide +kernel
theorem dX0_pay_23 : decode cX0_pay 23 = .ok (.ireturn, 1) := by decide +kernel
theorem dX0_queueUp_0 : decode cX0_queueUp 0 = .ok (.aload_n 0, 1) := by decide +kernel
theorem dX0_queueUp_1 : decode cX0_queueUp 1 = .ok (.getfield 15, 3) := by decide +kernel
theorem dX0_queueUp_4 : decode cX0_queueUp 4 = .ok (.iload_n 2, 1) := by decide +kernel
theorem dX0_queueUp_5 : decode cX0_queueUp 5 = .ok (.iaload, 1) := by decide +kernel
theorem dX0_queueUp_6 : decode cX0_queueUp 6 = .ok (.iconst (-1), 1) := by decide +kernel
theorem dX0_queueUp_7 : decode cX0_queueUp 7 = .ok (.if_icmp .eq 17, 3) := by decide +kernel
theorem dX0_queueUp_10 : decode cX0_queueUp 10 = .ok (.aload_n 0, 1) := by decide +kernel
theorem dX0_queueUp_11 : decode cX0_queueUp 11 = .ok (.getfield 15, 3) := by decide +kernel
theorem dX0_queueUp_14 : decode cX0_queueUp 14 = .ok (.iload_n 2, 1) := by decide +kernel
theorem dX0_queueUp_15 : decode cX0_queueUp 15 = .ok (.iaload, 1) := by decide +kernel
theorem dX0_queueUp_16 : decode cX0_queueUp 16 = .ok (.iload_n 1, 1) := by decide +kernel
theorem dX0_queueUp_17 : decode cX0_queueUp 17 = .ok (.if_icmp .eq 7, 3) := by decide +kernel
theorem dX0_queueUp_20 : decode cX0_queueUp 20 = .ok (.iconst 1, 1) := by decide +kernel
theorem dX0_queueUp_21 : decode cX0_queueUp 21 = .ok (.goto 4, 3) := by decide +kernel
theorem dX0_queueUp_24 : decode cX0_queueUp 24 = .ok (.iconst 0, 1) := by decide +kernel
theorem dX0_queueUp_25 : decode cX0_queueUp 25 = .ok (.istore_n 3, 1) := by decide +kernel
theorem dX0_queueUp_26 : decode cX0_queueUp 26 = .ok (.aload_n 0, 1) := by decide +kernel
theorem dX0_queueUp_27 : decode cX0_queueUp 27 = .ok (.getfield 26, 3) := by decide +kernel
theorem dX0_queueUp_30 : decode cX0_queueUp 30 = .ok (.iload_n 2, 1) := by decide +kernel
theorem dX0_queueUp_31 : decode cX0_queueUp 31 = .ok (.iaload, 1) := by decide +kernel
theorem dX0_queueUp_32 : decode cX0_queueUp 32 = .ok (.istore 4, 2) := by decide +kernel
theorem dX0_queueUp_34 : decode cX0_queueUp 34 = .ok (.iload_n 3, 1) := by decide +kernel
theorem dX0_queueUp_35 : decode cX0_queueUp 35 = .ok (.ifCond .eq 22, 3) := by decide +kernel
theorem dX0_queueUp_38 : decode cX0_queueUp 38 = .ok (.aload_n 0, 1) := by decide +kernel
theorem dX0_queueUp_39 : decode cX0_queueUp 39 = .ok (.iload_n 1, 1) := by decide +kernel
theorem dX0_queueUp_40 : decode cX0_queueUp 40 = .ok (.iload_n 2, 1) := by decide +kernel
theorem dX0_queueUp_41 : decode cX0_queueUp 41 = .ok (.invokevirtual 69, 3) := by decide +kernel
theorem dX0_queueUp_44 : decode cX0_queueUp 44 = .ok (.ifCond .ne 13, 3) := by decide +kernel
theorem dX0_queueUp_47 : decode cX0_queueUp 47 = .ok (.iload 4, 2) := by decide +kernel
theorem dX0_queueUp_49 : decode cX0_queueUp 49 = .ok (.bipush 30, 2) := by decide +kernel
theorem dX0_queueUp_51 : decode cX0_queueUp 51 = .ok (.invokestatic 72, 3) := by decide +kernel
theorem dX0_queueUp_54 : decode cX0_queueUp 54 = .ok (.ifCond .ne 5, 3) := by decide +kernel
theorem dX0_queueUp_57 : decode cX0_queueUp 57 = .ok (.iconst 0, 1) := by decide +kernel
theorem dX0_queueUp_58 : decode cX0_queueUp 58 = .ok (.ireturn, 1) := by decide +kernel
theorem dX0_queueUp_59 : decode cX0_queueUp 59 = .ok (.aload_n 0, 1) := by decide +kernel
theorem dX0_queueUp_60 : decode cX0_queueUp 60 = .ok (.getfield 23, 3) := by decide +kernel
theorem dX0_queueUp_63 : decode cX0_queueUp 63 = .ok (.iload_n 2, 1) := by decide +kernel
theorem dX0_queueUp_64 : decode cX0_queueUp 64 = .ok (.aaload, 1) := by decide +kernel
theorem dX0_queueUp_65 : decode cX0_queueUp 65 = .ok (.iload 4, 2) := by decide +kernel
theorem dX0_queueUp_67 : decode cX0_queueUp 67 = .ok (.iload_n 1, 1) := by decide +kernel
theorem dX0_queueUp_68 : decode cX0_queueUp 68 = .ok (.iastore, 1) := by decide +kernel
theorem dX0_queueUp_69 : decode cX0_queueUp 69 = .ok (.aload_n 0, 1) := by decide +kernel
theorem dX0_queueUp_70 : decode cX0_queueUp 70 = .ok (.getfield 26, 3) := by decide +kernel
theorem dX0_queueUp_73 : decode cX0_queueUp 73 = .ok (.iload_n 2, 1) := by decide +kernel
theorem dX0_queueUp_74 : decode cX0_queueUp 74 = .ok (.iload 4, 2) := by decide +kernel
theorem dX0_queueUp_76 : decode cX0_queueUp 76 = .ok (.iconst 1, 1) := by decide +kernel
theorem dX0_queueUp_77 : decode cX0_queueUp 77 = .ok (.iadd, 1) := by decide +kernel
theorem dX0_queueUp_78 : decode cX0_queueUp 78 = .ok (.iastore, 1) := by decide +kernel
theorem dX0_queueUp_79 : decode cX0_queueUp 79 = .ok (.iconst 1, 1) := by decide +kernel
theorem dX0_queueUp_80 : decode cX0_queueUp 80 = .ok (.ireturn, 1) := by decide +kernel
theorem dX0_renew_0 : decode cX0_renew 0 = .ok (.aload_n 0, 1) := by decide +kernel
theorem dX0_renew_1 : decode cX0_renew 1 = .ok (.getfield 15, 3) := by decide +kernel
theorem dX0_renew_4 : decode cX0_renew 4 = .ok (.iload_n 2, 1) := by decide +kernel
theorem dX0_renew_5 : decode cX0_renew 5 = .ok (.iaload, 1) := by decide +kernel
theorem dX0_renew_6 : decode cX0_renew 6 = .ok (.iload_n 1, 1) := by decide +kernel
theorem dX0_renew_7 : decode cX0_renew 7 = .ok (.if_icmp .ne 7, 3) := by decide +kernel
theorem dX0_renew_10 : decode cX0_renew 10 = .ok (.iconst 1, 1) := by decide +kernel
theorem dX0_renew_11 : decode cX0_renew 11 = .ok (.goto 4, 3) := by decide +kernel
theorem dX0_renew_14 : decode cX0_renew 14 = .ok (.iconst 0, 1) := by decide +kernel
theorem dX0_renew_15 : decode cX0_renew 15 = .ok (.istore_n 3, 1) := by decide +kernel
theorem dX0_renew_16 : decode cX0_renew 16 = .ok (.iload_n 3, 1) := by decide +kernel
theorem dX0_renew_17 : decode cX0_renew 17 = .ok (.ifCond .eq 22, 3) := by decide +kernel
theorem dX0_renew_20 : decode cX0_renew 20 = .ok (.aload_n 0, 1) := by decide +kernel
theorem dX0_renew_21 : decode cX0_renew 21 = .ok (.getfield 26, 3) := by decide +kernel
theorem dX0_renew_24 : decode cX0_renew 24 = .ok (.iload_n 2, 1) := by decide +kernel
theorem dX0_renew_25 : decode cX0_renew 25 = .ok (.iaload, 1) := by decide +kernel
theorem dX0_renew_26 : decode cX0_renew 26 = .ok (.ifCond .gt 13, 3) := by decide +kernel
theorem dX0_renew_29 : decode cX0_renew 29 = .ok (.aload_n 0, 1) := by decide +kernel
theorem dX0_renew_30 : decode cX0_renew 30 = .ok (.getfield 18, 3) := by decide +kernel
theorem dX0_renew_33 : decode cX0_renew 33 = .ok (.iload_n 2, 1) := by decide +kernel
theorem dX0_renew_34 : decode cX0_renew 34 = .ok (.iaload, 1) := by decide +kernel
theorem dX0_renew_35 : decode cX0_renew 35 = .ok (.iconst 2, 1) := by decide +kernel
theorem dX0_renew_36 : decode cX0_renew 36 = .ok (.if_icmp .lt 5, 3) := by decide +kernel
theorem dX0_renew_39 : decode cX0_renew 39 = .ok (.iconst 0, 1) := by decide +kernel
theorem dX0_renew_40 : decode cX0_renew 40 = .ok (.ireturn, 1) := by decide +kernel
theorem dX0_renew_41 : decode cX0_renew 41 = .ok (.aload_n 0, 1) := by decide +kernel
theorem dX0_renew_42 : decode cX0_renew 42 = .ok (.getfield 18, 3) := by decide +kernel
theorem dX0_renew_45 : decode cX0_renew 45 = .ok (.iload_n 2, 1) := by decide +kernel
theorem dX0_renew_46 : decode cX0_renew 46 = .ok (.dup2, 1) := by decide +kernel
theorem dX0_renew_47 : decode cX0_renew 47 = .ok (.iaload, 1) := by decide +kernel
theorem dX0_renew_48 : decode cX0_renew 48 = .ok (.iconst 1, 1) := by decide +kernel
theorem dX0_renew_49 : decode cX0_renew 49 = .ok (.iadd, 1) := by decide +kernel
theorem dX0_renew_50 : decode cX0_renew 50 = .ok (.iastore, 1) := by decide +kernel
theorem dX0_renew_51 : decode cX0_renew 51 = .ok (.iconst 1, 1) := by decide +kernel
theorem dX0_renew_52 : decode cX0_renew 52 = .ok (.ireturn, 1) := by decide +kernel
theorem dX0_itemsOf_0 : decode cX0_itemsOf 0 = .ok (.iconst 0, 1) := by decide +kernel
theorem dX0_itemsOf_1 : decode cX0_itemsOf 1 = .ok (.istore_n 2, 1) := by decide +kernel
theorem dX0_itemsOf_2 : decode cX0_itemsOf 2 = .ok (.iconst 0, 1) := by decide +kernel
theorem dX0_itemsOf_3 : decode cX0_itemsOf 3 = .ok (.istore_n 3, 1) := by decide +kernel
theorem dX0_itemsOf_4 : decode cX0_itemsOf 4 = .ok (.iload_n 3, 1) := by decide +kernel
theorem dX0_itemsOf_5 : decode cX0_itemsOf 5 = .ok (.bipush 30, 2) := by decide +kernel
theorem dX0_itemsOf_7 : decode cX0_itemsOf 7 = .ok (.if_icmp .ge 22, 3) := by decide +kernel
theorem dX0_itemsOf_10 : decode cX0_itemsOf 10 = .ok (.aload_n 0, 1) := by decide +kernel
theorem dX0_itemsOf_11 : decode cX0_itemsOf 11 = .ok (.getfield 15, 3) := by decide +kernel
theorem dX0_itemsOf_14 : decode cX0_itemsOf 14 = .ok (.iload_n 3, 1) := by decide +kernel
theorem dX0_itemsOf_15 : decode cX0_itemsOf 15 = .ok (.iaload, 1) := by decide +kernel
theorem dX0_itemsOf_16 : decode cX0_itemsOf 16 = .ok (.iload_n 1, 1) := by decide +kernel
theorem dX0_itemsOf_17 : decode cX0_itemsOf 17 = .ok (.if_icmp .ne 6, 3) := by decide +kernel
theorem dX0_itemsOf_20 : decode cX0_itemsOf 20 = .ok (.iinc 2 1, 3) := by decide +kernel
theorem dX0_itemsOf_23 : decode cX0_itemsOf 23 = .ok (.iinc 3 1, 3) := by decide +kernel
theorem dX0_itemsOf_26 : decode cX0_itemsOf 26 = .ok (.goto (-22), 3) := by decide +kernel
theorem dX0_itemsOf_29 : decode cX0_itemsOf 29 = .ok (.iload_n 2, 1) := by decide +kernel
theorem dX0_itemsOf_30 : decode cX0_itemsOf 30 = .ok (.ireturn, 1) := by decide +kernel
theorem dX0_isInQueue_0 : decode cX0_isInQueue 0 = .ok (.iconst 0, 1) := by decide +kernel
theorem dX0_isInQueue_1 : decode cX0_isInQueue 1 = .ok (.istore_n 3, 1) := by decide +kernel
theorem dX0_isInQueue_2 : decode cX0_isInQueue 2 = .ok (.iload_n 3, 1) := by decide +kernel
theorem dX0_isInQueue_3 : decode cX0_isInQueue 3 = .ok (.aload_n 0, 1) := by decide +kernel
theorem dX0_isInQueue_4 : decode cX0_isInQueue 4 = .ok (.getfield 26, 3) := by decide +kernel
theorem dX0_isInQueue_7 : decode cX0_isInQueue 7 = .ok (.iload_n 2, 1) := by decide +kernel
theorem dX0_isInQueue_8 : decode cX0_isInQueue 8 = .ok (.iaload, 1) := by decide +kernel
theorem dX0_isInQueue_9 : decode cX0_isInQueue 9 = .ok (.if_icmp .ge 23, 3) := by decide +kernel
theorem dX0_isInQueue_12 : decode cX0_isInQueue 12 = .ok (.aload_n 0, 1) := by decide +kernel
theorem dX0_isInQueue_13 : decode cX0_isInQueue 13 = .ok (.getfield 23, 3) := by decide +kernel
theorem dX0_isInQueue_16 : decode cX0_isInQueue 16 = .ok (.iload_n 2, 1) := by decide +kernel
theorem dX0_isInQueue_17 : decode cX0_isInQueue 17 = .ok (.aaload, 1) := by decide +kernel
theorem dX0_isInQueue_18 : decode cX0_isInQueue 18 = .ok (.iload_n 3, 1) := by decide +kernel
theorem dX0_isInQueue_19 : decode cX0_isInQueue 19 = .ok (.iaload, 1) := by decide +kernel
theorem dX0_isInQueue_20 : decode cX0_isInQueue 20 = .ok (.iload_n 1, 1) := by decide +kernel
theorem dX0_isInQueue_21 : decode cX0_isInQueue 21 = .ok (.if_icmp .ne 5, 3) := by decide +kernel
theorem dX0_isInQueue_24 : decode cX0_isInQueue 24 = .ok (.iconst 1, 1) := by decide +kernel
theorem dX0_isInQueue_25 : decode cX0_isInQueue 25 = .ok (.ireturn, 1) := by decide +kernel
theorem dX0_isInQueue_26 : decode cX0_isInQueue 26 = .ok (.iinc 3 1, 3) := by decide +kernel
theorem dX0_isInQueue_29 : decode cX0_isInQueue 29 = .ok (.goto (-27), 3) := by decide +kernel
theorem dX0_isInQueue_32 : decode cX0_isInQueue 32 = .ok (.iconst 0, 1) := by decide +kernel
theorem dX0_isInQueue_33 : decode cX0_isInQueue 33 = .ok (.ireturn, 1) := by decide +kernel
theorem dX0_dropFirst_0 : decode cX0_dropFirst 0 = .ok (.aload_n 0, 1) := by decide +kernel
theorem dX0_dropFirst_1 : decode cX0_dropFirst 1 = .ok (.getfield 26, 3) := by decide +kernel
theorem dX0_dropFirst_4 : decode cX0_dropFirst 4 = .ok (.iload_n 1, 1) := by decide +kernel
theorem dX0_dropFirst_5 : decode cX0_dropFirst 5 = .ok (.iaload, 1) := by decide +kernel
theorem dX0_dropFirst_6 : decode cX0_dropFirst 6 = .ok (.ifCond .ne 4, 3) := by decide +kernel
theorem dX0_dropFirst_9 : decode cX0_dropFirst 9 = .ok (.return_, 1) := by decide +kernel
theorem dX0_dropFirst_10 : decode cX0_dropFirst 10 = .ok (.iconst 1, 1) := by decide +kernel
theorem dX0_dropFirst_11 : decode cX0_dropFirst 11 = .ok (.istore_n 2, 1) := by decide +kernel
theorem dX0_dropFirst_12 : decode cX0_dropFirst 12 = .ok (.iload_n 2, 1) := by decide +kernel
theorem dX0_dropFirst_13 : decode cX0_dropFirst 13 = .ok (.aload_n 0, 1) := by decide +kernel
theorem dX0_dropFirst_14 : decode cX0_dropFirst 14 = .ok (.getfield 26, 3) := by decide +kernel
theorem dX0_dropFirst_17 : decode cX0_dropFirst 17 = .ok (.iload_n 1, 1) := by decide +kernel
theorem dX0_dropFirst_18 : decode cX0_dropFirst 18 = .ok (.iaload, 1) := by decide +kernel
theorem dX0_dropFirst_19 : decode cX0_dropFirst 19 = .ok (.if_icmp .ge 27, 3) := by decide +kernel
theorem dX0_dropFirst_22 : decode cX0_dropFirst 22 = .ok (.aload_n 0, 1) := by decide +kernel
theorem dX0_dropFirst_23 : decode cX0_dropFirst 23 = .ok (.getfield 23, 3) := by decide +kernel
theorem dX0_dropFirst_26 : decode cX0_dropFirst 26 = .ok (.iload_n 1, 1) := by decide +kernel
theorem dX0_dropFirst_27 : decode cX0_dropFirst 27 = .ok (.aaload, 1) := by decide +kernel
theorem dX0_dropFirst_28 : decode cX0_dropFirst 28 = .ok (.iload_n 2, 1) := by decide +kernel
theorem dX0_dropFirst_29 : decode cX0_dropFirst 29 = .ok (.iconst 1, 1) := by decide +kernel
theorem dX0_dropFirst_30 : decode cX0_dropFirst 30 = .ok (.isub, 1) := by decide +kernel
theorem dX0_dropFirst_31 : decode cX0_dropFirst 31 = .ok (.aload_n 0, 1) := by decide +kernel
theorem dX0_dropFirst_32 : decode cX0_dropFirst 32 = .ok (.getfield 23, 3) := by decide +kernel
theorem dX0_dropFirst_35 : decode cX0_dropFirst 35 = .ok (.iload_n 1, 1) := by decide +kernel
theorem dX0_dropFirst_36 : decode cX0_dropFirst 36 = .ok (.aaload, 1) := by decide +kernel
theorem dX0_dropFirst_37 : decode cX0_dropFirst 37 = .ok (.iload_n 2, 1) := by decide +kernel
theorem dX0_dropFirst_38 : decode cX0_dropFirst 38 = .ok (.iaload, 1) := by decide +kernel
theorem dX0_dropFirst_39 : decode cX0_dropFirst 39 = .ok (.iastore, 1) := by decide +kernel
theorem dX0_dropFirst_40 : decode cX0_dropFirst 40 = .ok (.iinc 2 1, 3) := by decide +kernel
theorem dX0_dropFirst_43 : decode cX0_dropFirst 43 = .ok (.goto (-31), 3) := by decide +kernel
theorem dX0_dropFirst_46 : decode cX0_dropFirst 46 = .ok (.aload_n 0, 1) := by decide +kernel
theorem dX0_dropFirst_47 : decode cX0_dropFirst 47 = .ok (.getfield 26, 3) := by decide +kernel
theorem dX0_dropFirst_50 : decode cX0_dropFirst 50 = .ok (.iload_n 1, 1) := by decide +kernel
theorem dX0_dropFirst_51 : decode cX0_dropFirst 51 = .ok (.dup2, 1) := by decide +kernel
theorem dX0_dropFirst_52 : decode cX0_dropFirst 52 = .ok (.iaload, 1) := by decide +kernel
theorem dX0_dropFirst_53 : decode cX0_dropFirst 53 = .ok (.iconst 1, 1) := by decide +kernel
theorem dX0_dropFirst_54 : decode cX0_dropFirst 54 = .ok (.isub, 1) := by decide +kernel
theorem dX0_dropFirst_55 : decode cX0_dropFirst 55 = .ok (.iastore, 1) := by decide +kernel
theorem dX0_dropFirst_56 : decode cX0_dropFirst 56 = .ok (.return_, 1) := by decide +kernel
theorem dX1_init_0 : decode cX1_init 0 = .ok (.aload_n 0, 1) := by decide +kernel
theorem dX1_init_1 : decode cX1_init 1 = .ok (.invokespecial 3, 3) := by decide +kernel
theorem dX1_init_4 : decode cX1_init 4 = .ok (.aload_n 0, 1) := by decide +kernel
theorem dX1_init_5 : decode cX1_init 5 = .ok (.sipush 5000, 3) := by decide +kernel
theorem dX1_init_8 : decode cX1_init 8 = .ok (.newarray .int, 2) := by decide +kernel
theorem dX1_init_10 : decode cX1_init 10 = .ok (.putfield 11, 3) := by decide +kernel
theorem dX1_init_13 : decode cX1_init 13 = .ok (.aload_n 0, 1) := by decide +kernel
theorem dX1_init_14 : decode cX1_init 14 = .ok (.iconst 0, 1) := by decide +kernel
theorem dX1_init_15 : decode cX1_init 15 = .ok (.putfield 15, 3) := by decide +kernel
theorem dX1_init_18 : decode cX1_init 18 = .ok (.return_, 1) := by decide +kernel
theorem dX1_add_0 : decode cX1_add 0 = .ok (.aload_n 0, 1) := by decide +kernel
theorem dX1_add_1 : decode cX1_add 1 = .ok (.getfield 15, 3) := by decide +kernel
theorem dX1_add_4 : decode cX1_add 4 = .ok (.sipush 1000, 3) := by decide +kernel
theorem dX1_add_7 : decode cX1_add 7 = .ok (.invokestatic 19, 3) := by decide +kernel
theorem dX1_add_10 : decode cX1_add 10 = .ok (.ifCond .eq 65, 3) := by decide +kernel
theorem dX1_add_13 : decode cX1_add 13 = .ok (.aload_n 0, 1) := by decide +kernel
theorem dX1_add_14 : decode cX1_add 14 = .ok (.getfield 15, 3) := by decide +kernel
theorem dX1_add_17 : decode cX1_add 17 = .ok (.iconst 5, 1) := by decide +kernel
theorem dX1_add_18 : decode cX1_add 18 = .ok (.imul, 1) := by decide +kernel
theorem dX1_add_19 : decode cX1_add 19 = .ok (.istore_n 3, 1) := by decide +kernel
theorem dX1_add_20 : decode cX1_add 20 = .ok (.aload_n 0, 1) := by decide +kernel
theorem dX1_add_21 : decode cX1_add 21 = .ok (.getfield 11, 3) := by decide +kernel
theorem dX1_add_24 : decode cX1_add 24 = .ok (.iload_n 3, 1) := by decide +kernel
theorem dX1_add_25 : decode cX1_add 25 = .ok (.iload_n 1, 1) := by decide +kernel
theorem dX1_add_26 : decode cX1_add 26 = .ok (.iastore, 1) := by decide +kernel
theorem dX1_add_27 : decode cX1_add 27 = .ok (.aload_n 0, 1) := by decide +kernel
theorem dX1_add_28 : decode cX1_add 28 = .ok (.getfield 11, 3) := by decide +kernel
theorem dX1_add_31 : decode cX1_add 31 = .ok (.iload_n 3, 1) := by decide +kernel
theorem dX1_add_32 : decode cX1_add 32 = .ok (.iconst 1, 1) := by decide +kernel
theorem dX1_add_33 : decode cX1_add 33 = .ok (.iadd, 1) := by decide +kernel
theorem dX1_add_34 : decode cX1_add 34 = .ok (.aload_n 2, 1) := by decide +kernel
theorem dX1_add_35 : decode cX1_add 35 = .ok (.getfield 23, 3) := by decide +kernel
theorem dX1_add_38 : decode cX1_add 38 = .ok (.iastore, 1) := by decide +kernel
theorem dX1_add_39 : decode cX1_add 39 = .ok (.aload_n 0, 1) := by decide +kernel
theorem dX1_add_40 : decode cX1_add 40 = .ok (.getfield 11, 3) := by decide +kernel
theorem dX1_add_43 : decode cX1_add 43 = .ok (.iload_n 3, 1) := by decide +kernel
theorem dX1_add_44 : decode cX1_add 44 = .ok (.iconst 2, 1) := by decide +kernel
theorem dX1_add_45 : decode cX1_add 45 = .ok (.iadd, 1) := by decide +kernel
theorem dX1_add_46 : decode cX1_add 46 = .ok (.aload_n 2, 1) := by decide +kernel
theorem dX1_add_47 : decode cX1_add 47 = .ok (.getfield 28, 3) := by decide +kernel
theorem dX1_add_50 : decode cX1_add 50 = .ok (.iastore, 1) := by decide +kernel
theorem dX1_add_51 : decode cX1_add 51 = .ok (.aload_n 0, 1) := by decide +kernel
theorem dX1_add_52 : decode cX1_add 52 = .ok (.getfield 11, 3) := by decide +kernel
theorem dX1_add_55 : decode cX1_add 55 = .ok (.iload_n 3, 1) := by decide +kernel
theorem dX1_add_56 : decode cX1_add 56 = .ok (.iconst 3, 1) := by decide +kernel
theorem dX1_add_57 : decode cX1_add 57 = .ok (.iadd, 1) := by decide +kernel
theorem dX1_add_58 : decode cX1_add 58 = .ok (.aload_n 2, 1) := by decide +kernel
theorem dX1_add_59 : decode cX1_add 59 = .ok (.getfield 31, 3) := by decide +kernel
theorem dX1_add_62 : decode cX1_add 62 = .ok (.iastore, 1) := by decide +kernel
theorem dX1_add_63 : decode cX1_add 63 = .ok (.aload_n 0, 1) := by decide +kernel
theorem dX1_add_64 : decode cX1_add 64 = .ok (.getfield 11, 3) := by decide +kernel
theorem dX1_add_67 : decode cX1_add 67 = .ok (.iload_n 3, 1) := by decide +kernel
theorem dX1_add_68 : decode cX1_add 68 = .ok (.iconst 4, 1) := by decide +kernel
theorem dX1_add_69 : decode cX1_add 69 = .ok (.iadd, 1) := by decide +kernel
theorem dX1_add_70 : decode cX1_add 70 = .ok (.aload_n 2, 1) := by decide +kernel
theorem dX1_add_71 : decode cX1_add 71 = .ok (.getfield 34, 3) := by decide +kernel
theorem dX1_add_74 : decode cX1_add 74 = .ok (.iastore, 1) := by decide +kernel
theorem dX1_add_75 : decode cX1_add 75 = .ok (.aload_n 0, 1) := by decide +kernel
theorem dX1_add_76 : decode cX1_add 76 = .ok (.dup, 1) := by decide +kernel
theorem dX1_add_77 : decode cX1_add 77 = .ok (.getfield 15, 3) := by decide +kernel
theorem dX1_add_80 : decode cX1_add 80 = .ok (.iconst 1, 1) := by decide +kernel
theorem dX1_add_81 : decode cX1_add 81 = .ok (.iadd, 1) := by decide +kernel
theorem dX1_add_82 : decode cX1_add 82 = .ok (.putfield 15, 3) := by decide +kernel
theorem dX1_add_85 : decode cX1_add 85 = .ok (.return_, 1) := by decide +kernel
theorem dX1_tell_0 : decode cX1_tell 0 = .ok (.iload_n 1, 1) := by decide +kernel
theorem dX1_tell_1 : decode cX1_tell 1 = .ok (.aload_n 0, 1) := by decide +kernel
theorem dX1_tell_2 : decode cX1_tell 2 = .ok (.getfield 15, 3) := by decide +kernel
theorem dX1_tell_5 : decode cX1_tell 5 = .ok (.sipush 1000, 3) := by decide +kernel
theorem dX1_tell_8 : decode cX1_tell 8 = .ok (.invokestatic 37, 3) := by decide +kernel
theorem dX1_tell_11 : decode cX1_tell 11 = .ok (.invokestatic 19, 3) := by decide +kernel
theorem dX1_tell_14 : decode cX1_tell 14 = .ok (.ifCond .eq 11, 3) := by decide +kernel
theorem dX1_tell_17 : decode cX1_tell 17 = .ok (.iload_n 2, 1) := by decide +kernel
theorem dX1_tell_18 : decode cX1_tell 18 = .ok (.iconst 5, 1) := by decide +kernel
theorem dX1_tell_19 : decode cX1_tell 19 = .ok (.invokestatic 19, 3) := by decide +kernel
theorem dX1_tell_22 : decode cX1_tell 22 = .ok (.ifCond .ne 5, 3) := by decide +kernel
theorem dX1_tell_25 : decode cX1_tell 25 = .ok (.iconst (-1), 1) := by decide +kernel
theorem dX1_tell_26 : decode cX1_tell 26 = .ok (.ireturn, 1) := by decide +kernel
theorem dX1_tell_27 : decode cX1_tell 27 = .ok (.aload_n 0, 1) := by decide +kernel
theorem dX1_tell_28 : decode cX1_tell 28 = .ok (.getfield 11, 3) := by decide +kernel
theorem dX1_tell_31 : decode cX1_tell 31 = .ok (.iload_n 1, 1) := by decide +kernel
theorem dX1_tell_32 : decode cX1_tell 32 = .ok (.iconst 5, 1) := by decide +kernel
theorem dX1_tell_33 : decode cX1_tell 33 = .ok (.imul, 1) := by decide +kernel
theorem dX1_tell_34 : decode cX1_tell 34 = .ok (.iload_n 2, 1) := by decide +kernel
theorem dX1_tell_35 : decode cX1_tell 35 = .ok (.iadd, 1) := by decide +kernel
theorem dX1_tell_36 : decode cX1_tell 36 = .ok (.iaload, 1) := by decide +kernel
theorem dX1_tell_37 : decode cX1_tell 37 = .ok (.ireturn, 1) := by decide +kernel
theorem dX2_init_0 : decode cX2_init 0 = .ok (.aload_n 0, 1) := by decide +kernel
theorem dX2_init_1 : decode cX2_init 1 = .ok (.invokespecial 3, 3) := by decide +kernel
theorem dX2_init_4 : decode cX2_init 4 = .ok (.aload_n 0, 1) := by decide +kernel
theorem dX2_init_5 : decode cX2_init 5 = .ok (.bipush 60, 2) := by decide +kernel
theorem dX2_init_7 : decode cX2_init 7 = .ok (.newarray .int, 2) := by decide +kernel
theorem dX2_init_9 : decode cX2_init 9 = .ok (.putfield 9, 3) := by decide +kernel
theorem dX2_init_12 : decode cX2_init 12 = .ok (.aload_n 0, 1) := by decide +kernel
theorem dX2_init_13 : decode cX2_init 13 = .ok (.iconst 0, 1) := by decide +kernel
theorem dX2_init_14 : decode cX2_init 14 = .ok (.putfield 15, 3) := by decide +kernel
theorem dX2_init_17 : decode cX2_init 17 = .ok (.aload_n 0, 1) := by decide +kernel
theorem dX2_init_18 : decode cX2_init 18 = .ok (.iconst 0, 1) := by decide +kernel
theorem dX2_init_19 : decode cX2_init 19 = .ok (.putfield 19, 3) := by decide +kernel
theorem dX2_init_22 : decode cX2_init 22 = .ok (.aload_n 0, 1) := by decide +kernel
theorem dX2_init_23 : decode cX2_init 23 = .ok (.iconst 0, 1) := by decide +kernel
theorem dX2_init_24 : decode cX2_init 24 = .ok (.putfield 23, 3) := by decide +kernel
theorem dX2_init_27 : decode cX2_init 27 = .ok (.aload_n 0, 1) := by decide +kernel
theorem dX2_init_28 : decode cX2_init 28 = .ok (.iconst (-1), 1) := by decide +kernel
theorem dX2_init_29 : decode cX2_init 29 = .ok (.putfield 26, 3) := by decide +kernel
theorem dX2_init_32 : decode cX2_init 32 = .ok (.aload_n 0, 1) := by decide +kernel
theorem dX2_init_33 : decode cX2_init 33 = .ok (.iconst 0, 1) := by decide +kernel
theorem dX2_init_34 : decode cX2_init 34 = .ok (.putfield 29, 3) := by decide +kernel
theorem dX2_init_37 : decode cX2_init 37 = .ok (.aload_n 0, 1) := by decide +kernel
theorem dX2_init_38 : decode cX2_init 38 = .ok (.new 32, 3) := by decide +kernel
theorem dX2_init_41 : decode cX2_init 41 = .ok (.dup, 1) := by decide +kernel
theorem dX2_init_42 : decode cX2_init 42 = .ok (.invokespecial 34, 3) := by decide +kernel
theorem dX2_init_45 : decode cX2_init 45 = .ok (.putfield 35, 3) := by decide +kernel
theorem dX2_init_48 : decode cX2_init 48 = .ok (.aload_n 0, 1) := by decide +kernel
theorem dX2_init_49 : decode cX2_init 49 = .ok (.new 32, 3) := by decide +kernel
theorem dX2_init_52 : decode cX2_init 52 = .ok (.dup, 1) := by decide +kernel
theorem dX2_init_53 : decode cX2_init 53 = .ok (.invokespecial 34, 3) := by decide +kernel
theorem dX2_init_56 : decode cX2_init 56 = .ok (.putfield 39, 3) := by decide +kernel
theorem dX2_init_59 : decode cX2_init 59 = .ok (.aload_n 0, 1) := by decide +kernel
theorem dX2_init_60 : decode cX2_init 60 = .ok (.bipush 20, 2) := by decide +kernel
theorem dX2_init_62 : decode cX2_init 62 = .ok (.newarray .int, 2) := by decide +kernel
theorem dX2_init_64 : decode cX2_init 64 = .ok (.putfield 42, 3) := by decide +kernel
theorem dX2_init_67 : decode cX2_init 67 = .ok (.aload_n 0, 1) := by decide +kernel
theorem dX2_init_68 : decode cX2_init 68 = .ok (.bipush 20, 2) := by decide +kernel
theorem dX2_init_70 : decode cX2_init 70 = .ok (.newarray .int, 2) := by decide +kernel
theorem dX2_init_72 : decode cX2_init 72 = .ok (.putfield 45, 3) := by decide +kernel
theorem dX2_init_75 : decode cX2_init 75 = .ok (.aload_n 0, 1) := by decide +kernel
theorem dX2_init_76 : decode cX2_init 76 = .ok (.bipush 20, 2) := by decide +kernel
theorem dX2_init_78 : decode cX2_init 78 = .ok (.newarray .int, 2) := by decide +kernel
theorem dX2_init_80 : decode cX2_init 80 = .ok (.putfield 48, 3) := by decide +kernel
theorem dX2_init_83 : decode cX2_init 83 = .ok (.aload_n 0, 1) := by decide +kernel
theorem dX2_init_84 : decode cX2_init 84 = .ok (.iconst 0, 1) := by decide +kernel
theorem dX2_init_85 : decode cX2_init 85 = .ok (.putfield 51, 3) := by decide +kernel
theorem dX2_init_88 : decode cX2_init 88 = .ok (.return_, 1) := by decide +kernel
theorem dX2_take_0 : decode cX2_take 0 = .ok (.aload_n 0, 1) := by decide +kernel
theorem dX2_take_1 : decode cX2_take 1 = .ok (.getfield 19, 3) := by decide +kernel
theorem dX2_take_4 : decode cX2_take 4 = .ok (.ifCond .eq 6, 3) := by decide +kernel
theorem dX2_take_7 : decode cX2_take 7 = .ok (.bipush (-2), 2) := by decide +kernel
theorem dX2_take_9 : decode cX2_take 9 = .ok (.ireturn, 1) := by decide +kernel
theorem dX2_take_10 : decode cX2_take 10 = .ok (.aload_n 0, 1) := by decide +kernel
theorem dX2_take_11 : decode cX2_take 11 = .ok (.getfield 15, 3) := by decide +kernel
theorem dX2_take_14 : decode cX2_take 14 = .ok (.bipush 60, 2) := by decide +kernel
theorem dX2_take_16 : decode cX2_take 16 = .ok (.invokestatic 54, 3) := by decide +kernel
theorem dX2_take_19 : decode cX2_take 19 = .ok (.ifCond .eq 28, 3) := by decide +kernel
theorem dX2_take_22 : decode cX2_take 22 = .ok (.aload_n 0, 1) := by decide +kernel
theorem dX2_take_23 : decode cX2_take 23 = .ok (.getfield 9, 3) := by decide +kernel
theorem dX2_take_26 : decode cX2_take 26 = .ok (.aload_n 0, 1) := by decide +kernel
theorem dX2_take_27 : decode cX2_take 27 = .ok (.getfield 15, 3) := by decide +kernel
theorem dX2_take_30 : decode cX2_take 30 = .ok (.iload_n 1, 1) := by decide +kernel
theorem dX2_take_31 : decode cX2_take 31 = .ok (.iastore, 1) := by decide +kernel
theorem dX2_take_32 : decode cX2_take 32 = .ok (.aload_n 0, 1) := by decide +kernel
theorem dX2_take_33 : decode cX2_take 33 = .ok (.dup, 1) := by decide +kernel
theorem dX2_take_34 : decode cX2_take 34 = .ok (.getfield 15, 3) := by decide +kernel
theorem dX2_take_37 : decode cX2_take 37 = .ok (.iconst 1, 1) := by decide +kernel
theorem dX2_take_38 : decode cX2_take 38 = .ok (.iadd, 1) := by decide +kernel
theorem dX2_take_39 : decode cX2_take 39 = .ok (.putfield 15, 3) := by decide +kernel
theorem dX2_take_42 : decode cX2_take 42 = .ok (.aload_n 0, 1) := by decide +kernel
theorem dX2_take_43 : decode cX2_take 43 = .ok (.getfield 15, 3) := by decide +kernel
theorem dX2_take_46 : decode cX2_take 46 = .ok (.ireturn, 1) := by decide +kernel
theorem dX2_take_47 : decode cX2_take 47 = .ok (.aload_n 0, 1) := by decide +kernel
theorem dX2_take_48 : decode cX2_take 48 = .ok (.dup, 1) := by decide +kernel
theorem dX2_take_49 : decode cX2_take 49 = .ok (.getfield 15, 3) := by decide +kernel
theorem dX2_take_52 : decode cX2_take 52 = .ok (.iconst 1, 1) := by decide +kernel
theorem dX2_take_53 : decode cX2_take 53 = .ok (.iadd, 1) := by decide +kernel
theorem dX2_take_54 : decode cX2_take 54 = .ok (.putfield 15, 3) := by decide +kernel
theorem dX2_take_57 : decode cX2_take 57 = .ok (.aload_n 0, 1) := by decide +kernel
theorem dX2_take_58 : decode cX2_take 58 = .ok (.iconst 1, 1) := by decide +kernel
theorem dX2_take_59 : decode cX2_take 59 = .ok (.putfield 19, 3) := by decide +kernel
theorem dX2_take_62 : decode cX2_take 62 = .ok (.bipush (-2), 2) := by decide +kernel
theorem dX2_take_64 : decode cX2_take 64 = .ok (.ireturn, 1) := by decide +kernel
theorem dX2_clear_0 : decode cX2_clear 0 = .ok (.aload_n 0, 1) := by decide +kernel
theorem dX2_clear_1 : decode cX2_clear 1 = .ok (.iconst 0, 1) := by decide +kernel
theorem dX2_clear_2 : decode cX2_clear 2 = .ok (.putfield 15, 3) := by decide +kernel
theorem dX2_clear_5 : decode cX2_clear 5 = .ok (.aload_n 0, 1) := by decide +kernel
theorem dX2_clear_6 : decode cX2_clear 6 = .ok (.iconst 0, 1) := by decide +kernel
theorem dX2_clear_7 : decode cX2_clear 7 = .ok (.putfield 19, 3) := by decide +kernel
theorem dX2_clear_10 : decode cX2_clear 10 = .ok (.aload_n 0, 1) := by decide +kernel
theorem dX2_clear_11 : decode cX2_clear 11 = .ok (.iconst 0, 1) := by decide +kernel
theorem dX2_clear_12 : decode cX2_clear 12 = .ok (.putfield 23, 3) := by decide +kernel
theorem dX2_clear_15 : decode cX2_clear 15 = .ok (.aload_n 0, 1) := by decide +kernel
theorem dX2_clear_16 : decode cX2_clear 16 = .ok (.iconst (-1), 1) := by decide +kernel
theorem dX2_clear_17 : decode cX2_clear 17 = .ok (.putfield 26, 3) := by decide +kernel
theorem dX2_clear_20 : decode cX2_clear 20 = .ok (.aload_n 0, 1) := by decide +kernel
theorem dX2_clear_21 : decode cX2_clear 21 = .ok (.iconst 0, 1) := by decide +kernel
theorem dX2_clear_22 : decode cX2_clear 22 = .ok (.putfield 29, 3) := by decide +kernel
theorem dX2_clear_25 : decode cX2_clear 25 = .ok (.aload_n 0, 1) := by decide +kernel
theorem dX2_clear_26 : decode cX2_clear 26 = .ok (.getfield 35, 3) := by decide +kernel
theorem dX2_clear_29 : decode cX2_clear 29 = .ok (.iconst 0, 1) := by decide +kernel
theorem dX2_clear_30 : decode cX2_clear 30 = .ok (.putfield 58, 3) := by decide +kernel
theorem dX2_clear_33 : decode cX2_clear 33 = .ok (.aload_n 0, 1) := by decide +kernel
theorem dX2_clear_34 : decode cX2_clear 34 = .ok (.getfield 39, 3) := by decide +kernel
theorem dX2_clear_37 : decode cX2_clear 37 = .ok (.iconst 0, 1) := by decide +kernel
theorem dX2_clear_38 : decode cX2_clear 38 = .ok (.putfield 58, 3) := by decide +kernel
theorem dX2_clear_41 : decode cX2_clear 41 = .ok (.return_, 1) := by decide +kernel
theorem dX2_addRow_0 : decode cX2_addRow 0 = .ok (.aload_n 0, 1) := by decide +kernel
theorem dX2_addRow_1 : decode cX2_addRow 1 = .ok (.getfield 51, 3) := by decide +kernel
theorem dX2_addRow_4 : decode cX2_addRow 4 = .ok (.bipush 20, 2) := by decide +kernel
theorem dX2_addRow_6 : decode cX2_addRow 6 = .ok (.invokestatic 54, 3) := by decide +kernel
theorem dX2_addRow_9 : decode cX2_addRow 9 = .ok (.ifCond .ne 6, 3) := by decide +kernel
theorem dX2_addRow_12 : decode cX2_addRow 12 = .ok (.bipush (-2), 2) := by decide +kernel
theorem dX2_addRow_14 : decode cX2_addRow 14 = .ok (.ireturn, 1) := by decide +kernel
theorem dX2_addRow_15 : decode cX2_addRow 15 = .ok (.aload_n 0, 1) := by decide +kernel
theorem dX2_addRow_16 : decode cX2_addRow 16 = .ok (.getfield 42, 3) := by decide +kernel
theorem dX2_addRow_19 : decode cX2_addRow 19 = .ok (.aload_n 0, 1) := by decide +kernel
theorem dX2_addRow_20 : decode cX2_addRow 20 = .ok (.getfield 51, 3) := by decide +kernel
theorem dX2_addRow_23 : decode cX2_addRow 23 = .ok (.iload_n 1, 1) := by decide +kernel
theorem dX2_addRow_24 : decode cX2_addRow 24 = .ok (.iastore, 1) := by decide +kernel
theorem dX2_addRow_25 : decode cX2_addRow 25 = .ok (.aload_n 0, 1) := by decide +kernel
theorem dX2_addRow_26 : decode cX2_addRow 26 = .ok (.getfield 45, 3) := by decide +kernel
theorem dX2_addRow_29 : decode cX2_addRow 29 = .ok (.aload_n 0, 1) := by decide +kernel
theorem dX2_addRow_30 : decode cX2_addRow 30 = .ok (.getfield 51, 3) := by decide +kernel
theorem dX2_addRow_33 : decode cX2_addRow 33 = .ok (.iload_n 2, 1) := by decide +kernel
theorem dX2_addRow_34 : decode cX2_addRow 34 = .ok (.iastore, 1) := by decide +kernel
theorem dX2_addRow_35 : decode cX2_addRow 35 = .ok (.aload_n 0, 1) := by decide +kernel
theorem dX2_addRow_36 : decode cX2_addRow 36 = .ok (.getfield 48, 3) := by decide +kernel
theorem dX2_addRow_39 : decode cX2_addRow 39 = .ok (.aload_n 0, 1) := by decide +kernel
theorem dX2_addRow_40 : decode cX2_addRow 40 = .ok (.getfield 51, 3) := by decide +kernel
theorem dX2_addRow_43 : decode cX2_addRow 43 = .ok (.iload_n 3, 1) := by decide +kernel
theorem dX2_addRow_44 : decode cX2_addRow 44 = .ok (.iastore, 1) := by decide +kernel
theorem dX2_addRow_45 : decode cX2_addRow 45 = .ok (.aload_n 0, 1) := by decide +kernel
theorem dX2_addRow_46 : decode cX2_addRow 46 = .ok (.dup, 1) := by decide +kernel
theorem dX2_addRow_47 : decode cX2_addRow 47 = .ok (.getfield 51, 3) := by decide +kernel
theorem dX2_addRow_50 : decode cX2_addRow 50 = .ok (.iconst 1, 1) := by decide +kernel
theorem dX2_addRow_51 : decode cX2_addRow 51 = .ok (.iadd, 1) := by decide +kernel
theorem dX2_addRow_52 : decode cX2_addRow 52 = .ok (.putfield 51, 3) := by decide +kernel
theorem dX2_addRow_55 : decode cX2_addRow 55 = .ok (.aload_n 0, 1) := by decide +kernel
theorem dX2_addRow_56 : decode cX2_addRow 56 = .ok (.getfield 51, 3) := by decide +kernel
theorem dX2_addRow_59 : decode cX2_addRow 59 = .ok (.ireturn, 1) := by decide +kernel
theorem dX3_init_0 : decode cX3_init 0 = .ok (.aload_n 0, 1) := by decide +kernel
theorem dX3_init_1 : decode cX3_init 1 = .ok (.invokespecial 3, 3) := by decide +kernel
theorem dX3_init_4 : decode cX3_init 4 = .ok (.aload_n 0, 1) := by decide +kernel
theorem dX3_init_5 : decode cX3_init 5 = .ok (.iconst 0, 1) := by decide +kernel
theorem dX3_init_6 : decode cX3_init 6 = .ok (.putfield 9, 3) := by decide +kernel
theorem dX3_init_9 : decode cX3_init 9 = .ok (.aload_n 0, 1) := by decide +kernel
theorem dX3_init_10 : decode cX3_init 10 = .ok (.iconst (-1), 1) := by decide +kernel
theorem dX3_init_11 : decode cX3_init 11 = .ok (.putfield 15, 3) := by decide +kernel
theorem dX3_init_14 : decode cX3_init 14 = .ok (.aload_n 0, 1) := by decide +kernel
theorem dX3_init_15 : decode cX3_init 15 = .ok (.iconst (-1), 1) := by decide +kernel
theorem dX3_init_16 : decode cX3_init 16 = .ok (.putfield 18, 3) := by decide +kernel
theorem dX3_init_19 : decode cX3_init 19 = .ok (.aload_n 0, 1) := by decide +kernel
theorem dX3_init_20 : decode cX3_init 20 = .ok (.iconst (-1), 1) := by decide +kernel
theorem dX3_init_21 : decode cX3_init 21 = .ok (.putfield 21, 3) := by decide +kernel
theorem dX3_init_24 : decode cX3_init 24 = .ok (.aload_n 0, 1) := by decide +kernel
theorem dX3_init_25 : decode cX3_init 25 = .ok (.iconst (-1), 1) := by decide +kernel
theorem dX3_init_26 : decode cX3_init 26 = .ok (.putfield 24, 3) := by decide +kernel
theorem dX3_init_29 : decode cX3_init 29 = .ok (.return_, 1) := by decide +kernel
theorem dX3_fillFromRow_0 : decode cX3_fillFromRow 0 = .ok (.aload_n 0, 1) := by decide +kernel
theorem dX3_fillFromRow_1 : decode cX3_fillFromRow 1 = .ok (.invokevirtual 27, 3) := by decide +kernel
theorem dX3_fillFromRow_4 : decode cX3_fillFromRow 4 = .ok (.aload_n 0, 1) := by decide +kernel
theorem dX3_fillFromRow_5 : decode cX3_fillFromRow 5 = .ok (.iload_n 1, 1) := by decide +kernel
theorem dX3_fillFromRow_6 : decode cX3_fillFromRow 6 = .ok (.putfield 9, 3) := by decide +kernel
theorem dX3_fillFromRow_9 : decode cX3_fillFromRow 9 = .ok (.aload_n 0, 1) := by decide +kernel
theorem dX3_fillFromRow_10 : decode cX3_fillFromRow 10 = .ok (.iload_n 2, 1) := by decide +kernel
theorem dX3_fillFromRow_11 : decode cX3_fillFromRow 11 = .ok (.putfield 21, 3) := by decide +kernel
theorem dX3_fillFromRow_14 : decode cX3_fillFromRow 14 = .ok (.aload_n 0, 1) := by decide +kernel
theorem dX3_fillFromRow_15 : decode cX3_fillFromRow 15 = .ok (.iload_n 3, 1) := by decide +kernel
theorem dX3_fillFromRow_16 : decode cX3_fillFromRow 16 = .ok (.putfield 18, 3) := by decide +kernel
theorem dX3_fillFromRow_19 : decode cX3_fillFromRow 19 = .ok (.return_, 1) := by decide +kernel
theorem dX3_read_0 : decode cX3_read 0 = .ok (.aload_n 0, 1) := by decide +kernel
theorem dX3_read_1 : decode cX3_read 1 = .ok (.invokevirtual 27, 3) := by decide +kernel
theorem dX3_read_4 : decode cX3_read 4 = .ok (.iload_n 2, 1) := by decide +kernel
theorem dX3_read_5 : decode cX3_read 5 = .ok (.iconst 2, 1) := by decide +kernel
theorem dX3_read_6 : decode cX3_read 6 = .ok (.if_icmp .lt 9, 3) := by decide +kernel
theorem dX3_read_9 : decode cX3_read 9 = .ok (.iload_n 2, 1) := by decide +kernel
theorem dX3_read_10 : decode cX3_read 10 = .ok (.aload_n 1, 1) := by decide +kernel
theorem dX3_read_11 : decode cX3_read 11 = .ok (.arraylength, 1) := by decide +kernel
theorem dX3_read_12 : decode cX3_read 12 = .ok (.if_icmp .le 5, 3) := by decide +kernel
theorem dX3_read_15 : decode cX3_read 15 = .ok (.iconst 0, 1) := by decide +kernel
theorem dX3_read_16 : decode cX3_read 16 = .ok (.ireturn, 1) := by decide +kernel
theorem dX3_read_17 : decode cX3_read 17 = .ok (.aload_n 1, 1) := by decide +kernel
theorem dX3_read_18 : decode cX3_read 18 = .ok (.iconst 0, 1) := by decide +kernel
theorem dX3_read_19 : decode cX3_read 19 = .ok (.iaload, 1) := by decide +kernel
theorem dX3_read_20 : decode cX3_read 20 = .ok (.invokestatic 30, 3) := by decide +kernel
theorem dX3_read_23 : decode cX3_read 23 = .ok (.astore_n 3, 1) := by decide +kernel
theorem dX3_read_24 : decode cX3_read 24 = .ok (.aload_n 3, 1) := by decide +kernel
theorem dX3_read_25 : decode cX3_read 25 = .ok (.ifnull 12, 3) := by decide +kernel
theorem dX3_read_28 : decode cX3_read 28 = .ok (.aload_n 1, 1) := by decide +kernel
theorem dX3_read_29 : decode cX3_read 29 = .ok (.iconst 1, 1) := by decide +kernel
theorem dX3_read_30 : decode cX3_read 30 = .ok (.iaload, 1) := by decide +kernel
theorem dX3_read_31 : decode cX3_read 31 = .ok (.invokestatic 34, 3) := by decide +kernel
theorem dX3_read_34 : decode cX3_read 34 = .ok (.ifCond .ne 5, 3) := by decide +kernel
theorem dX3_read_37 : decode cX3_read 37 = .ok (.iconst 0, 1) := by decide +kernel
theorem dX3_read_38 : decode cX3_read 38 = .ok (.ireturn, 1) := by decide +kernel
theorem dX3_read_39 : decode cX3_read 39 = .ok (.aload_n 0, 1) := by decide +kernel
theorem dX3_read_40 : decode cX3_read 40 = .ok (.aload_n 1, 1) := by decide +kernel
theorem dX3_read_41 : decode cX3_read 41 = .ok (.iconst 0, 1) := by decide +kernel
theorem dX3_read_42 : decode cX3_read 42 = .ok (.iaload, 1) := by decide +kernel
theorem dX3_read_43 : decode cX3_read 43 = .ok (.putfield 9, 3) := by decide +kernel
theorem dX3_read_46 : decode cX3_read 46 = .ok (.aload_n 0, 1) := by decide +kernel
theorem dX3_read_47 : decode cX3_read 47 = .ok (.aload_n 1, 1) := by decide +kernel
theorem dX3_read_48 : decode cX3_read 48 = .ok (.iconst 1, 1) := by decide +kernel
theorem dX3_read_49 : decode cX3_read 49 = .ok (.iaload, 1) := by decide +kernel
theorem dX3_read_50 : decode cX3_read 50 = .ok (.bipush 48, 2) := by decide +kernel
theorem dX3_read_52 : decode cX3_read 52 = .ok (.isub, 1) := by decide +kernel
theorem dX3_read_53 : decode cX3_read 53 = .ok (.putfield 15, 3) := by decide +kernel
theorem dX3_read_56 : decode cX3_read 56 = .ok (.iconst 2, 1) := by decide +kernel
theorem dX3_read_57 : decode cX3_read 57 = .ok (.istore 4, 2) := by decide +kernel
theorem dX3_read_59 : decode cX3_read 59 = .ok (.iconst 0, 1) := by decide +kernel
theorem dX3_read_60 : decode cX3_read 60 = .ok (.istore 5, 2) := by decide +kernel
theorem dX3_read_62 : decode cX3_read 62 = .ok (.iload 5, 2) := by decide +kernel
theorem dX3_read_64 : decode cX3_read 64 = .ok (.aload_n 3, 1) := by decide +kernel
theorem dX3_read_65 : decode cX3_read 65 = .ok (.invokevirtual 38, 3) := by decide +kernel
theorem dX3_read_68 : decode cX3_read 68 = .ok (.if_icmp .ge 33, 3) := by decide +kernel
theorem dX3_read_71 : decode cX3_read 71 = .ok (.aload_n 0, 1) := by decide +kernel
theorem dX3_read_72 : decode cX3_read 72 = .ok (.aload_n 3, 1) := by decide +kernel
theorem dX3_read_73 : decode cX3_read 73 = .ok (.iload 5, 2) := by decide +kernel
theorem dX3_read_75 : decode cX3_read 75 = .ok (.invokevirtual 44, 3) := by decide +kernel
theorem dX3_read_78 : decode cX3_read 78 = .ok (.aload_n 1, 1) := by decide +kernel
theorem dX3_read_79 : decode cX3_read 79 = .ok (.iload_n 2, 1) := by decide +kernel
theorem dX3_read_80 : decode cX3_read 80 = .ok (.iload 4, 2) := by decide +kernel
theorem dX3_read_82 : decode cX3_read 82 = .ok (.invokevirtual 48, 3) := by decide +kernel
theorem dX3_read_85 : decode cX3_read 85 = .ok (.istore 4, 2) := by decide +kernel
theorem dX3_read_87 : decode cX3_read 87 = .ok (.iload 4, 2) := by decide +kernel
theorem dX3_read_89 : decode cX3_read 89 = .ok (.iconst (-1), 1) := by decide +kernel
theorem dX3_read_90 : decode cX3_read 90 = .ok (.if_icmp .ne 5, 3) := by decide +kernel
theorem dX3_read_93 : decode cX3_read 93 = .ok (.iconst 0, 1) := by decide +kernel
theorem dX3_read_94 : decode cX3_read 94 = .ok (.ireturn, 1) := by decide +kernel
theorem dX3_read_95 : decode cX3_read 95 = .ok (.iinc 5 1, 3) := by decide +kernel
theorem dX3_read_98 : decode cX3_read 98 = .ok (.goto (-36), 3) := by decide +kernel
theorem dX3_read_101 : decode cX3_read 101 = .ok (.aload_n 1, 1) := by decide +kernel
theorem dX3_read_102 : decode cX3_read 102 = .ok (.iload_n 2, 1) := by decide +kernel
theorem dX3_read_103 : decode cX3_read 103 = .ok (.iload 4, 2) := by decide +kernel
theorem dX3_read_105 : decode cX3_read 105 = .ok (.invokestatic 52, 3) := by decide +kernel
theorem dX3_read_108 : decode cX3_read 108 = .ok (.ireturn, 1) := by decide +kernel
theorem dX3_firstBadField_0 : decode cX3_firstBadField 0 = .ok (.aload_n 0, 1) := by decide +kernel
theorem dX3_firstBadField_1 : decode cX3_firstBadField 1 = .ok (.getfield 9, 3) := by decide +kernel
theorem dX3_firstBadField_4 : decode cX3_firstBadField 4 = .ok (.invokestatic 30, 3) := by decide +kernel
theorem dX3_firstBadField_7 : decode cX3_firstBadField 7 = .ok (.astore_n 1, 1) := by decide +kernel
theorem dX3_firstBadField_8 : decode cX3_firstBadField 8 = .ok (.aload_n 1, 1) := by decide +kernel
theorem dX3_firstBadField_9 : decode cX3_firstBadField 9 = .ok (.ifnonnull 5, 3) := by decide +kernel
theorem dX3_firstBadField_12 : decode cX3_firstBadField 12 = .ok (.iconst (-1), 1) := by decide +kernel
theorem dX3_firstBadField_13 : decode cX3_firstBadField 13 = .ok (.ireturn, 1) := by decide +kernel
theorem dX3_firstBadField_14 : decode cX3_firstBadField 14 = .ok (.iconst 0, 1) := by decide +kernel
theorem dX3_firstBadField_15 : decode cX3_firstBadField 15 = .ok (.istore_n 2, 1) := by decide +kernel
theorem dX3_firstBadField_16 : decode cX3_firstBadField 16 = .ok (.iload_n 2, 1) := by decide +kernel
theorem dX3_firstBadField_17 : decode cX3_firstBadField 17 = .ok (.aload_n 1, 1) := by decide +kernel
theorem dX3_firstBadField_18 : decode cX3_firstBadField 18 = .ok (.invokevirtual 38, 3) := by decide +kernel
theorem dX3_firstBadField_21 : decode cX3_firstBadField 21 = .ok (.if_icmp .ge 27, 3) := by decide +kernel
theorem dX3_firstBadField_24 : decode cX3_firstBadField 24 = .ok (.aload_n 0, 1) := by decide +kernel
theorem dX3_firstBadField_25 : decode cX3_firstBadField 25 = .ok (.aload_n 1, 1) := by decide +kernel
theorem dX3_firstBadField_26 : decode cX3_firstBadField 26 = .ok (.iload_n 2, 1) := by decide +kernel
theorem dX3_firstBadField_27 : decode cX3_firstBadField 27 = .ok (.invokevirtual 44, 3) := by decide +kernel
theorem dX3_firstBadField_30 : decode cX3_firstBadField 30 = .ok (.invokevirtual 56, 3) := by decide +kernel
theorem dX3_firstBadField_33 : decode cX3_firstBadField 33 = .ok (.ifCond .ne 9, 3) := by decide +kernel
theorem dX3_firstBadField_36 : decode cX3_firstBadField 36 = .ok (.aload_n 1, 1) := by decide +kernel
theorem dX3_firstBadField_37 : decode cX3_firstBadField 37 = .ok (.iload_n 2, 1) := by decide +kernel
theorem dX3_firstBadField_38 : decode cX3_firstBadField 38 = .ok (.invokevirtual 44, 3) := by decide +kernel
theorem dX3_firstBadField_41 : decode cX3_firstBadField 41 = .ok (.ireturn, 1) := by decide +kernel
theorem dX3_firstBadField_42 : decode cX3_firstBadField 42 = .ok (.iinc 2 1, 3) := by decide +kernel
theorem dX3_firstBadField_45 : decode cX3_firstBadField 45 = .ok (.goto (-29), 3) := by decide +kernel
theorem dX3_firstBadField_48 : decode cX3_firstBadField 48 = .ok (.iconst (-1), 1) := by decide +kernel
theorem dX3_firstBadField_49 : decode cX3_firstBadField 49 = .ok (.ireturn, 1) := by decide +kernel
theorem dX3_changesTheHouse_0 : decode cX3_changesTheHouse 0 = .ok (.aload_n 0, 1) := by decide +kernel
theorem dX3_changesTheHouse_1 : decode cX3_changesTheHouse 1 = .ok (.getfield 9, 3) := by decide +kernel
theorem dX3_changesTheHouse_4 : decode cX3_changesTheHouse 4 = .ok (.bipush 67, 2) := by decide +kernel
theorem dX3_changesTheHouse_6 : decode cX3_changesTheHouse 6 = .ok (.if_icmp .eq 39, 3) := by decide +kernel
theorem dX3_changesTheHouse_9 : decode cX3_changesTheHouse 9 = .ok (.aload_n 0, 1) := by decide +kernel
theorem dX3_changesTheHouse_10 : decode cX3_changesTheHouse 10 = .ok (.getfield 9, 3) := by decide +kernel
theorem dX3_changesTheHouse_13 : decode cX3_changesTheHouse 13 = .ok (.bipush 66, 2) := by decide +kernel
theorem dX3_changesTheHouse_15 : decode cX3_changesTheHouse 15 = .ok (.if_icmp .eq 30, 3) := by decide +kernel
theorem dX3_changesTheHouse_18 : decode cX3_changesTheHouse 18 = .ok (.aload_n 0, 1) := by decide +kernel
theorem dX3_changesTheHouse_19 : decode cX3_changesTheHouse 19 = .ok (.getfield 9, 3) := by decide +kernel
theorem dX3_changesTheHouse_22 : decode cX3_changesTheHouse 22 = .ok (.bipush 70, 2) := by decide +kernel
theorem dX3_changesTheHouse_24 : decode cX3_changesTheHouse 24 = .ok (.if_icmp .eq 21, 3) := by decide +kernel
theorem dX3_changesTheHouse_27 : decode cX3_changesTheHouse 27 = .ok (.aload_n 0, 1) := by decide +kernel
theorem dX3_changesTheHouse_28 : decode cX3_changesTheHouse 28 = .ok (.getfield 9, 3) := by decide +kernel
theorem dX3_changesTheHouse_31 : decode cX3_changesTheHouse 31 = .ok (.bipush 72, 2) := by decide +kernel
theorem dX3_changesTheHouse_33 : decode cX3_changesTheHouse 33 = .ok (.if_icmp .eq 12, 3) := by decide +kernel
theorem dX3_changesTheHouse_36 : decode cX3_changesTheHouse 36 = .ok (.aload_n 0, 1) := by decide +kernel
theorem dX3_changesTheHouse_37 : decode cX3_changesTheHouse 37 = .ok (.getfield 9, 3) := by decide +kernel
theorem dX3_changesTheHouse_40 : decode cX3_changesTheHouse 40 = .ok (.bipush 82, 2) := by decide +kernel
theorem dX3_changesTheHouse_42 : decode cX3_changesTheHouse 42 = .ok (.if_icmp .ne 7, 3) := by decide +kernel
theorem dX3_changesTheHouse_45 : decode cX3_changesTheHouse 45 = .ok (.iconst 1, 1) := by decide +kernel
theorem dX3_changesTheHouse_46 : decode cX3_changesTheHouse 46 = .ok (.goto 4, 3) := by decide +kernel
theorem dX3_changesTheHouse_49 : decode cX3_changesTheHouse 49 = .ok (.iconst 0, 1) := by decide +kernel
theorem dX3_changesTheHouse_50 : decode cX3_changesTheHouse 50 = .ok (.ireturn, 1) := by decide +kernel
theorem dX3_forget_0 : decode cX3_forget 0 = .ok (.aload_n 0, 1) := by decide +kernel
theorem dX3_forget_1 : decode cX3_forget 1 = .ok (.iconst 0, 1) := by decide +kernel
theorem dX3_forget_2 : decode cX3_forget 2 = .ok (.putfield 9, 3) := by decide +kernel
theorem dX3_forget_5 : decode cX3_forget 5 = .ok (.aload_n 0, 1) := by decide +kernel
theorem dX3_forget_6 : decode cX3_forget 6 = .ok (.iconst (-1), 1) := by decide +kernel
theorem dX3_forget_7 : decode cX3_forget 7 = .ok (.putfield 15, 3) := by decide +kernel
theorem dX3_forget_10 : decode cX3_forget 10 = .ok (.aload_n 0, 1) := by decide +kernel
theorem dX3_forget_11 : decode cX3_forget 11 = .ok (.iconst (-1), 1) := by decide +kernel
theorem dX3_forget_12 : decode cX3_forget 12 = .ok (.putfield 18, 3) := by decide +kernel
theorem dX3_forget_15 : decode cX3_forget 15 = .ok (.aload_n 0, 1) := by decide +kernel
theorem dX3_forget_16 : decode cX3_forget 16 = .ok (.iconst (-1), 1) := by decide +kernel
theorem dX3_forget_17 : decode cX3_forget 17 = .ok (.putfield 21, 3) := by decide +kernel
theorem dX3_forget_20 : decode cX3_forget 20 = .ok (.aload_n 0, 1) := by decide +kernel
theorem dX3_forget_21 : decode cX3_forget 21 = .ok (.iconst (-1), 1) := by decide +kernel
theorem dX3_forget_22 : decode cX3_forget 22 = .ok (.putfield 24, 3) := by decide +kernel
theorem dX3_forget_25 : decode cX3_forget 25 = .ok (.return_, 1) := by decide +kernel
theorem dX3_fieldsOf_0 : decode cX3_fieldsOf 0 = .ok (.iload_n 0, 1) := by decide +kernel
theorem dX3_fieldsOf_1 : decode cX3_fieldsOf 1 = .ok (.tableswitch 102 66 83 #[93, 90, 102, 102, 99, 102, 90, 93, 102, 102, 102, 102, 102, 102, 96, 87, 90, 87], 87) := by decide +kernel
theorem dX3_fieldsOf_88 : decode cX3_fieldsOf 88 = .ok (.ldc 59, 2) := by decide +kernel
theorem dX3_fieldsOf_90 : decode cX3_fieldsOf 90 = .ok (.areturn, 1) := by decide +kernel
theorem dX3_fieldsOf_91 : decode cX3_fieldsOf 91 = .ok (.ldc 61, 2) := by decide +kernel
theorem dX3_fieldsOf_93 : decode cX3_fieldsOf 93 = .ok (.areturn, 1) := by decide +kernel
theorem dX3_fieldsOf_94 : decode cX3_fieldsOf 94 = .ok (.ldc 63, 2) := by decide +kernel
theorem dX3_fieldsOf_96 : decode cX3_fieldsOf 96 = .ok (.areturn, 1) := by decide +kernel
theorem dX3_fieldsOf_97 : decode cX3_fieldsOf 97 = .ok (.ldc 65, 2) := by decide +kernel
theorem dX3_fieldsOf_99 : decode cX3_fieldsOf 99 = .ok (.areturn, 1) := by decide +kernel
theorem dX3_fieldsOf_100 : decode cX3_fieldsOf 100 = .ok (.ldc 67, 2) := by decide +kernel
theorem dX3_fieldsOf_102 : decode cX3_fieldsOf 102 = .ok (.areturn, 1) := by decide +kernel
theorem dX3_fieldsOf_103 : decode cX3_fieldsOf 103 = .ok (.aconst_null, 1) := by decide +kernel
theorem dX3_fieldsOf_104 : decode cX3_fieldsOf 104 = .ok (.areturn, 1) := by decide +kernel
theorem dX3_readField_0 : decode cX3_readField 0 = .ok (.iload 4, 2) := by decide +kernel
theorem dX3_readField_2 : decode cX3_readField 2 = .ok (.iload_n 3, 1) := by decide +kernel
theorem dX3_readField_3 : decode cX3_readField 3 = .ok (.if_icmp .ge 11, 3) := by decide +kernel
theorem dX3_readField_6 : decode cX3_readField 6 = .ok (.aload_n 2, 1) := by decide +kernel
theorem dX3_readField_7 : decode cX3_readField 7 = .ok (.iload 4, 2) := by decide +kernel
theorem dX3_readField_9 : decode cX3_readField 9 = .ok (.iaload, 1) := by decide +kernel
theorem dX3_readField_10 : decode cX3_readField 10 = .ok (.iload_n 1, 1) := by decide +kernel
theorem dX3_readField_11 : decode cX3_readField 11 = .ok (.if_icmp .eq 5, 3) := by decide +kernel
theorem dX3_readField_14 : decode cX3_readField 14 = .ok (.iconst (-1), 1) := by decide +kernel
theorem dX3_readField_15 : decode cX3_readField 15 = .ok (.ireturn, 1) := by decide +kernel
theorem dX3_readField_16 : decode cX3_readField 16 = .ok (.iload 4, 2) := by decide +kernel
theorem dX3_readField_18 : decode cX3_readField 18 = .ok (.iconst 1, 1) := by decide +kernel
theorem dX3_readField_19 : decode cX3_readField 19 = .ok (.iadd, 1) := by decide +kernel
theorem dX3_readField_20 : decode cX3_readField 20 = .ok (.istore 5, 2) := by decide +kernel
theorem dX3_readField_22 : decode cX3_readField 22 = .ok (.iload_n 3, 1) := by decide +kernel
theorem dX3_readField_23 : decode cX3_readField 23 = .ok (.iload 5, 2) := by decide +kernel
theorem dX3_readField_25 : decode cX3_readField 25 = .ok (.iconst 5, 1) := by decide +kernel
theorem dX3_readField_26 : decode cX3_readField 26 = .ok (.iadd, 1) := by decide +kernel
theorem dX3_readField_27 : decode cX3_readField 27 = .ok (.invokestatic 69, 3) := by decide +kernel
theorem dX3_readField_30 : decode cX3_readField 30 = .ok (.istore 6, 2) := by decide +kernel
theorem dX3_readField_32 : decode cX3_readField 32 = .ok (.iconst 0, 1) := by decide +kernel
theorem dX3_readField_33 : decode cX3_readField 33 = .ok (.istore 7, 2) := by decide +kernel
theorem dX3_readField_35 : decode cX3_readField 35 = .ok (.iload 5, 2) := by decide +kernel
theorem dX3_readField_37 : decode cX3_readField 37 = .ok (.istore 8, 2) := by decide +kernel
theorem dX3_readField_39 : decode cX3_readField 39 = .ok (.iload 8, 2) := by decide +kernel
theorem dX3_readField_41 : decode cX3_readField 41 = .ok (.iload 6, 2) := by decide +kernel
theorem dX3_readField_43 : decode cX3_readField 43 = .ok (.if_icmp .ge 34, 3) := by decide +kernel
theorem dX3_readField_46 : decode cX3_readField 46 = .ok (.aload_n 2, 1) := by decide +kernel
theorem dX3_readField_47 : decode cX3_readField 47 = .ok (.iload 8, 2) := by decide +kernel
theorem dX3_readField_49 : decode cX3_readField 49 = .ok (.iaload, 1) := by decide +kernel
theorem dX3_readField_50 : decode cX3_readField 50 = .ok (.invokestatic 34, 3) := by decide +kernel
theorem dX3_readField_53 : decode cX3_readField 53 = .ok (.ifCond .eq 24, 3) := by decide +kernel
theorem dX3_readField_56 : decode cX3_readField 56 = .ok (.iload 7, 2) := by decide +kernel
theorem dX3_readField_58 : decode cX3_readField 58 = .ok (.bipush 10, 2) := by decide +kernel
theorem dX3_readField_60 : decode cX3_readField 60 = .ok (.imul, 1) := by decide +kernel
theorem dX3_readField_61 : decode cX3_readField 61 = .ok (.aload_n 2, 1) := by decide +kernel
theorem dX3_readField_62 : decode cX3_readField 62 = .ok (.iload 8, 2) := by decide +kernel
theorem dX3_readField_64 : decode cX3_readField 64 = .ok (.iaload, 1) := by decide +kernel
theorem dX3_readField_65 : decode cX3_readField 65 = .ok (.iadd, 1) := by decide +kernel
theorem dX3_readField_66 : decode cX3_readField 66 = .ok (.bipush 48, 2) := by decide +kernel
theorem dX3_readField_68 : decode cX3_readField 68 = .ok (.isub, 1) := by decide +kernel
theorem dX3_readField_69 : decode cX3_readField 69 = .ok (.istore 7, 2) := by decide +kernel
theorem dX3_readField_71 : decode cX3_readField 71 = .ok (.iinc 8 1, 3) := by decide +kernel
theorem dX3_readField_74 : decode cX3_readField 74 = .ok (.goto (-35), 3) := by decide +kernel
theorem dX3_readField_77 : decode cX3_readField 77 = .ok (.iload 8, 2) := by decide +kernel
theorem dX3_readField_79 : decode cX3_readField 79 = .ok (.iload 5, 2) := by decide +kernel
theorem dX3_readField_81 : decode cX3_readField 81 = .ok (.if_icmp .eq 18, 3) := by decide +kernel
theorem dX3_readField_84 : decode cX3_readField 84 = .ok (.iload 8, 2) := by decide +kernel
theorem dX3_readField_86 : decode cX3_readField 86 = .ok (.iload_n 3, 1) := by decide +kernel
theorem dX3_readField_87 : decode cX3_readField 87 = .ok (.if_icmp .ge 12, 3) := by decide +kernel
theorem dX3_readField_90 : decode cX3_readField 90 = .ok (.aload_n 2, 1) := by decide +kernel
theorem dX3_readField_91 : decode cX3_readField 91 = .ok (.iload 8, 2) := by decide +kernel
theorem dX3_readField_93 : decode cX3_readField 93 = .ok (.iaload, 1) := by decide +kernel
theorem dX3_readField_94 : decode cX3_readField 94 = .ok (.bipush 124, 2) := by decide +kernel
theorem dX3_readField_96 : decode cX3_readField 96 = .ok (.if_icmp .eq 5, 3) := by decide +kernel
theorem dX3_readField_99 : decode cX3_readField 99 = .ok (.iconst (-1), 1) := by decide +kernel
theorem dX3_readField_100 : decode cX3_readField 100 = .ok (.ireturn, 1) := by decide +kernel
theorem dX3_readField_101 : decode cX3_readField 101 = .ok (.aload_n 0, 1) := by decide +kernel
theorem dX3_readField_102 : decode cX3_readField 102 = .ok (.iload_n 1, 1) := by decide +kernel
theorem dX3_readField_103 : decode cX3_readField 103 = .ok (.iload 7, 2) := by decide +kernel
theorem dX3_readField_105 : decode cX3_readField 105 = .ok (.invokevirtual 75, 3) := by decide +kernel
theorem dX3_readField_108 : decode cX3_readField 108 = .ok (.iload 8, 2) := by decide +kernel
theorem dX3_readField_110 : decode cX3_readField 110 = .ok (.iconst 1, 1) := by decide +kernel
theorem dX3_readField_111 : decode cX3_readField 111 = .ok (.iadd, 1) := by decide +kernel
theorem dX3_readField_112 : decode cX3_readField 112 = .ok (.ireturn, 1) := by decide +kernel
theorem dX3_keepField_0 : decode cX3_keepField 0 = .ok (.iload_n 1, 1) := by decide +kernel
theorem dX3_keepField_1 : decode cX3_keepField 1 = .ok (.bipush 97, 2) := by decide +kernel
theorem dX3_keepField_3 : decode cX3_keepField 3 = .ok (.if_icmp .ne 11, 3) := by decide +kernel
theorem dX3_keepField_6 : decode cX3_keepField 6 = .ok (.aload_n 0, 1) := by decide +kernel
theorem dX3_keepField_7 : decode cX3_keepField 7 = .ok (.iload_n 2, 1) := by decide +kernel
theorem dX3_keepField_8 : decode cX3_keepField 8 = .ok (.putfield 18, 3) := by decide +kernel
theorem dX3_keepField_11 : decode cX3_keepField 11 = .ok (.goto 22, 3) := by decide +kernel
theorem dX3_keepField_14 : decode cX3_keepField 14 = .ok (.iload_n 1, 1) := by decide +kernel
theorem dX3_keepField_15 : decode cX3_keepField 15 = .ok (.bipush 98, 2) := by decide +kernel
theorem dX3_keepField_17 : decode cX3_keepField 17 = .ok (.if_icmp .ne 11, 3) := by decide +kernel
theorem dX3_keepField_20 : decode cX3_keepField 20 = .ok (.aload_n 0, 1) := by decide +kernel
theorem dX3_keepField_21 : decode cX3_keepField 21 = .ok (.iload_n 2, 1) := by decide +kernel
theorem dX3_keepField_22 : decode cX3_keepField 22 = .ok (.putfield 21, 3) := by decide +kernel
theorem dX3_keepField_25 : decode cX3_keepField 25 = .ok (.goto 8, 3) := by decide +kernel
theorem dX3_keepField_28 : decode cX3_keepField 28 = .ok (.aload_n 0, 1) := by decide +kernel
theorem dX3_keepField_29 : decode cX3_keepField 29 = .ok (.iload_n 2, 1) := by decide +kernel
theorem dX3_keepField_30 : decode cX3_keepField 30 = .ok (.putfield 24, 3) := by decide +kernel
theorem dX3_keepField_33 : decode cX3_keepField 33 = .ok (.return_, 1) := by decide +kernel
theorem dX3_isGoodField_0 : decode cX3_isGoodField 0 = .ok (.iload_n 1, 1) := by decide +kernel
theorem dX3_isGoodField_1 : decode cX3_isGoodField 1 = .ok (.bipush 97, 2) := by decide +kernel
theorem dX3_isGoodField_3 : decode cX3_isGoodField 3 = .ok (.if_icmp .ne 13, 3) := by decide +kernel
theorem dX3_isGoodField_6 : decode cX3_isGoodField 6 = .ok (.aload_n 0, 1) := by decide +kernel
theorem dX3_isGoodField_7 : decode cX3_isGoodField 7 = .ok (.getfield 18, 3) := by decide +kernel
theorem dX3_isGoodField_10 : decode cX3_isGoodField 10 = .ok (.bipush 30, 2) := by decide +kernel
theorem dX3_isGoodField_12 : decode cX3_isGoodField 12 = .ok (.invokestatic 79, 3) := by decide +kernel
theorem dX3_isGoodField_15 : decode cX3_isGoodField 15 = .ok (.ireturn, 1) := by decide +kernel
theorem dX3_isGoodField_16 : decode cX3_isGoodField 16 = .ok (.iload_n 1, 1) := by decide +kernel
theorem dX3_isGoodField_17 : decode cX3_isGoodField 17 = .ok (.bipush 98, 2) := by decide +kernel
theorem dX3_isGoodField_19 : decode cX3_isGoodField 19 = .ok (.if_icmp .ne 13, 3) := by decide +kernel
theorem dX3_isGoodField_22 : decode cX3_isGoodField 22 = .ok (.aload_n 0, 1) := by decide +kernel
theorem dX3_isGoodField_23 : decode cX3_isGoodField 23 = .ok (.getfield 21, 3) := by decide +kernel
theorem dX3_isGoodField_26 : decode cX3_isGoodField 26 = .ok (.bipush 30, 2) := by decide +kernel
theorem dX3_isGoodField_28 : decode cX3_isGoodField 28 = .ok (.invokestatic 79, 3) := by decide +kernel
theorem dX3_isGoodField_31 : decode cX3_isGoodField 31 = .ok (.ireturn, 1) := by decide +kernel
theorem dX3_isGoodField_32 : decode cX3_isGoodField 32 = .ok (.aload_n 0, 1) := by decide +kernel
theorem dX3_isGoodField_33 : decode cX3_isGoodField 33 = .ok (.getfield 24, 3) := by decide +kernel
theorem dX3_isGoodField_36 : decode cX3_isGoodField 36 = .ok (.ifCond .lt 16, 3) := by decide +kernel
theorem dX3_isGoodField_39 : decode cX3_isGoodField 39 = .ok (.aload_n 0, 1) := by decide +kernel
theorem dX3_isGoodField_40 : decode cX3_isGoodField 40 = .ok (.getfield 24, 3) := by decide +kernel
theorem dX3_isGoodField_43 : decode cX3_isGoodField 43 = .ok (.ldc 83, 2) := by decide +kernel
theorem dX3_isGoodField_45 : decode cX3_isGoodField 45 = .ok (.if_icmp .gt 7, 3) := by decide +kernel
theorem dX3_isGoodField_48 : decode cX3_isGoodField 48 = .ok (.iconst 1, 1) := by decide +kernel
theorem dX3_isGoodField_49 : decode cX3_isGoodField 49 = .ok (.goto 4, 3) := by decide +kernel
theorem dX3_isGoodField_52 : decode cX3_isGoodField 52 = .ok (.iconst 0, 1) := by decide +kernel
theorem dX3_isGoodField_53 : decode cX3_isGoodField 53 = .ok (.ireturn, 1) := by decide +kernel
theorem dX3_endsWithSum_0 : decode cX3_endsWithSum 0 = .ok (.iload_n 1, 1) := by decide +kernel
theorem dX3_endsWithSum_1 : decode cX3_endsWithSum 1 = .ok (.iload_n 2, 1) := by decide +kernel
theorem dX3_endsWithSum_2 : decode cX3_endsWithSum 2 = .ok (.iconst 3, 1) := by decide +kernel
theorem dX3_endsWithSum_3 : decode cX3_endsWithSum 3 = .ok (.iadd, 1) := by decide +kernel
theorem dX3_endsWithSum_4 : decode cX3_endsWithSum 4 = .ok (.if_icmp .ne 11, 3) := by decide +kernel
theorem dX3_endsWithSum_7 : decode cX3_endsWithSum 7 = .ok (.aload_n 0, 1) := by decide +kernel
theorem dX3_endsWithSum_8 : decode cX3_endsWithSum 8 = .ok (.iload_n 2, 1) := by decide +kernel
theorem dX3_endsWithSum_9 : decode cX3_endsWithSum 9 = .ok (.iaload, 1) := by decide +kernel
theorem dX3_endsWithSum_10 : decode cX3_endsWithSum 10 = .ok (.bipush 90, 2) := by decide +kernel
theorem dX3_endsWithSum_12 : decode cX3_endsWithSum 12 = .ok (.if_icmp .eq 5, 3) := by decide +kernel
theorem dX3_endsWithSum_15 : decode cX3_endsWithSum 15 = .ok (.iconst 0, 1) := by decide +kernel
theorem dX3_endsWithSum_16 : decode cX3_endsWithSum 16 = .ok (.ireturn, 1) := by decide +kernel
theorem dX3_endsWithSum_17 : decode cX3_endsWithSum 17 = .ok (.aload_n 0, 1) := by decide +kernel
theorem dX3_endsWithSum_18 : decode cX3_endsWithSum 18 = .ok (.iload_n 2, 1) := by decide +kernel
theorem dX3_endsWithSum_19 : decode cX3_endsWithSum 19 = .ok (.invokestatic 84, 3) := by decide +kernel
theorem dX3_endsWithSum_22 : decode cX3_endsWithSum 22 = .ok (.istore_n 3, 1) := by decide +kernel
theorem dX3_endsWithSum_23 : decode cX3_endsWithSum 23 = .ok (.aload_n 0, 1) := by decide +kernel
theorem dX3_endsWithSum_24 : decode cX3_endsWithSum 24 = .ok (.iload_n 2, 1) := by decide +kernel
theorem dX3_endsWithSum_25 : decode cX3_endsWithSum 25 = .ok (.iconst 1, 1) := by decide +kernel
theorem dX3_endsWithSum_26 : decode cX3_endsWithSum 26 = .ok (.iadd, 1) := by decide +kernel
theorem dX3_endsWithSum_27 : decode cX3_endsWithSum 27 = .ok (.iaload, 1) := by decide +kernel
theorem dX3_endsWithSum_28 : decode cX3_endsWithSum 28 = .ok (.iload_n 3, 1) := by decide +kernel
theorem dX3_endsWithSum_29 : decode cX3_endsWithSum 29 = .ok (.iconst 4, 1) := by decide +kernel
theorem dX3_endsWithSum_30 : decode cX3_endsWithSum 30 = .ok (.ishr, 1) := by decide +kernel
theorem dX3_endsWithSum_31 : decode cX3_endsWithSum 31 = .ok (.invokestatic 88, 3) := by decide +kernel
theorem dX3_endsWithSum_34 : decode cX3_endsWithSum 34 = .ok (.if_icmp .ne 19, 3) := by decide +kernel
theorem dX3_endsWithSum_37 : decode cX3_endsWithSum 37 = .ok (.aload_n 0, 1) := by decide +kernel
theorem dX3_endsWithSum_38 : decode cX3_endsWithSum 38 = .ok (.iload_n 2, 1) := by decide +kernel
theorem dX3_endsWithSum_39 : decode cX3_endsWithSum 39 = .ok (.iconst 2, 1) := by decide +kernel
theorem dX3_endsWithSum_40 : decode cX3_endsWithSum 40 = .ok (.iadd, 1) := by decide +kernel
theorem dX3_endsWithSum_41 : decode cX3_endsWithSum 41 = .ok (.iaload, 1) := by decide +kernel
theorem dX3_endsWithSum_42 : decode cX3_endsWithSum 42 = .ok (.iload_n 3, 1) := by decide +kernel
theorem dX3_endsWithSum_43 : decode cX3_endsWithSum 43 = .ok (.invokestatic 88, 3) := by decide +kernel
theorem dX3_endsWithSum_46 : decode cX3_endsWithSum 46 = .ok (.if_icmp .ne 7, 3) := by decide +kernel
theorem dX3_endsWithSum_49 : decode cX3_endsWithSum 49 = .ok (.iconst 1, 1) := by decide +kernel
theorem dX3_endsWithSum_50 : decode cX3_endsWithSum 50 = .ok (.goto 4, 3) := by decide +kernel
theorem dX3_endsWithSum_53 : decode cX3_endsWithSum 53 = .ok (.iconst 0, 1) := by decide +kernel
theorem dX3_endsWithSum_54 : decode cX3_endsWithSum 54 = .ok (.ireturn, 1) := by decide +kernel
theorem dX4_init_0 : decode cX4_init 0 = .ok (.aload_n 0, 1) := by decide +kernel
theorem dX4_init_1 : decode cX4_init 1 = .ok (.invokespecial 3, 3) := by decide +kernel
theorem dX4_init_4 : decode cX4_init 4 = .ok (.aload_n 0, 1) := by decide +kernel
theorem dX4_init_5 : decode cX4_init 5 = .ok (.bipush 13, 2) := by decide +kernel
theorem dX4_init_7 : decode cX4_init 7 = .ok (.newarray .int, 2) := by decide +kernel
theorem dX4_init_9 : decode cX4_init 9 = .ok (.putfield 11, 3) := by decide +kernel
theorem dX4_init_12 : decode cX4_init 12 = .ok (.aload_n 0, 1) := by decide +kernel
theorem dX4_init_13 : decode cX4_init 13 = .ok (.iconst 0, 1) := by decide +kernel
theorem dX4_init_14 : decode cX4_init 14 = .ok (.putfield 15, 3) := by decide +kernel
theorem dX4_init_17 : decode cX4_init 17 = .ok (.return_, 1) := by decide +kernel
theorem dX4_writeWrong_0 : decode cX4_writeWrong 0 = .ok (.aload_n 0, 1) := by decide +kernel
theorem dX4_writeWrong_1 : decode cX4_writeWrong 1 = .ok (.iconst 0, 1) := by decide +kernel
theorem dX4_writeWrong_2 : decode cX4_writeWrong 2 = .ok (.putfield 15, 3) := by decide +kernel
theorem dX4_writeWrong_5 : decode cX4_writeWrong 5 = .ok (.aload_n 0, 1) := by decide +kernel
theorem dX4_writeWrong_6 : decode cX4_writeWrong 6 = .ok (.bipush 78, 2) := by decide +kernel
theorem dX4_writeWrong_8 : decode cX4_writeWrong 8 = .ok (.invokevirtual 19, 3) := by decide +kernel
theorem dX4_writeWrong_11 : decode cX4_writeWrong 11 = .ok (.aload_n 0, 1) := by decide +kernel
theorem dX4_writeWrong_12 : decode cX4_writeWrong 12 = .ok (.invokevirtual 23, 3) := by decide +kernel
theorem dX4_writeWrong_15 : decode cX4_writeWrong 15 = .ok (.return_, 1) := by decide +kernel
theorem dX4_writeNo_0 : decode cX4_writeNo 0 = .ok (.aload_n 0, 1) := by decide +kernel
theorem dX4_writeNo_1 : decode cX4_writeNo 1 = .ok (.iconst 0, 1) := by decide +kernel
theorem dX4_writeNo_2 : decode cX4_writeNo 2 = .ok (.putfield 15, 3) := by decide +kernel
theorem dX4_writeNo_5 : decode cX4_writeNo 5 = .ok (.aload_n 0, 1) := by decide +kernel
theorem dX4_writeNo_6 : decode cX4_writeNo 6 = .ok (.bipush 88, 2) := by decide +kernel
theorem dX4_writeNo_8 : decode cX4_writeNo 8 = .ok (.invokevirtual 19, 3) := by decide +kernel
theorem dX4_writeNo_11 : decode cX4_writeNo 11 = .ok (.aload_n 0, 1) := by decide +kernel
theorem dX4_writeNo_12 : decode cX4_writeNo 12 = .ok (.aload_n 1, 1) := by decide +kernel
theorem dX4_writeNo_13 : decode cX4_writeNo 13 = .ok (.invokevirtual 26, 3) := by decide +kernel
theorem dX4_writeNo_16 : decode cX4_writeNo 16 = .ok (.return_, 1) := by decide +kernel
theorem dX4_writeError_0 : decode cX4_writeError 0 = .ok (.aload_n 0, 1) := by decide +kernel
theorem dX4_writeError_1 : decode cX4_writeError 1 = .ok (.iconst 0, 1) := by decide +kernel
theorem dX4_writeError_2 : decode cX4_writeError 2 = .ok (.putfield 15, 3) := by decide +kernel
theorem dX4_writeError_5 : decode cX4_writeError 5 = .ok (.aload_n 0, 1) := by decide +kernel
theorem dX4_writeError_6 : decode cX4_writeError 6 = .ok (.bipush 69, 2) := by decide +kernel
theorem dX4_writeError_8 : decode cX4_writeError 8 = .ok (.invokevirtual 19, 3) := by decide +kernel
theorem dX4_writeError_11 : decode cX4_writeError 11 = .ok (.aload_n 0, 1) := by decide +kernel
theorem dX4_writeError_12 : decode cX4_writeError 12 = .ok (.iload_n 2, 1) := by decide +kernel
theorem dX4_writeError_13 : decode cX4_writeError 13 = .ok (.invokevirtual 19, 3) := by decide +kernel
theorem dX4_writeError_16 : decode cX4_writeError 16 = .ok (.aload_n 0, 1) := by decide +kernel
theorem dX4_writeError_17 : decode cX4_writeError 17 = .ok (.aload_n 1, 1) := by decide +kernel
theorem dX4_writeError_18 : decode cX4_writeError 18 = .ok (.invokevirtual 26, 3) := by decide +kernel
theorem dX4_writeError_21 : decode cX4_writeError 21 = .ok (.return_, 1) := by decide +kernel
theorem dX4_writeVerdict_0 : decode cX4_writeVerdict 0 = .ok (.aload_n 0, 1) := by decide +kernel
theorem dX4_writeVerdict_1 : decode cX4_writeVerdict 1 = .ok (.iconst 0, 1) := by decide +kernel
theorem dX4_writeVerdict_2 : decode cX4_writeVerdict 2 = .ok (.putfield 15, 3) := by decide +kernel
theorem dX4_writeVerdict_5 : decode cX4_writeVerdict 5 = .ok (.aload_n 0, 1) := by decide +kernel
theorem dX4_writeVerdict_6 : decode cX4_writeVerdict 6 = .ok (.iload_n 2, 1) := by decide +kernel
theorem dX4_writeVerdict_7 : decode cX4_writeVerdict 7 = .ok (.ifCond .eq 8, 3) := by decide +kernel
theorem dX4_writeVerdict_10 : decode cX4_writeVerdict 10 = .ok (.bipush 89, 2) := by decide +kernel
theorem dX4_writeVerdict_12 : decode cX4_writeVerdict 12 = .ok (.goto 5, 3) := by decide +kernel
theorem dX4_writeVerdict_15 : decode cX4_writeVerdict 15 = .ok (.bipush 88, 2) := by decide +kernel
theorem dX4_writeVerdict_17 : decode cX4_writeVerdict 17 = .ok (.invokevirtual 19, 3) := by decide +kernel
theorem dX4_writeVerdict_20 : decode cX4_writeVerdict 20 = .ok (.aload_n 0, 1) := by decide +kernel
theorem dX4_writeVerdict_21 : decode cX4_writeVerdict 21 = .ok (.iload_n 3, 1) := by decide +kernel
theorem dX4_writeVerdict_22 : decode cX4_writeVerdict 22 = .ok (.invokevirtual 30, 3) := by decide +kernel
theorem dX4_writeVerdict_25 : decode cX4_writeVerdict 25 = .ok (.aload_n 0, 1) := by decide +kernel
theorem dX4_writeVerdict_26 : decode cX4_writeVerdict 26 = .ok (.aload_n 1, 1) := by decide +kernel
theorem dX4_writeVerdict_27 : decode cX4_writeVerdict 27 = .ok (.invokevirtual 26, 3) := by decide +kernel
theorem dX4_writeVerdict_30 : decode cX4_writeVerdict 30 = .ok (.return_, 1) := by decide +kernel
theorem dX4_copy_0 : decode cX4_copy 0 = .ok (.aload_n 1, 1) := by decide +kernel
theorem dX4_copy_1 : decode cX4_copy 1 = .ok (.getfield 11, 3) := by decide +kernel
theorem dX4_copy_4 : decode cX4_copy 4 = .ok (.iconst 0, 1) := by decide +kernel
theorem dX4_copy_5 : decode cX4_copy 5 = .ok (.aload_n 0, 1) := by decide +kernel
theorem dX4_copy_6 : decode cX4_copy 6 = .ok (.getfield 11, 3) := by decide +kernel
theorem dX4_copy_9 : decode cX4_copy 9 = .ok (.iconst 0, 1) := by decide +kernel
theorem dX4_copy_10 : decode cX4_copy 10 = .ok (.bipush 13, 2) := by decide +kernel
theorem dX4_copy_12 : decode cX4_copy 12 = .ok (.invokestatic 33, 3) := by decide +kernel
theorem dX4_copy_15 : decode cX4_copy 15 = .ok (.aload_n 0, 1) := by decide +kernel
theorem dX4_copy_16 : decode cX4_copy 16 = .ok (.aload_n 1, 1) := by decide +kernel
theorem dX4_copy_17 : decode cX4_copy 17 = .ok (.getfield 15, 3) := by decide +kernel
theorem dX4_copy_20 : decode cX4_copy 20 = .ok (.putfield 15, 3) := by decide +kernel
theorem dX4_copy_23 : decode cX4_copy 23 = .ok (.return_, 1) := by decide +kernel
theorem dX4_addSource_0 : decode cX4_addSource 0 = .ok (.aload_n 0, 1) := by decide +kernel
theorem dX4_addSource_1 : decode cX4_addSource 1 = .ok (.aload_n 1, 1) := by decide +kernel
theorem dX4_addSource_2 : decode cX4_addSource 2 = .ok (.getfield 39, 3) := by decide +kernel
theorem dX4_addSource_5 : decode cX4_addSource 5 = .ok (.invokevirtual 19, 3) := by decide +kernel
theorem dX4_addSource_8 : decode cX4_addSource 8 = .ok (.aload_n 0, 1) := by decide +kernel
theorem dX4_addSource_9 : decode cX4_addSource 9 = .ok (.bipush 48, 2) := by decide +kernel
theorem dX4_addSource_11 : decode cX4_addSource 11 = .ok (.aload_n 1, 1) := by decide +kernel
theorem dX4_addSource_12 : decode cX4_addSource 12 = .ok (.getfield 44, 3) := by decide +kernel
theorem dX4_addSource_15 : decode cX4_addSource 15 = .ok (.iadd, 1) := by decide +kernel
theorem dX4_addSource_16 : decode cX4_addSource 16 = .ok (.invokevirtual 19, 3) := by decide +kernel
theorem dX4_addSource_19 : decode cX4_addSource 19 = .ok (.aload_n 0, 1) := by decide +kernel
theorem dX4_addSource_20 : decode cX4_addSource 20 = .ok (.invokevirtual 23, 3) := by decide +kernel
theorem dX4_addSource_23 : decode cX4_addSource 23 = .ok (.return_, 1) := by decide +kernel
theorem dX4_addSumAndEnd_0 : decode cX4_addSumAndEnd 0 = .ok (.aload_n 0, 1) := by decide +kernel
theorem dX4_addSumAndEnd_1 : decode cX4_addSumAndEnd 1 = .ok (.getfield 11, 3) := by decide +kernel
theorem dX4_addSumAndEnd_4 : decode cX4_addSumAndEnd 4 = .ok (.aload_n 0, 1) := by decide +kernel
theorem dX4_addSumAndEnd_5 : decode cX4_addSumAndEnd 5 = .ok (.getfield 15, 3) := by decide +kernel
theorem dX4_addSumAndEnd_8 : decode cX4_addSumAndEnd 8 = .ok (.invokestatic 47, 3) := by decide +kernel
theorem dX4_addSumAndEnd_11 : decode cX4_addSumAndEnd 11 = .ok (.istore_n 1, 1) := by decide +kernel
theorem dX4_addSumAndEnd_12 : decode cX4_addSumAndEnd 12 = .ok (.aload_n 0, 1) := by decide +kernel
theorem dX4_addSumAndEnd_13 : decode cX4_addSumAndEnd 13 = .ok (.bipush 90, 2) := by decide +kernel
theorem dX4_addSumAndEnd_15 : decode cX4_addSumAndEnd 15 = .ok (.invokevirtual 19, 3) := by decide +kernel
theorem dX4_addSumAndEnd_18 : decode cX4_addSumAndEnd 18 = .ok (.aload_n 0, 1) := by decide +kernel
theorem dX4_addSumAndEnd_19 : decode cX4_addSumAndEnd 19 = .ok (.iload_n 1, 1) := by decide +kernel
theorem dX4_addSumAndEnd_20 : decode cX4_addSumAndEnd 20 = .ok (.iconst 4, 1) := by decide +kernel
theorem dX4_addSumAndEnd_21 : decode cX4_addSumAndEnd 21 = .ok (.ishr, 1) := by decide +kernel
theorem dX4_addSumAndEnd_22 : decode cX4_addSumAndEnd 22 = .ok (.invokestatic 51, 3) := by decide +kernel
theorem dX4_addSumAndEnd_25 : decode cX4_addSumAndEnd 25 = .ok (.invokevirtual 19, 3) := by decide +kernel
theorem dX4_addSumAndEnd_28 : decode cX4_addSumAndEnd 28 = .ok (.aload_n 0, 1) := by decide +kernel
theorem dX4_addSumAndEnd_29 : decode cX4_addSumAndEnd 29 = .ok (.iload_n 1, 1) := by decide +kernel
theorem dX4_addSumAndEnd_30 : decode cX4_addSumAndEnd 30 = .ok (.invokestatic 51, 3) := by decide +kernel
theorem dX4_addSumAndEnd_33 : decode cX4_addSumAndEnd 33 = .ok (.invokevirtual 19, 3) := by decide +kernel
theorem dX4_addSumAndEnd_36 : decode cX4_addSumAndEnd 36 = .ok (.aload_n 0, 1) := by decide +kernel
theorem dX4_addSumAndEnd_37 : decode cX4_addSumAndEnd 37 = .ok (.bipush 13, 2) := by decide +kernel
theorem dX4_addSumAndEnd_39 : decode cX4_addSumAndEnd 39 = .ok (.invokevirtual 19, 3) := by decide +kernel
theorem dX4_addSumAndEnd_42 : decode cX4_addSumAndEnd 42 = .ok (.return_, 1) := by decide +kernel
theorem dX4_addDigits_0 : decode cX4_addDigits 0 = .ok (.ldc 55, 2) := by decide +kernel
theorem dX4_addDigits_2 : decode cX4_addDigits 2 = .ok (.istore_n 2, 1) := by decide +kernel
theorem dX4_addDigits_3 : decode cX4_addDigits 3 = .ok (.iload_n 2, 1) := by decide +kernel
theorem dX4_addDigits_4 : decode cX4_addDigits 4 = .ok (.ifCond .le 34, 3) := by decide +kernel
theorem dX4_addDigits_7 : decode cX4_addDigits 7 = .ok (.iload_n 1, 1) := by decide +kernel
theorem dX4_addDigits_8 : decode cX4_addDigits 8 = .ok (.iload_n 2, 1) := by decide +kernel
theorem dX4_addDigits_9 : decode cX4_addDigits 9 = .ok (.if_icmp .ge 8, 3) := by decide +kernel
theorem dX4_addDigits_12 : decode cX4_addDigits 12 = .ok (.iload_n 2, 1) := by decide +kernel
theorem dX4_addDigits_13 : decode cX4_addDigits 13 = .ok (.iconst 1, 1) := by decide +kernel
theorem dX4_addDigits_14 : decode cX4_addDigits 14 = .ok (.if_icmp .ne 16, 3) := by decide +kernel
theorem dX4_addDigits_17 : decode cX4_addDigits 17 = .ok (.aload_n 0, 1) := by decide +kernel
theorem dX4_addDigits_18 : decode cX4_addDigits 18 = .ok (.bipush 48, 2) := by decide +kernel
theorem dX4_addDigits_20 : decode cX4_addDigits 20 = .ok (.iload_n 1, 1) := by decide +kernel
theorem dX4_addDigits_21 : decode cX4_addDigits 21 = .ok (.iload_n 2, 1) := by decide +kernel
theorem dX4_addDigits_22 : decode cX4_addDigits 22 = .ok (.idiv, 1) := by decide +kernel
theorem dX4_addDigits_23 : decode cX4_addDigits 23 = .ok (.bipush 10, 2) := by decide +kernel
theorem dX4_addDigits_25 : decode cX4_addDigits 25 = .ok (.irem, 1) := by decide +kernel
theorem dX4_addDigits_26 : decode cX4_addDigits 26 = .ok (.iadd, 1) := by decide +kernel
theorem dX4_addDigits_27 : decode cX4_addDigits 27 = .ok (.invokevirtual 19, 3) := by decide +kernel
theorem dX4_addDigits_30 : decode cX4_addDigits 30 = .ok (.iload_n 2, 1) := by decide +kernel
theorem dX4_addDigits_31 : decode cX4_addDigits 31 = .ok (.bipush 10, 2) := by decide +kernel
theorem dX4_addDigits_33 : decode cX4_addDigits 33 = .ok (.idiv, 1) := by decide +kernel
theorem dX4_addDigits_34 : decode cX4_addDigits 34 = .ok (.istore_n 2, 1) := by decide +kernel
theorem dX4_addDigits_35 : decode cX4_addDigits 35 = .ok (.goto (-32), 3) := by decide +kernel
theorem dX4_addDigits_38 : decode cX4_addDigits 38 = .ok (.return_, 1) := by decide +kernel
theorem dX4_add_0 : decode cX4_add 0 = .ok (.aload_n 0, 1) := by decide +kernel
theorem dX4_add_1 : decode cX4_add 1 = .ok (.getfield 15, 3) := by decide +kernel
theorem dX4_add_4 : decode cX4_add 4 = .ok (.ifCond .lt 32, 3) := by decide +kernel
theorem dX4_add_7 : decode cX4_add 7 = .ok (.aload_n 0, 1) := by decide +kernel
theorem dX4_add_8 : decode cX4_add 8 = .ok (.getfield 15, 3) := by decide +kernel
theorem dX4_add_11 : decode cX4_add 11 = .ok (.bipush 13, 2) := by decide +kernel
theorem dX4_add_13 : decode cX4_add 13 = .ok (.if_icmp .ge 23, 3) := by decide +kernel
theorem dX4_add_16 : decode cX4_add 16 = .ok (.aload_n 0, 1) := by decide +kernel
theorem dX4_add_17 : decode cX4_add 17 = .ok (.getfield 11, 3) := by decide +kernel
theorem dX4_add_20 : decode cX4_add 20 = .ok (.aload_n 0, 1) := by decide +kernel
theorem dX4_add_21 : decode cX4_add 21 = .ok (.getfield 15, 3) := by decide +kernel
theorem dX4_add_24 : decode cX4_add 24 = .ok (.iload_n 1, 1) := by decide +kernel
theorem dX4_add_25 : decode cX4_add 25 = .ok (.iastore, 1) := by decide +kernel
theorem dX4_add_26 : decode cX4_add 26 = .ok (.aload_n 0, 1) := by decide +kernel
theorem dX4_add_27 : decode cX4_add 27 = .ok (.dup, 1) := by decide +kernel
theorem dX4_add_28 : decode cX4_add 28 = .ok (.getfield 15, 3) := by decide +kernel
theorem dX4_add_31 : decode cX4_add 31 = .ok (.iconst 1, 1) := by decide +kernel
theorem dX4_add_32 : decode cX4_add 32 = .ok (.iadd, 1) := by decide +kernel
theorem dX4_add_33 : decode cX4_add 33 = .ok (.putfield 15, 3) := by decide +kernel
theorem dX4_add_36 : decode cX4_add 36 = .ok (.return_, 1) := by decide +kernel
theorem dX5_init_0 : decode cX5_init 0 = .ok (.aload_n 0, 1) := by decide +kernel
theorem dX5_init_1 : decode cX5_init 1 = .ok (.invokespecial 1, 3) := by decide +kernel
theorem dX5_init_4 : decode cX5_init 4 = .ok (.aload_n 0, 1) := by decide +kernel
theorem dX5_init_5 : decode cX5_init 5 = .ok (.bipush 6, 2) := by decide +kernel
theorem dX5_init_7 : decode cX5_init 7 = .ok (.anewarray 9, 3) := by decide +kernel
theorem dX5_init_10 : decode cX5_init 10 = .ok (.putfield 11, 3) := by decide +kernel
theorem dX5_init_13 : decode cX5_init 13 = .ok (.iconst 0, 1) := by decide +kernel
theorem dX5_init_14 : decode cX5_init 14 = .ok (.istore_n 1, 1) := by decide +kernel
theorem dX5_init_15 : decode cX5_init 15 = .ok (.iload_n 1, 1) := by decide +kernel
theorem dX5_init_16 : decode cX5_init 16 = .ok (.bipush 6, 2) := by decide +kernel
theorem dX5_init_18 : decode cX5_init 18 = .ok (.if_icmp .ge 22, 3) := by decide +kernel
theorem dX5_init_21 : decode cX5_init 21 = .ok (.aload_n 0, 1) := by decide +kernel
theorem dX5_init_22 : decode cX5_init 22 = .ok (.getfield 11, 3) := by decide +kernel
theorem dX5_init_25 : decode cX5_init 25 = .ok (.iload_n 1, 1) := by decide +kernel
theorem dX5_init_26 : decode cX5_init 26 = .ok (.new 9, 3) := by decide +kernel
theorem dX5_init_29 : decode cX5_init 29 = .ok (.dup, 1) := by decide +kernel
theorem dX5_init_30 : decode cX5_init 30 = .ok (.invokespecial 15, 3) := by decide +kernel
theorem dX5_init_33 : decode cX5_init 33 = .ok (.aastore, 1) := by decide +kernel
theorem dX5_init_34 : decode cX5_init 34 = .ok (.iinc 1 1, 3) := by decide +kernel
theorem dX5_init_37 : decode cX5_init 37 = .ok (.goto (-22), 3) := by decide +kernel
theorem dX5_init_40 : decode cX5_init 40 = .ok (.aload_n 0, 1) := by decide +kernel
theorem dX5_init_41 : decode cX5_init 41 = .ok (.new 16, 3) := by decide +kernel
theorem dX5_init_44 : decode cX5_init 44 = .ok (.dup, 1) := by decide +kernel
theorem dX5_init_45 : decode cX5_init 45 = .ok (.invokespecial 18, 3) := by decide +kernel
theorem dX5_init_48 : decode cX5_init 48 = .ok (.putfield 19, 3) := by decide +kernel
theorem dX5_init_51 : decode cX5_init 51 = .ok (.aload_n 0, 1) := by decide +kernel
theorem dX5_init_52 : decode cX5_init 52 = .ok (.new 23, 3) := by decide +kernel
theorem dX5_init_55 : decode cX5_init 55 = .ok (.dup, 1) := by decide +kernel
theorem dX5_init_56 : decode cX5_init 56 = .ok (.invokespecial 25, 3) := by decide +kernel
theorem dX5_init_59 : decode cX5_init 59 = .ok (.putfield 26, 3) := by decide +kernel
theorem dX5_init_62 : decode cX5_init 62 = .ok (.aload_n 0, 1) := by decide +kernel
theorem dX5_init_63 : decode cX5_init 63 = .ok (.new 30, 3) := by decide +kernel
theorem dX5_init_66 : decode cX5_init 66 = .ok (.dup, 1) := by decide +kernel
theorem dX5_init_67 : decode cX5_init 67 = .ok (.invokespecial 32, 3) := by decide +kernel
theorem dX5_init_70 : decode cX5_init 70 = .ok (.putfield 33, 3) := by decide +kernel
theorem dX5_init_73 : decode cX5_init 73 = .ok (.aload_n 0, 1) := by decide +kernel
theorem dX5_init_74 : decode cX5_init 74 = .ok (.iconst 0, 1) := by decide +kernel
theorem dX5_init_75 : decode cX5_init 75 = .ok (.putfield 37, 3) := by decide +kernel
theorem dX5_init_78 : decode cX5_init 78 = .ok (.return_, 1) := by decide +kernel
theorem dX5_octet_0 : decode cX5_octet 0 = .ok (.iload_n 1, 1) := by decide +kernel
theorem dX5_octet_1 : decode cX5_octet 1 = .ok (.bipush 6, 2) := by decide +kernel
theorem dX5_octet_3 : decode cX5_octet 3 = .ok (.invokestatic 41, 3) := by decide +kernel
theorem dX5_octet_6 : decode cX5_octet 6 = .ok (.ifCond .ne 5, 3) := by decide +kernel
theorem dX5_octet_9 : decode cX5_octet 9 = .ok (.iconst (-1), 1) := by decide +kernel
theorem dX5_octet_10 : decode cX5_octet 10 = .ok (.ireturn, 1) := by decide +kernel
theorem dX5_octet_11 : decode cX5_octet 11 = .ok (.aload_n 0, 1) := by decide +kernel
theorem dX5_octet_12 : decode cX5_octet 12 = .ok (.getfield 11, 3) := by decide +kernel
theorem dX5_octet_15 : decode cX5_octet 15 = .ok (.iload_n 1, 1) := by decide +kernel
theorem dX5_octet_16 : decode cX5_octet 16 = .ok (.aaload, 1) := by decide +kernel
theorem dX5_octet_17 : decode cX5_octet 17 = .ok (.astore_n 3, 1) := by decide +kernel
theorem dX5_octet_18 : decode cX5_octet 18 = .ok (.iload_n 2, 1) := by decide +kernel
theorem dX5_octet_19 : decode cX5_octet 19 = .ok (.sipush 255, 3) := by decide +kernel
theorem dX5_octet_22 : decode cX5_octet 22 = .ok (.iand, 1) := by decide +kernel
theorem dX5_octet_23 : decode cX5_octet 23 = .ok (.istore 4, 2) := by decide +kernel
theorem dX5_octet_25 : decode cX5_octet 25 = .ok (.aload_n 3, 1) := by decide +kernel
theorem dX5_octet_26 : decode cX5_octet 26 = .ok (.getfield 45, 3) := by decide +kernel
theorem dX5_octet_29 : decode cX5_octet 29 = .ok (.ifCond .ne 10, 3) := by decide +kernel
theorem dX5_octet_32 : decode cX5_octet 32 = .ok (.iload 4, 2) := by decide +kernel
theorem dX5_octet_34 : decode cX5_octet 34 = .ok (.bipush 13, 2) := by decide +kernel
theorem dX5_octet_36 : decode cX5_octet 36 = .ok (.if_icmp .eq 10, 3) := by decide +kernel
theorem dX5_octet_39 : decode cX5_octet 39 = .ok (.aload_n 3, 1) := by decide +kernel
theorem dX5_octet_40 : decode cX5_octet 40 = .ok (.iload 4, 2) := by decide +kernel
theorem dX5_octet_42 : decode cX5_octet 42 = .ok (.invokevirtual 49, 3) := by decide +kernel
theorem dX5_octet_45 : decode cX5_octet 45 = .ok (.ireturn, 1) := by decide +kernel
theorem dX5_octet_46 : decode cX5_octet 46 = .ok (.aload_n 0, 1) := by decide +kernel
theorem dX5_octet_47 : decode cX5_octet 47 = .ok (.iload_n 1, 1) := by decide +kernel
theorem dX5_octet_48 : decode cX5_octet 48 = .ok (.aload_n 3, 1) := by decide +kernel
theorem dX5_octet_49 : decode cX5_octet 49 = .ok (.invokevirtual 53, 3) := by decide +kernel
theorem dX5_octet_52 : decode cX5_octet 52 = .ok (.iconst 0, 1) := by decide +kernel
theorem dX5_octet_53 : decode cX5_octet 53 = .ok (.ireturn, 1) := by decide +kernel
theorem dX5_answer_0 : decode cX5_answer 0 = .ok (.iload_n 1, 1) := by decide +kernel
theorem dX5_answer_1 : decode cX5_answer 1 = .ok (.bipush 6, 2) := by decide +kernel
theorem dX5_answer_3 : decode cX5_answer 3 = .ok (.invokestatic 41, 3) := by decide +kernel
theorem dX5_answer_6 : decode cX5_answer 6 = .ok (.ifCond .eq 22, 3) := by decide +kernel
theorem dX5_answer_9 : decode cX5_answer 9 = .ok (.iload_n 2, 1) := by decide +kernel
theorem dX5_answer_10 : decode cX5_answer 10 = .ok (.aload_n 0, 1) := by decide +kernel
theorem dX5_answer_11 : decode cX5_answer 11 = .ok (.getfield 11, 3) := by decide +kernel
theorem dX5_answer_14 : decode cX5_answer 14 = .ok (.iload_n 1, 1) := by decide +kernel
theorem dX5_answer_15 : decode cX5_answer 15 = .ok (.aaload, 1) := by decide +kernel
theorem dX5_answer_16 : decode cX5_answer 16 = .ok (.getfield 57, 3) := by decide +kernel
theorem dX5_answer_19 : decode cX5_answer 19 = .ok (.getfield 61, 3) := by decide +kernel
theorem dX5_answer_22 : decode cX5_answer 22 = .ok (.invokestatic 41, 3) := by decide +kernel
theorem dX5_answer_25 : decode cX5_answer 25 = .ok (.ifCond .ne 13, 3) := by decide +kernel
theorem dX5_answer_28 : decode cX5_answer 28 = .ok (.new 66, 3) := by decide +kernel
theorem dX5_answer_31 : decode cX5_answer 31 = .ok (.dup, 1) := by decide +kernel
theorem dX5_answer_32 : decode cX5_answer 32 = .ok (.ldc 68, 2) := by decide +kernel
theorem dX5_answer_34 : decode cX5_answer 34 = .ok (.invokespecial 70, 3) := by decide +kernel
theorem dX5_answer_37 : decode cX5_answer 37 = .ok (.athrow, 1) := by decide +kernel
theorem dX5_answer_38 : decode cX5_answer 38 = .ok (.aload_n 0, 1) := by decide +kernel
theorem dX5_answer_39 : decode cX5_answer 39 = .ok (.getfield 11, 3) := by decide +kernel
theorem dX5_answer_42 : decode cX5_answer 42 = .ok (.iload_n 1, 1) := by decide +kernel
theorem dX5_answer_43 : decode cX5_answer 43 = .ok (.aaload, 1) := by decide +kernel
theorem dX5_answer_44 : decode cX5_answer 44 = .ok (.getfield 57, 3) := by decide +kernel
theorem dX5_answer_47 : decode cX5_answer 47 = .ok (.getfield 73, 3) := by decide +kernel
theorem dX5_answer_50 : decode cX5_answer 50 = .ok (.iload_n 2, 1) := by decide +kernel
theorem dX5_answer_51 : decode cX5_answer 51 = .ok (.iaload, 1) := by decide +kernel
theorem dX5_answer_52 : decode cX5_answer 52 = .ok (.ireturn, 1) := by decide +kernel
theorem dX5_reset_0 : decode cX5_reset 0 = .ok (.iload_n 1, 1) := by decide +kernel
theorem dX5_reset_1 : decode cX5_reset 1 = .ok (.bipush 6, 2) := by decide +kernel
theorem dX5_reset_3 : decode cX5_reset 3 = .ok (.invokestatic 41, 3) := by decide +kernel
theorem dX5_reset_6 : decode cX5_reset 6 = .ok (.ifCond .ne 5, 3) := by decide +kernel
theorem dX5_reset_9 : decode cX5_reset 9 = .ok (.iconst (-1), 1) := by decide +kernel
theorem dX5_reset_10 : decode cX5_reset 10 = .ok (.ireturn, 1) := by decide +kernel
theorem dX5_reset_11 : decode cX5_reset 11 = .ok (.aload_n 0, 1) := by decide +kernel
theorem dX5_reset_12 : decode cX5_reset 12 = .ok (.getfield 11, 3) := by decide +kernel
theorem dX5_reset_15 : decode cX5_reset 15 = .ok (.iload_n 1, 1) := by decide +kernel
theorem dX5_reset_16 : decode cX5_reset 16 = .ok (.aaload, 1) := by decide +kernel
theorem dX5_reset_17 : decode cX5_reset 17 = .ok (.getfield 77, 3) := by decide +kernel
theorem dX5_reset_20 : decode cX5_reset 20 = .ok (.istore_n 2, 1) := by decide +kernel
theorem dX5_reset_21 : decode cX5_reset 21 = .ok (.aload_n 0, 1) := by decide +kernel
theorem dX5_reset_22 : decode cX5_reset 22 = .ok (.getfield 11, 3) := by decide +kernel
theorem dX5_reset_25 : decode cX5_reset 25 = .ok (.iload_n 1, 1) := by decide +kernel
theorem dX5_reset_26 : decode cX5_reset 26 = .ok (.aaload, 1) := by decide +kernel
theorem dX5_reset_27 : decode cX5_reset 27 = .ok (.invokevirtual 80, 3) := by decide +kernel
theorem dX5_reset_30 : decode cX5_reset 30 = .ok (.iload_n 2, 1) := by decide +kernel
theorem dX5_reset_31 : decode cX5_reset 31 = .ok (.ireturn, 1) := by decide +kernel
theorem dX5_offline_0 : decode cX5_offline 0 = .ok (.iload_n 1, 1) := by decide +kernel
theorem dX5_offline_1 : decode cX5_offline 1 = .ok (.bipush 6, 2) := by decide +kernel
theorem dX5_offline_3 : decode cX5_offline 3 = .ok (.invokestatic 41, 3) := by decide +kernel
theorem dX5_offline_6 : decode cX5_offline 6 = .ok (.ifCond .eq 34, 3) := by decide +kernel
theorem dX5_offline_9 : decode cX5_offline 9 = .ok (.iload_n 2, 1) := by decide +kernel
theorem dX5_offline_10 : decode cX5_offline 10 = .ok (.iconst 2, 1) := by decide +kernel
theorem dX5_offline_11 : decode cX5_offline 11 = .ok (.invokestatic 41, 3) := by decide +kernel
theorem dX5_offline_14 : decode cX5_offline 14 = .ok (.ifCond .eq 26, 3) := by decide +kernel
theorem dX5_offline_17 : decode cX5_offline 17 = .ok (.iload_n 3, 1) := by decide +kernel
theorem dX5_offline_18 : decode cX5_offline 18 = .ok (.bipush 30, 2) := by decide +kernel
theorem dX5_offline_20 : decode cX5_offline 20 = .ok (.invokestatic 41, 3) := by decide +kernel
theorem dX5_offline_23 : decode cX5_offline 23 = .ok (.ifCond .eq 17, 3) := by decide +kernel
theorem dX5_offline_26 : decode cX5_offline 26 = .ok (.iload 4, 2) := by decide +kernel
theorem dX5_offline_28 : decode cX5_offline 28 = .ok (.bipush 30, 2) := by decide +kernel
theorem dX5_offline_30 : decode cX5_offline 30 = .ok (.invokestatic 41, 3) := by decide +kernel
theorem dX5_offline_33 : decode cX5_offline 33 = .ok (.ifCond .eq 7, 3) := by decide +kernel
theorem dX5_offline_36 : decode cX5_offline 36 = .ok (.iconst 1, 1) := by decide +kernel
theorem dX5_offline_37 : decode cX5_offline 37 = .ok (.goto 4, 3) := by decide +kernel
theorem dX5_offline_40 : decode cX5_offline 40 = .ok (.iconst 0, 1) := by decide +kernel
theorem dX5_offline_41 : decode cX5_offline 41 = .ok (.istore 5, 2) := by decide +kernel
theorem dX5_offline_43 : decode cX5_offline 43 = .ok (.iload 5, 2) := by decide +kernel
theorem dX5_offline_45 : decode cX5_offline 45 = .ok (.ifCond .ne 5, 3) := by decide +kernel
theorem dX5_offline_48 : decode cX5_offline 48 = .ok (.iconst (-1), 1) := by decide +kernel
theorem dX5_offline_49 : decode cX5_offline 49 = .ok (.ireturn, 1) := by decide +kernel
theorem dX5_offline_50 : decode cX5_offline 50 = .ok (.aload_n 0, 1) := by decide +kernel
theorem dX5_offline_51 : decode cX5_offline 51 = .ok (.getfield 11, 3) := by decide +kernel
theorem dX5_offline_54 : decode cX5_offline 54 = .ok (.iload_n 1, 1) := by decide +kernel
theorem dX5_offline_55 : decode cX5_offline 55 = .ok (.aaload, 1) := by decide +kernel
theorem dX5_offline_56 : decode cX5_offline 56 = .ok (.iload_n 2, 1) := by decide +kernel
theorem dX5_offline_57 : decode cX5_offline 57 = .ok (.ifCond .ne 8, 3) := by decide +kernel
theorem dX5_offline_60 : decode cX5_offline 60 = .ok (.bipush 67, 2) := by decide +kernel
theorem dX5_offline_62 : decode cX5_offline 62 = .ok (.goto 5, 3) := by decide +kernel
theorem dX5_offline_65 : decode cX5_offline 65 = .ok (.bipush 66, 2) := by decide +kernel
theorem dX5_offline_67 : decode cX5_offline 67 = .ok (.iload_n 3, 1) := by decide +kernel
theorem dX5_offline_68 : decode cX5_offline 68 = .ok (.iload 4, 2) := by decide +kernel
theorem dX5_offline_70 : decode cX5_offline 70 = .ok (.invokevirtual 83, 3) := by decide +kernel
theorem dX5_offline_73 : decode cX5_offline 73 = .ok (.ireturn, 1) := by decide +kernel
theorem dX5_join_0 : decode cX5_join 0 = .ok (.iload_n 1, 1) := by decide +kernel
theorem dX5_join_1 : decode cX5_join 1 = .ok (.bipush 6, 2) := by decide +kernel
theorem dX5_join_3 : decode cX5_join 3 = .ok (.invokestatic 41, 3) := by decide +kernel
theorem dX5_join_6 : decode cX5_join 6 = .ok (.ifCond .ne 5, 3) := by decide +kernel
theorem dX5_join_9 : decode cX5_join 9 = .ok (.iconst (-1), 1) := by decide +kernel
theorem dX5_join_10 : decode cX5_join 10 = .ok (.ireturn, 1) := by decide +kernel
theorem dX5_join_11 : decode cX5_join 11 = .ok (.aload_n 0, 1) := by decide +kernel
theorem dX5_join_12 : decode cX5_join 12 = .ok (.getfield 11, 3) := by decide +kernel
theorem dX5_join_15 : decode cX5_join 15 = .ok (.iload_n 1, 1) := by decide +kernel
theorem dX5_join_16 : decode cX5_join 16 = .ok (.aaload, 1) := by decide +kernel
theorem dX5_join_17 : decode cX5_join 17 = .ok (.astore_n 2, 1) := by decide +kernel
theorem dX5_join_18 : decode cX5_join 18 = .ok (.iconst 0, 1) := by decide +kernel
theorem dX5_join_19 : decode cX5_join 19 = .ok (.istore_n 3, 1) := by decide +kernel
theorem dX5_join_20 : decode cX5_join 20 = .ok (.iconst 0, 1) := by decide +kernel
theorem dX5_join_21 : decode cX5_join 21 = .ok (.istore 4, 2) := by decide +kernel
theorem dX5_join_23 : decode cX5_join 23 = .ok (.iload 4, 2) := by decide +kernel
theorem dX5_join_25 : decode cX5_join 25 = .ok (.aload_n 2, 1) := by decide +kernel
theorem dX5_join_26 : decode cX5_join 26 = .ok (.getfield 87, 3) := by decide +kernel
theorem dX5_join_29 : decode cX5_join 29 = .ok (.if_icmp .ge 48, 3) := by decide +kernel
theorem dX5_join_32 : decode cX5_join 32 = .ok (.aload_n 0, 1) := by decide +kernel
theorem dX5_join_33 : decode cX5_join 33 = .ok (.getfield 33, 3) := by decide +kernel
theorem dX5_join_36 : decode cX5_join 36 = .ok (.aload_n 2, 1) := by decide +kernel
theorem dX5_join_37 : decode cX5_join 37 = .ok (.getfield 90, 3) := by decide +kernel
theorem dX5_join_40 : decode cX5_join 40 = .ok (.iload 4, 2) := by decide +kernel
theorem dX5_join_42 : decode cX5_join 42 = .ok (.iaload, 1) := by decide +kernel
theorem dX5_join_43 : decode cX5_join 43 = .ok (.aload_n 2, 1) := by decide +kernel
theorem dX5_join_44 : decode cX5_join 44 = .ok (.getfield 93, 3) := by decide +kernel
theorem dX5_join_47 : decode cX5_join 47 = .ok (.iload 4, 2) := by decide +kernel
theorem dX5_join_49 : decode cX5_join 49 = .ok (.iaload, 1) := by decide +kernel
theorem dX5_join_50 : decode cX5_join 50 = .ok (.aload_n 2, 1) := by decide +kernel
theorem dX5_join_51 : decode cX5_join 51 = .ok (.getfield 96, 3) := by decide +kernel
theorem dX5_join_54 : decode cX5_join 54 = .ok (.iload 4, 2) := by decide +kernel
theorem dX5_join_56 : decode cX5_join 56 = .ok (.iaload, 1) := by decide +kernel
theorem dX5_join_57 : decode cX5_join 57 = .ok (.invokevirtual 99, 3) := by decide +kernel
theorem dX5_join_60 : decode cX5_join 60 = .ok (.aload_n 0, 1) := by decide +kernel
theorem dX5_join_61 : decode cX5_join 61 = .ok (.iload_n 1, 1) := by decide +kernel
theorem dX5_join_62 : decode cX5_join 62 = .ok (.invokevirtual 103, 3) := by decide +kernel
theorem dX5_join_65 : decode cX5_join 65 = .ok (.ifCond .eq 6, 3) := by decide +kernel
theorem dX5_join_68 : decode cX5_join 68 = .ok (.iinc 3 1, 3) := by decide +kernel
theorem dX5_join_71 : decode cX5_join 71 = .ok (.iinc 4 1, 3) := by decide +kernel
theorem dX5_join_74 : decode cX5_join 74 = .ok (.goto (-51), 3) := by decide +kernel
theorem dX5_join_77 : decode cX5_join 77 = .ok (.aload_n 2, 1) := by decide +kernel
theorem dX5_join_78 : decode cX5_join 78 = .ok (.iconst 0, 1) := by decide +kernel
theorem dX5_join_79 : decode cX5_join 79 = .ok (.putfield 87, 3) := by decide +kernel
theorem dX5_join_82 : decode cX5_join 82 = .ok (.iload_n 3, 1) := by decide +kernel
theorem dX5_join_83 : decode cX5_join 83 = .ok (.ireturn, 1) := by decide +kernel
theorem dX5_owes_0 : decode cX5_owes 0 = .ok (.iload_n 1, 1) := by decide +kernel
theorem dX5_owes_1 : decode cX5_owes 1 = .ok (.bipush 30, 2) := by decide +kernel
theorem dX5_owes_3 : decode cX5_owes 3 = .ok (.invokestatic 41, 3) := by decide +kernel
theorem dX5_owes_6 : decode cX5_owes 6 = .ok (.ifCond .eq 13, 3) := by decide +kernel
theorem dX5_owes_9 : decode cX5_owes 9 = .ok (.iload_n 2, 1) := by decide +kernel
theorem dX5_owes_10 : decode cX5_owes 10 = .ok (.ifCond .lt 9, 3) := by decide +kernel
theorem dX5_owes_13 : decode cX5_owes 13 = .ok (.iload_n 2, 1) := by decide +kernel
theorem dX5_owes_14 : decode cX5_owes 14 = .ok (.ldc 107, 2) := by decide +kernel
theorem dX5_owes_16 : decode cX5_owes 16 = .ok (.if_icmp .le 5, 3) := by decide +kernel
theorem dX5_owes_19 : decode cX5_owes 19 = .ok (.iconst (-1), 1) := by decide +kernel
theorem dX5_owes_20 : decode cX5_owes 20 = .ok (.ireturn, 1) := by decide +kernel
theorem dX5_owes_21 : decode cX5_owes 21 = .ok (.aload_n 0, 1) := by decide +kernel
theorem dX5_owes_22 : decode cX5_owes 22 = .ok (.getfield 19, 3) := by decide +kernel
theorem dX5_owes_25 : decode cX5_owes 25 = .ok (.getfield 108, 3) := by decide +kernel
theorem dX5_owes_28 : decode cX5_owes 28 = .ok (.iload_n 1, 1) := by decide +kernel
theorem dX5_owes_29 : decode cX5_owes 29 = .ok (.iaload, 1) := by decide +kernel
theorem dX5_owes_30 : decode cX5_owes 30 = .ok (.istore_n 3, 1) := by decide +kernel
theorem dX5_owes_31 : decode cX5_owes 31 = .ok (.aload_n 0, 1) := by decide +kernel
theorem dX5_owes_32 : decode cX5_owes 32 = .ok (.getfield 19, 3) := by decide +kernel
theorem dX5_owes_35 : decode cX5_owes 35 = .ok (.getfield 108, 3) := by decide +kernel
theorem dX5_owes_38 : decode cX5_owes 38 = .ok (.iload_n 1, 1) := by decide +kernel
theorem dX5_owes_39 : decode cX5_owes 39 = .ok (.iload_n 2, 1) := by decide +kernel
theorem dX5_owes_40 : decode cX5_owes 40 = .ok (.iastore, 1) := by decide +kernel
theorem dX5_owes_41 : decode cX5_owes 41 = .ok (.iload_n 3, 1) := by decide +kernel
theorem dX5_owes_42 : decode cX5_owes 42 = .ok (.ireturn, 1) := by decide +kernel
theorem dX5_acts_0 : decode cX5_acts 0 = .ok (.aload_n 0, 1) := by decide +kernel
theorem dX5_acts_1 : decode cX5_acts 1 = .ok (.getfield 26, 3) := by decide +kernel
theorem dX5_acts_4 : decode cX5_acts 4 = .ok (.getfield 111, 3) := by decide +kernel
theorem dX5_acts_7 : decode cX5_acts 7 = .ok (.ireturn, 1) := by decide +kernel
theorem dX5_act_0 : decode cX5_act 0 = .ok (.aload_n 0, 1) := by decide +kernel
theorem dX5_act_1 : decode cX5_act 1 = .ok (.getfield 26, 3) := by decide +kernel
theorem dX5_act_4 : decode cX5_act 4 = .ok (.iload_n 1, 1) := by decide +kernel
theorem dX5_act_5 : decode cX5_act 5 = .ok (.iload_n 2, 1) := by decide +kernel
theorem dX5_act_6 : decode cX5_act 6 = .ok (.invokevirtual 112, 3) := by decide +kernel
theorem dX5_act_9 : decode cX5_act 9 = .ok (.ireturn, 1) := by decide +kernel
theorem dX5_sum_0 : decode cX5_sum 0 = .ok (.iload_n 1, 1) := by decide +kernel
theorem dX5_sum_1 : decode cX5_sum 1 = .ok (.ifCond .ge 15, 3) := by decide +kernel
theorem dX5_sum_4 : decode cX5_sum 4 = .ok (.aload_n 0, 1) := by decide +kernel
theorem dX5_sum_5 : decode cX5_sum 5 = .ok (.getfield 37, 3) := by decide +kernel
theorem dX5_sum_8 : decode cX5_sum 8 = .ok (.istore_n 2, 1) := by decide +kernel
theorem dX5_sum_9 : decode cX5_sum 9 = .ok (.aload_n 0, 1) := by decide +kernel
theorem dX5_sum_10 : decode cX5_sum 10 = .ok (.iconst 0, 1) := by decide +kernel
theorem dX5_sum_11 : decode cX5_sum 11 = .ok (.putfield 37, 3) := by decide +kernel
theorem dX5_sum_14 : decode cX5_sum 14 = .ok (.iload_n 2, 1) := by decide +kernel
theorem dX5_sum_15 : decode cX5_sum 15 = .ok (.ireturn, 1) := by decide +kernel
theorem dX5_sum_16 : decode cX5_sum 16 = .ok (.aload_n 0, 1) := by decide +kernel
theorem dX5_sum_17 : decode cX5_sum 17 = .ok (.aload_n 0, 1) := by decide +kernel
theorem dX5_sum_18 : decode cX5_sum 18 = .ok (.getfield 37, 3) := by decide +kernel
theorem dX5_sum_21 : decode cX5_sum 21 = .ok (.iload_n 1, 1) := by decide +kernel
theorem dX5_sum_22 : decode cX5_sum 22 = .ok (.iadd, 1) := by decide +kernel
theorem dX5_sum_23 : decode cX5_sum 23 = .ok (.sipush 255, 3) := by decide +kernel
theorem dX5_sum_26 : decode cX5_sum 26 = .ok (.iand, 1) := by decide +kernel
theorem dX5_sum_27 : decode cX5_sum 27 = .ok (.putfield 37, 3) := by decide +kernel
theorem dX5_sum_30 : decode cX5_sum 30 = .ok (.aload_n 0, 1) := by decide +kernel
theorem dX5_sum_31 : decode cX5_sum 31 = .ok (.getfield 37, 3) := by decide +kernel
theorem dX5_sum_34 : decode cX5_sum 34 = .ok (.ireturn, 1) := by decide +kernel
theorem dX5_state_0 : decode cX5_state 0 = .ok (.iload_n 1, 1) := by decide +kernel
theorem dX5_state_1 : decode cX5_state 1 = .ok (.bipush 6, 2) := by decide +kernel
theorem dX5_state_3 : decode cX5_state 3 = .ok (.invokestatic 41, 3) := by decide +kernel
theorem dX5_state_6 : decode cX5_state 6 = .ok (.ifCond .ne 5, 3) := by decide +kernel
theorem dX5_state_9 : decode cX5_state 9 = .ok (.iconst (-1), 1) := by decide +kernel
theorem dX5_state_10 : decode cX5_state 10 = .ok (.ireturn, 1) := by decide +kernel
theorem dX5_state_11 : decode cX5_state 11 = .ok (.aload_n 0, 1) := by decide +kernel
theorem dX5_state_12 : decode cX5_state 12 = .ok (.getfield 11, 3) := by decide +kernel
theorem dX5_state_15 : decode cX5_state 15 = .ok (.iload_n 1, 1) := by decide +kernel
theorem dX5_state_16 : decode cX5_state 16 = .ok (.aaload, 1) := by decide +kernel
theorem dX5_state_17 : decode cX5_state 17 = .ok (.astore_n 3, 1) := by decide +kernel
theorem dX5_state_18 : decode cX5_state 18 = .ok (.iload_n 2, 1) := by decide +kernel
theorem dX5_state_19 : decode cX5_state 19 = .ok (.tableswitch 74 0 4 #[33, 38, 51, 64, 69], 33) := by decide +kernel
theorem dX5_state_52 : decode cX5_state 52 = .ok (.aload_n 3, 1) := by decide +kernel
theorem dX5_state_53 : decode cX5_state 53 = .ok (.getfield 116, 3) := by decide +kernel
theorem dX5_state_56 : decode cX5_state 56 = .ok (.ireturn, 1) := by decide +kernel
theorem dX5_state_57 : decode cX5_state 57 = .ok (.aload_n 3, 1) := by decide +kernel
theorem dX5_state_58 : decode cX5_state 58 = .ok (.getfield 119, 3) := by decide +kernel
theorem dX5_state_61 : decode cX5_state 61 = .ok (.ifCond .eq 7, 3) := by decide +kernel
theorem dX5_state_64 : decode cX5_state 64 = .ok (.iconst 1, 1) := by decide +kernel
theorem dX5_state_65 : decode cX5_state 65 = .ok (.goto 4, 3) := by decide +kernel
theorem dX5_state_68 : decode cX5_state 68 = .ok (.iconst 0, 1) := by decide +kernel
theorem dX5_state_69 : decode cX5_state 69 = .ok (.ireturn, 1) := by decide +kernel
theorem dX5_state_70 : decode cX5_state 70 = .ok (.aload_n 3, 1) := by decide +kernel
theorem dX5_state_71 : decode cX5_state 71 = .ok (.getfield 45, 3) := by decide +kernel
theorem dX5_state_74 : decode cX5_state 74 = .ok (.ifCond .eq 7, 3) := by decide +kernel
theorem dX5_state_77 : decode cX5_state 77 = .ok (.iconst 1, 1) := by decide +kernel
theorem dX5_state_78 : decode cX5_state 78 = .ok (.goto 4, 3) := by decide +kernel
theorem dX5_state_81 : decode cX5_state 81 = .ok (.iconst 0, 1) := by decide +kernel
theorem dX5_state_82 : decode cX5_state 82 = .ok (.ireturn, 1) := by decide +kernel
theorem dX5_state_83 : decode cX5_state 83 = .ok (.aload_n 3, 1) := by decide +kernel
theorem dX5_state_84 : decode cX5_state 84 = .ok (.getfield 87, 3) := by decide +kernel
theorem dX5_state_87 : decode cX5_state 87 = .ok (.ireturn, 1) := by decide +kernel
theorem dX5_state_88 : decode cX5_state 88 = .ok (.aload_n 3, 1) := by decide +kernel
theorem dX5_state_89 : decode cX5_state 89 = .ok (.getfield 122, 3) := by decide +kernel
theorem dX5_state_92 : decode cX5_state 92 = .ok (.ireturn, 1) := by decide +kernel
theorem dX5_state_93 : decode cX5_state 93 = .ok (.iconst (-1), 1) := by decide +kernel
theorem dX5_state_94 : decode cX5_state 94 = .ok (.ireturn, 1) := by decide +kernel
theorem dX5_waits_0 : decode cX5_waits 0 = .ok (.iload_n 1, 1) := by decide +kernel
theorem dX5_waits_1 : decode cX5_waits 1 = .ok (.bipush 30, 2) := by decide +kernel
theorem dX5_waits_3 : decode cX5_waits 3 = .ok (.invokestatic 41, 3) := by decide +kernel
theorem dX5_waits_6 : decode cX5_waits 6 = .ok (.ifCond .eq 19, 3) := by decide +kernel
theorem dX5_waits_9 : decode cX5_waits 9 = .ok (.iload_n 2, 1) := by decide +kernel
theorem dX5_waits_10 : decode cX5_waits 10 = .ok (.aload_n 0, 1) := by decide +kernel
theorem dX5_waits_11 : decode cX5_waits 11 = .ok (.getfield 19, 3) := by decide +kernel
theorem dX5_waits_14 : decode cX5_waits 14 = .ok (.getfield 125, 3) := by decide +kernel
theorem dX5_waits_17 : decode cX5_waits 17 = .ok (.iload_n 1, 1) := by decide +kernel
theorem dX5_waits_18 : decode cX5_waits 18 = .ok (.iaload, 1) := by decide +kernel
theorem dX5_waits_19 : decode cX5_waits 19 = .ok (.invokestatic 41, 3) := by decide +kernel
theorem dX5_waits_22 : decode cX5_waits 22 = .ok (.ifCond .ne 5, 3) := by decide +kernel
theorem dX5_waits_25 : decode cX5_waits 25 = .ok (.iconst (-1), 1) := by decide +kernel
theorem dX5_waits_26 : decode cX5_waits 26 = .ok (.ireturn, 1) := by decide +kernel
theorem dX5_waits_27 : decode cX5_waits 27 = .ok (.aload_n 0, 1) := by decide +kernel
theorem dX5_waits_28 : decode cX5_waits 28 = .ok (.getfield 19, 3) := by decide +kernel
theorem dX5_waits_31 : decode cX5_waits 31 = .ok (.getfield 128, 3) := by decide +kernel
theorem dX5_waits_34 : decode cX5_waits 34 = .ok (.iload_n 1, 1) := by decide +kernel
theorem dX5_waits_35 : decode cX5_waits 35 = .ok (.aaload, 1) := by decide +kernel
theorem dX5_waits_36 : decode cX5_waits 36 = .ok (.iload_n 2, 1) := by decide +kernel
theorem dX5_waits_37 : decode cX5_waits 37 = .ok (.iaload, 1) := by decide +kernel
theorem dX5_waits_38 : decode cX5_waits 38 = .ok (.ireturn, 1) := by decide +kernel
theorem dX5_endMessage_0 : decode cX5_endMessage 0 = .ok (.aload_n 0, 1) := by decide +kernel
theorem dX5_endMessage_1 : decode cX5_endMessage 1 = .ok (.getfield 33, 3) := by decide +kernel
theorem dX5_endMessage_4 : decode cX5_endMessage 4 = .ok (.aload_n 2, 1) := by decide +kernel
theorem dX5_endMessage_5 : decode cX5_endMessage 5 = .ok (.getfield 132, 3) := by decide +kernel
theorem dX5_endMessage_8 : decode cX5_endMessage 8 = .ok (.aload_n 2, 1) := by decide +kernel
theorem dX5_endMessage_9 : decode cX5_endMessage 9 = .ok (.getfield 77, 3) := by decide +kernel
theorem dX5_endMessage_12 : decode cX5_endMessage 12 = .ok (.invokevirtual 133, 3) := by decide +kernel
theorem dX5_endMessage_15 : decode cX5_endMessage 15 = .ok (.istore_n 3, 1) := by decide +kernel
theorem dX5_endMessage_16 : decode cX5_endMessage 16 = .ok (.aload_n 2, 1) := by decide +kernel
theorem dX5_endMessage_17 : decode cX5_endMessage 17 = .ok (.iconst 0, 1) := by decide +kernel
theorem dX5_endMessage_18 : decode cX5_endMessage 18 = .ok (.putfield 77, 3) := by decide +kernel
theorem dX5_endMessage_21 : decode cX5_endMessage 21 = .ok (.iload_n 3, 1) := by decide +kernel
theorem dX5_endMessage_22 : decode cX5_endMessage 22 = .ok (.ifCond .ne 23, 3) := by decide +kernel
theorem dX5_endMessage_25 : decode cX5_endMessage 25 = .ok (.aload_n 2, 1) := by decide +kernel
theorem dX5_endMessage_26 : decode cX5_endMessage 26 = .ok (.dup, 1) := by decide +kernel
theorem dX5_endMessage_27 : decode cX5_endMessage 27 = .ok (.getfield 122, 3) := by decide +kernel
theorem dX5_endMessage_30 : decode cX5_endMessage 30 = .ok (.iconst 1, 1) := by decide +kernel
theorem dX5_endMessage_31 : decode cX5_endMessage 31 = .ok (.iadd, 1) := by decide +kernel
theorem dX5_endMessage_32 : decode cX5_endMessage 32 = .ok (.putfield 122, 3) := by decide +kernel
theorem dX5_endMessage_35 : decode cX5_endMessage 35 = .ok (.aload_n 2, 1) := by decide +kernel
theorem dX5_endMessage_36 : decode cX5_endMessage 36 = .ok (.getfield 57, 3) := by decide +kernel
theorem dX5_endMessage_39 : decode cX5_endMessage 39 = .ok (.invokevirtual 137, 3) := by decide +kernel
theorem dX5_endMessage_42 : decode cX5_endMessage 42 = .ok (.goto 82, 3) := by decide +kernel
theorem dX5_endMessage_45 : decode cX5_endMessage 45 = .ok (.aload_n 0, 1) := by decide +kernel
theorem dX5_endMessage_46 : decode cX5_endMessage 46 = .ok (.getfield 33, 3) := by decide +kernel
theorem dX5_endMessage_49 : decode cX5_endMessage 49 = .ok (.getfield 140, 3) := by decide +kernel
theorem dX5_endMessage_52 : decode cX5_endMessage 52 = .ok (.bipush 81, 2) := by decide +kernel
theorem dX5_endMessage_54 : decode cX5_endMessage 54 = .ok (.if_icmp .ne 27, 3) := by decide +kernel
theorem dX5_endMessage_57 : decode cX5_endMessage 57 = .ok (.aload_n 2, 1) := by decide +kernel
theorem dX5_endMessage_58 : decode cX5_endMessage 58 = .ok (.getfield 143, 3) := by decide +kernel
theorem dX5_endMessage_61 : decode cX5_endMessage 61 = .ok (.getfield 61, 3) := by decide +kernel
theorem dX5_endMessage_64 : decode cX5_endMessage 64 = .ok (.ifCond .ne 17, 3) := by decide +kernel
theorem dX5_endMessage_67 : decode cX5_endMessage 67 = .ok (.aload_n 2, 1) := by decide +kernel
theorem dX5_endMessage_68 : decode cX5_endMessage 68 = .ok (.getfield 57, 3) := by decide +kernel
theorem dX5_endMessage_71 : decode cX5_endMessage 71 = .ok (.aload_n 0, 1) := by decide +kernel
theorem dX5_endMessage_72 : decode cX5_endMessage 72 = .ok (.getfield 33, 3) := by decide +kernel
theorem dX5_endMessage_75 : decode cX5_endMessage 75 = .ok (.invokevirtual 146, 3) := by decide +kernel
theorem dX5_endMessage_78 : decode cX5_endMessage 78 = .ok (.goto 46, 3) := by decide +kernel
theorem dX5_endMessage_81 : decode cX5_endMessage 81 = .ok (.aload_n 0, 1) := by decide +kernel
theorem dX5_endMessage_82 : decode cX5_endMessage 82 = .ok (.getfield 33, 3) := by decide +kernel
theorem dX5_endMessage_85 : decode cX5_endMessage 85 = .ok (.getfield 140, 3) := by decide +kernel
theorem dX5_endMessage_88 : decode cX5_endMessage 88 = .ok (.bipush 81, 2) := by decide +kernel
theorem dX5_endMessage_90 : decode cX5_endMessage 90 = .ok (.if_icmp .eq 23, 3) := by decide +kernel
theorem dX5_endMessage_93 : decode cX5_endMessage 93 = .ok (.aload_n 0, 1) := by decide +kernel
theorem dX5_endMessage_94 : decode cX5_endMessage 94 = .ok (.getfield 33, 3) := by decide +kernel
theorem dX5_endMessage_97 : decode cX5_endMessage 97 = .ok (.getfield 150, 3) := by decide +kernel
theorem dX5_endMessage_100 : decode cX5_endMessage 100 = .ok (.aload_n 2, 1) := by decide +kernel
theorem dX5_endMessage_101 : decode cX5_endMessage 101 = .ok (.getfield 116, 3) := by decide +kernel
theorem dX5_endMessage_104 : decode cX5_endMessage 104 = .ok (.if_icmp .eq 9, 3) := by decide +kernel
theorem dX5_endMessage_107 : decode cX5_endMessage 107 = .ok (.aload_n 0, 1) := by decide +kernel
theorem dX5_endMessage_108 : decode cX5_endMessage 108 = .ok (.iload_n 1, 1) := by decide +kernel
theorem dX5_endMessage_109 : decode cX5_endMessage 109 = .ok (.aload_n 2, 1) := by decide +kernel
theorem dX5_endMessage_110 : decode cX5_endMessage 110 = .ok (.invokevirtual 153, 3) := by decide +kernel
theorem dX5_endMessage_113 : decode cX5_endMessage 113 = .ok (.aload_n 2, 1) := by decide +kernel
theorem dX5_endMessage_114 : decode cX5_endMessage 114 = .ok (.getfield 57, 3) := by decide +kernel
theorem dX5_endMessage_117 : decode cX5_endMessage 117 = .ok (.aload_n 2, 1) := by decide +kernel
theorem dX5_endMessage_118 : decode cX5_endMessage 118 = .ok (.getfield 143, 3) := by decide +kernel
theorem dX5_endMessage_121 : decode cX5_endMessage 121 = .ok (.invokevirtual 156, 3) := by decide +kernel
theorem dX5_endMessage_124 : decode cX5_endMessage 124 = .ok (.return_, 1) := by decide +kernel
theorem dX5_doMessage_0 : decode cX5_doMessage 0 = .ok (.aload_n 2, 1) := by decide +kernel
theorem dX5_doMessage_1 : decode cX5_doMessage 1 = .ok (.aload_n 0, 1) := by decide +kernel
theorem dX5_doMessage_2 : decode cX5_doMessage 2 = .ok (.getfield 33, 3) := by decide +kernel
theorem dX5_doMessage_5 : decode cX5_doMessage 5 = .ok (.getfield 150, 3) := by decide +kernel
theorem dX5_doMessage_8 : decode cX5_doMessage 8 = .ok (.putfield 116, 3) := by decide +kernel
theorem dX5_doMessage_11 : decode cX5_doMessage 11 = .ok (.aload_n 0, 1) := by decide +kernel
theorem dX5_doMessage_12 : decode cX5_doMessage 12 = .ok (.getfield 33, 3) := by decide +kernel
theorem dX5_doMessage_15 : decode cX5_doMessage 15 = .ok (.getfield 140, 3) := by decide +kernel
theorem dX5_doMessage_18 : decode cX5_doMessage 18 = .ok (.bipush 83, 2) := by decide +kernel
theorem dX5_doMessage_20 : decode cX5_doMessage 20 = .ok (.if_icmp .ne 8, 3) := by decide +kernel
theorem dX5_doMessage_23 : decode cX5_doMessage 23 = .ok (.aload_n 2, 1) := by decide +kernel
theorem dX5_doMessage_24 : decode cX5_doMessage 24 = .ok (.iconst 1, 1) := by decide +kernel
theorem dX5_doMessage_25 : decode cX5_doMessage 25 = .ok (.putfield 119, 3) := by decide +kernel
theorem dX5_doMessage_28 : decode cX5_doMessage 28 = .ok (.aload_n 0, 1) := by decide +kernel
theorem dX5_doMessage_29 : decode cX5_doMessage 29 = .ok (.getfield 33, 3) := by decide +kernel
theorem dX5_doMessage_32 : decode cX5_doMessage 32 = .ok (.invokevirtual 160, 3) := by decide +kernel
theorem dX5_doMessage_35 : decode cX5_doMessage 35 = .ok (.istore_n 3, 1) := by decide +kernel
theorem dX5_doMessage_36 : decode cX5_doMessage 36 = .ok (.aload_n 2, 1) := by decide +kernel
theorem dX5_doMessage_37 : decode cX5_doMessage 37 = .ok (.getfield 119, 3) := by decide +kernel
theorem dX5_doMessage_40 : decode cX5_doMessage 40 = .ok (.ifCond .ne 17, 3) := by decide +kernel
theorem dX5_doMessage_43 : decode cX5_doMessage 43 = .ok (.aload_n 2, 1) := by decide +kernel
theorem dX5_doMessage_44 : decode cX5_doMessage 44 = .ok (.getfield 143, 3) := by decide +kernel
theorem dX5_doMessage_47 : decode cX5_doMessage 47 = .ok (.aload_n 0, 1) := by decide +kernel
theorem dX5_doMessage_48 : decode cX5_doMessage 48 = .ok (.getfield 33, 3) := by decide +kernel
theorem dX5_doMessage_51 : decode cX5_doMessage 51 = .ok (.invokevirtual 146, 3) := by decide +kernel
theorem dX5_doMessage_54 : decode cX5_doMessage 54 = .ok (.goto 54, 3) := by decide +kernel
theorem dX5_doMessage_57 : decode cX5_doMessage 57 = .ok (.iload_n 3, 1) := by decide +kernel
theorem dX5_doMessage_58 : decode cX5_doMessage 58 = .ok (.iconst (-1), 1) := by decide +kernel
theorem dX5_doMessage_59 : decode cX5_doMessage 59 = .ok (.if_icmp .eq 18, 3) := by decide +kernel
theorem dX5_doMessage_62 : decode cX5_doMessage 62 = .ok (.aload_n 2, 1) := by decide +kernel
theorem dX5_doMessage_63 : decode cX5_doMessage 63 = .ok (.getfield 143, 3) := by decide +kernel
theorem dX5_doMessage_66 : decode cX5_doMessage 66 = .ok (.aload_n 0, 1) := by decide +kernel
theorem dX5_doMessage_67 : decode cX5_doMessage 67 = .ok (.getfield 33, 3) := by decide +kernel
theorem dX5_doMessage_70 : decode cX5_doMessage 70 = .ok (.iload_n 3, 1) := by decide +kernel
theorem dX5_doMessage_71 : decode cX5_doMessage 71 = .ok (.invokevirtual 164, 3) := by decide +kernel
theorem dX5_doMessage_74 : decode cX5_doMessage 74 = .ok (.goto 34, 3) := by decide +kernel
theorem dX5_doMessage_77 : decode cX5_doMessage 77 = .ok (.aload_n 0, 1) := by decide +kernel
theorem dX5_doMessage_78 : decode cX5_doMessage 78 = .ok (.iload_n 1, 1) := by decide +kernel
theorem dX5_doMessage_79 : decode cX5_doMessage 79 = .ok (.invokevirtual 103, 3) := by decide +kernel
theorem dX5_doMessage_82 : decode cX5_doMessage 82 = .ok (.istore 4, 2) := by decide +kernel
theorem dX5_doMessage_84 : decode cX5_doMessage 84 = .ok (.aload_n 2, 1) := by decide +kernel
theorem dX5_doMessage_85 : decode cX5_doMessage 85 = .ok (.getfield 143, 3) := by decide +kernel
theorem dX5_doMessage_88 : decode cX5_doMessage 88 = .ok (.aload_n 0, 1) := by decide +kernel
theorem dX5_doMessage_89 : decode cX5_doMessage 89 = .ok (.getfield 33, 3) := by decide +kernel
theorem dX5_doMessage_92 : decode cX5_doMessage 92 = .ok (.iload 4, 2) := by decide +kernel
theorem dX5_doMessage_94 : decode cX5_doMessage 94 = .ok (.aload_n 0, 1) := by decide +kernel
theorem dX5_doMessage_95 : decode cX5_doMessage 95 = .ok (.getfield 19, 3) := by decide +kernel
theorem dX5_doMessage_98 : decode cX5_doMessage 98 = .ok (.aload_n 0, 1) := by decide +kernel
theorem dX5_doMessage_99 : decode cX5_doMessage 99 = .ok (.getfield 33, 3) := by decide +kernel
theorem dX5_doMessage_102 : decode cX5_doMessage 102 = .ok (.invokevirtual 168, 3) := by decide +kernel
theorem dX5_doMessage_105 : decode cX5_doMessage 105 = .ok (.invokevirtual 172, 3) := by decide +kernel
theorem dX5_doMessage_108 : decode cX5_doMessage 108 = .ok (.return_, 1) := by decide +kernel
theorem dX5_carryOut_0 : decode cX5_carryOut 0 = .ok (.aload_n 0, 1) := by decide +kernel
theorem dX5_carryOut_1 : decode cX5_carryOut 1 = .ok (.getfield 33, 3) := by decide +kernel
theorem dX5_carryOut_4 : decode cX5_carryOut 4 = .ok (.getfield 140, 3) := by decide +kernel
theorem dX5_carryOut_7 : decode cX5_carryOut 7 = .ok (.bipush 66, 2) := by decide +kernel
theorem dX5_carryOut_9 : decode cX5_carryOut 9 = .ok (.if_icmp .ne 25, 3) := by decide +kernel
theorem dX5_carryOut_12 : decode cX5_carryOut 12 = .ok (.aload_n 0, 1) := by decide +kernel
theorem dX5_carryOut_13 : decode cX5_carryOut 13 = .ok (.getfield 33, 3) := by decide +kernel
theorem dX5_carryOut_16 : decode cX5_carryOut 16 = .ok (.aload_n 0, 1) := by decide +kernel
theorem dX5_carryOut_17 : decode cX5_carryOut 17 = .ok (.getfield 19, 3) := by decide +kernel
theorem dX5_carryOut_20 : decode cX5_carryOut 20 = .ok (.getfield 176, 3) := by decide +kernel
theorem dX5_carryOut_23 : decode cX5_carryOut 23 = .ok (.aload_n 0, 1) := by decide +kernel
theorem dX5_carryOut_24 : decode cX5_carryOut 24 = .ok (.getfield 33, 3) := by decide +kernel
theorem dX5_carryOut_27 : decode cX5_carryOut 27 = .ok (.getfield 179, 3) := by decide +kernel
theorem dX5_carryOut_30 : decode cX5_carryOut 30 = .ok (.iaload, 1) := by decide +kernel
theorem dX5_carryOut_31 : decode cX5_carryOut 31 = .ok (.putfield 182, 3) := by decide +kernel
theorem dX5_carryOut_34 : decode cX5_carryOut 34 = .ok (.aload_n 0, 1) := by decide +kernel
theorem dX5_carryOut_35 : decode cX5_carryOut 35 = .ok (.getfield 19, 3) := by decide +kernel
theorem dX5_carryOut_38 : decode cX5_carryOut 38 = .ok (.aload_n 0, 1) := by decide +kernel
theorem dX5_carryOut_39 : decode cX5_carryOut 39 = .ok (.getfield 33, 3) := by decide +kernel
theorem dX5_carryOut_42 : decode cX5_carryOut 42 = .ok (.invokevirtual 185, 3) := by decide +kernel
theorem dX5_carryOut_45 : decode cX5_carryOut 45 = .ok (.istore_n 2, 1) := by decide +kernel
theorem dX5_carryOut_46 : decode cX5_carryOut 46 = .ok (.iload_n 2, 1) := by decide +kernel
theorem dX5_carryOut_47 : decode cX5_carryOut 47 = .ok (.ifCond .eq 25, 3) := by decide +kernel
theorem dX5_carryOut_50 : decode cX5_carryOut 50 = .ok (.aload_n 0, 1) := by decide +kernel
theorem dX5_carryOut_51 : decode cX5_carryOut 51 = .ok (.getfield 33, 3) := by decide +kernel
theorem dX5_carryOut_54 : decode cX5_carryOut 54 = .ok (.invokevirtual 189, 3) := by decide +kernel
theorem dX5_carryOut_57 : decode cX5_carryOut 57 = .ok (.ifCond .eq 15, 3) := by decide +kernel
theorem dX5_carryOut_60 : decode cX5_carryOut 60 = .ok (.aload_n 0, 1) := by decide +kernel
theorem dX5_carryOut_61 : decode cX5_carryOut 61 = .ok (.getfield 26, 3) := by decide +kernel
theorem dX5_carryOut_64 : decode cX5_carryOut 64 = .ok (.iload_n 1, 1) := by decide +kernel
theorem dX5_carryOut_65 : decode cX5_carryOut 65 = .ok (.aload_n 0, 1) := by decide +kernel
theorem dX5_carryOut_66 : decode cX5_carryOut 66 = .ok (.getfield 33, 3) := by decide +kernel
theorem dX5_carryOut_69 : decode cX5_carryOut 69 = .ok (.invokevirtual 193, 3) := by decide +kernel
theorem dX5_carryOut_72 : decode cX5_carryOut 72 = .ok (.iload_n 2, 1) := by decide +kernel
theorem dX5_carryOut_73 : decode cX5_carryOut 73 = .ok (.ireturn, 1) := by decide +kernel
theorem dX5_isBelow_0 : decode cX5_isBelow 0 = .ok (.iload_n 0, 1) := by decide +kernel
theorem dX5_isBelow_1 : decode cX5_isBelow 1 = .ok (.ifCond .lt 12, 3) := by decide +kernel
theorem dX5_isBelow_4 : decode cX5_isBelow 4 = .ok (.iload_n 0, 1) := by decide +kernel
theorem dX5_isBelow_5 : decode cX5_isBelow 5 = .ok (.iload_n 1, 1) := by decide +kernel
theorem dX5_isBelow_6 : decode cX5_isBelow 6 = .ok (.if_icmp .ge 7, 3) := by decide +kernel
theorem dX5_isBelow_9 : decode cX5_isBelow 9 = .ok (.iconst 1, 1) := by decide +kernel
theorem dX5_isBelow_10 : decode cX5_isBelow 10 = .ok (.goto 4, 3) := by decide +kernel
theorem dX5_isBelow_13 : decode cX5_isBelow 13 = .ok (.iconst 0, 1) := by decide +kernel
theorem dX5_isBelow_14 : decode cX5_isBelow 14 = .ok (.ireturn, 1) := by decide +kernel
theorem dX5_isDigit_0 : decode cX5_isDigit 0 = .ok (.iload_n 0, 1) := by decide +kernel
theorem dX5_isDigit_1 : decode cX5_isDigit 1 = .ok (.bipush 48, 2) := by decide +kernel
theorem dX5_isDigit_3 : decode cX5_isDigit 3 = .ok (.if_icmp .lt 13, 3) := by decide +kernel
theorem dX5_isDigit_6 : decode cX5_isDigit 6 = .ok (.iload_n 0, 1) := by decide +kernel
theorem dX5_isDigit_7 : decode cX5_isDigit 7 = .ok (.bipush 57, 2) := by decide +kernel
theorem dX5_isDigit_9 : decode cX5_isDigit 9 = .ok (.if_icmp .gt 7, 3) := by decide +kernel
theorem dX5_isDigit_12 : decode cX5_isDigit 12 = .ok (.iconst 1, 1) := by decide +kernel
theorem dX5_isDigit_13 : decode cX5_isDigit 13 = .ok (.goto 4, 3) := by decide +kernel
theorem dX5_isDigit_16 : decode cX5_isDigit 16 = .ok (.iconst 0, 1) := by decide +kernel
theorem dX5_isDigit_17 : decode cX5_isDigit 17 = .ok (.ireturn, 1) := by decide +kernel
theorem dX5_hexDigit_0 : decode cX5_hexDigit 0 = .ok (.iload_n 0, 1) := by decide +kernel
theorem dX5_hexDigit_1 : decode cX5_hexDigit 1 = .ok (.bipush 15, 2) := by decide +kernel
theorem dX5_hexDigit_3 : decode cX5_hexDigit 3 = .ok (.iand, 1) := by decide +kernel
theorem dX5_hexDigit_4 : decode cX5_hexDigit 4 = .ok (.istore_n 1, 1) := by decide +kernel
theorem dX5_hexDigit_5 : decode cX5_hexDigit 5 = .ok (.iload_n 1, 1) := by decide +kernel
theorem dX5_hexDigit_6 : decode cX5_hexDigit 6 = .ok (.bipush 10, 2) := by decide +kernel
theorem dX5_hexDigit_8 : decode cX5_hexDigit 8 = .ok (.if_icmp .ge 10, 3) := by decide +kernel
theorem dX5_hexDigit_11 : decode cX5_hexDigit 11 = .ok (.bipush 48, 2) := by decide +kernel
theorem dX5_hexDigit_13 : decode cX5_hexDigit 13 = .ok (.iload_n 1, 1) := by decide +kernel
theorem dX5_hexDigit_14 : decode cX5_hexDigit 14 = .ok (.iadd, 1) := by decide +kernel
theorem dX5_hexDigit_15 : decode cX5_hexDigit 15 = .ok (.goto 10, 3) := by decide +kernel
theorem dX5_hexDigit_18 : decode cX5_hexDigit 18 = .ok (.bipush 65, 2) := by decide +kernel
theorem dX5_hexDigit_20 : decode cX5_hexDigit 20 = .ok (.iload_n 1, 1) := by decide +kernel
theorem dX5_hexDigit_21 : decode cX5_hexDigit 21 = .ok (.iadd, 1) := by decide +kernel
theorem dX5_hexDigit_22 : decode cX5_hexDigit 22 = .ok (.bipush 10, 2) := by decide +kernel
theorem dX5_hexDigit_24 : decode cX5_hexDigit 24 = .ok (.isub, 1) := by decide +kernel
theorem dX5_hexDigit_25 : decode cX5_hexDigit 25 = .ok (.ireturn, 1) := by decide +kernel
theorem dX5_sumOf_0 : decode cX5_sumOf 0 = .ok (.iconst 0, 1) := by decide +kernel
theorem dX5_sumOf_1 : decode cX5_sumOf 1 = .ok (.istore_n 2, 1) := by decide +kernel
theorem dX5_sumOf_2 : decode cX5_sumOf 2 = .ok (.iconst 0, 1) := by decide +kernel
theorem dX5_sumOf_3 : decode cX5_sumOf 3 = .ok (.istore_n 3, 1) := by decide +kernel
theorem dX5_sumOf_4 : decode cX5_sumOf 4 = .ok (.iload_n 3, 1) := by decide +kernel
theorem dX5_sumOf_5 : decode cX5_sumOf 5 = .ok (.iload_n 1, 1) := by decide +kernel
theorem dX5_sumOf_6 : decode cX5_sumOf 6 = .ok (.if_icmp .ge 21, 3) := by decide +kernel
theorem dX5_sumOf_9 : decode cX5_sumOf 9 = .ok (.iload_n 3, 1) := by decide +kernel
theorem dX5_sumOf_10 : decode cX5_sumOf 10 = .ok (.aload_n 0, 1) := by decide +kernel
theorem dX5_sumOf_11 : decode cX5_sumOf 11 = .ok (.arraylength, 1) := by decide +kernel
theorem dX5_sumOf_12 : decode cX5_sumOf 12 = .ok (.if_icmp .ge 15, 3) := by decide +kernel
theorem dX5_sumOf_15 : decode cX5_sumOf 15 = .ok (.iload_n 2, 1) := by decide +kernel
theorem dX5_sumOf_16 : decode cX5_sumOf 16 = .ok (.aload_n 0, 1) := by decide +kernel
theorem dX5_sumOf_17 : decode cX5_sumOf 17 = .ok (.iload_n 3, 1) := by decide +kernel
theorem dX5_sumOf_18 : decode cX5_sumOf 18 = .ok (.iaload, 1) := by decide +kernel
theorem dX5_sumOf_19 : decode cX5_sumOf 19 = .ok (.iadd, 1) := by decide +kernel
theorem dX5_sumOf_20 : decode cX5_sumOf 20 = .ok (.istore_n 2, 1) := by decide +kernel
theorem dX5_sumOf_21 : decode cX5_sumOf 21 = .ok (.iinc 3 1, 3) := by decide +kernel
theorem dX5_sumOf_24 : decode cX5_sumOf 24 = .ok (.goto (-20), 3) := by decide +kernel
theorem dX5_sumOf_27 : decode cX5_sumOf 27 = .ok (.iload_n 2, 1) := by decide +kernel
theorem dX5_sumOf_28 : decode cX5_sumOf 28 = .ok (.sipush 255, 3) := by decide +kernel
theorem dX5_sumOf_31 : decode cX5_sumOf 31 = .ok (.iand, 1) := by decide +kernel
theorem dX5_sumOf_32 : decode cX5_sumOf 32 = .ok (.ireturn, 1) := by decide +kernel
end
section
theorem dX6_init_0 : decode cX6_init 0 = .ok (.aload_n 0, 1) := by decide +kernel
theorem dX6_init_1 : decode cX6_init 1 = .ok (.invokespecial 1, 3) := by decide +kernel
theorem dX6_init_4 : decode cX6_init 4 = .ok (.aload_n 0, 1) := by decide +kernel
theorem dX6_init_5 : decode cX6_init 5 = .ok (.bipush 6, 2) := by decide +kernel
theorem dX6_init_7 : decode cX6_init 7 = .ok (.newarray .int, 2) := by decide +kernel
theorem dX6_init_9 : decode cX6_init 9 = .ok (.putfield 7, 3) := by decide +kernel
theorem dX6_init_12 : decode cX6_init 12 = .ok (.aload_n 0, 1) := by decide +kernel
theorem dX6_init_13 : decode cX6_init 13 = .ok (.sipush 360, 3) := by decide +kernel
theorem dX6_init_16 : decode cX6_init 16 = .ok (.newarray .byte, 2) := by decide +kernel
theorem dX6_init_18 : decode cX6_init 18 = .ok (.putfield 13, 3) := by decide +kernel
theorem dX6_init_21 : decode cX6_init 21 = .ok (.aload_n 0, 1) := by decide +kernel
theorem dX6_init_22 : decode cX6_init 22 = .ok (.bipush 6, 2) := by decide +kernel
theorem dX6_init_24 : decode cX6_init 24 = .ok (.newarray .boolean, 2) := by decide +kernel
theorem dX6_init_26 : decode cX6_init 26 = .ok (.putfield 17, 3) := by decide +kernel
theorem dX6_init_29 : decode cX6_init 29 = .ok (.aload_n 0, 1) := by decide +kernel
theorem dX6_init_30 : decode cX6_init 30 = .ok (.bipush 6, 2) := by decide +kernel
theorem dX6_init_32 : decode cX6_init 32 = .ok (.newarray .boolean, 2) := by decide +kernel
theorem dX6_init_34 : decode cX6_init 34 = .ok (.putfield 21, 3) := by decide +kernel
theorem dX6_init_37 : decode cX6_init 37 = .ok (.aload_n 0, 1) := by decide +kernel
theorem dX6_init_38 : decode cX6_init 38 = .ok (.bipush 6, 2) := by decide +kernel
theorem dX6_init_40 : decode cX6_init 40 = .ok (.newarray .int, 2) := by decide +kernel
theorem dX6_init_42 : decode cX6_init 42 = .ok (.putfield 24, 3) := by decide +kernel
theorem dX6_init_45 : decode cX6_init 45 = .ok (.aload_n 0, 1) := by decide +kernel
theorem dX6_init_46 : decode cX6_init 46 = .ok (.bipush 6, 2) := by decide +kernel
theorem dX6_init_48 : decode cX6_init 48 = .ok (.newarray .int, 2) := by decide +kernel
theorem dX6_init_50 : decode cX6_init 50 = .ok (.putfield 27, 3) := by decide +kernel
theorem dX6_init_53 : decode cX6_init 53 = .ok (.aload_n 0, 1) := by decide +kernel
theorem dX6_init_54 : decode cX6_init 54 = .ok (.bipush 6, 2) := by decide +kernel
theorem dX6_init_56 : decode cX6_init 56 = .ok (.newarray .int, 2) := by decide +kernel
theorem dX6_init_58 : decode cX6_init 58 = .ok (.putfield 30, 3) := by decide +kernel
theorem dX6_init_61 : decode cX6_init 61 = .ok (.aload_n 0, 1) := by decide +kernel
theorem dX6_init_62 : decode cX6_init 62 = .ok (.sipush 180, 3) := by decide +kernel
theorem dX6_init_65 : decode cX6_init 65 = .ok (.newarray .byte, 2) := by decide +kernel
theorem dX6_init_67 : decode cX6_init 67 = .ok (.putfield 33, 3) := by decide +kernel
theorem dX6_init_70 : decode cX6_init 70 = .ok (.aload_n 0, 1) := by decide +kernel
theorem dX6_init_71 : decode cX6_init 71 = .ok (.bipush 6, 2) := by decide +kernel
theorem dX6_init_73 : decode cX6_init 73 = .ok (.newarray .int, 2) := by decide +kernel
theorem dX6_init_75 : decode cX6_init 75 = .ok (.putfield 36, 3) := by decide +kernel
theorem dX6_init_78 : decode cX6_init 78 = .ok (.aload_n 0, 1) := by decide +kernel
theorem dX6_init_79 : decode cX6_init 79 = .ok (.sipush 180, 3) := by decide +kernel
theorem dX6_init_82 : decode cX6_init 82 = .ok (.newarray .byte, 2) := by decide +kernel
theorem dX6_init_84 : decode cX6_init 84 = .ok (.putfield 39, 3) := by decide +kernel
theorem dX6_init_87 : decode cX6_init 87 = .ok (.aload_n 0, 1) := by decide +kernel
theorem dX6_init_88 : decode cX6_init 88 = .ok (.bipush 6, 2) := by decide +kernel
theorem dX6_init_90 : decode cX6_init 90 = .ok (.newarray .int, 2) := by decide +kernel
theorem dX6_init_92 : decode cX6_init 92 = .ok (.putfield 42, 3) := by decide +kernel
theorem dX6_init_95 : decode cX6_init 95 = .ok (.aload_n 0, 1) := by decide +kernel
theorem dX6_init_96 : decode cX6_init 96 = .ok (.bipush 120, 2) := by decide +kernel
theorem dX6_init_98 : decode cX6_init 98 = .ok (.newarray .int, 2) := by decide +kernel
theorem dX6_init_100 : decode cX6_init 100 = .ok (.putfield 45, 3) := by decide +kernel
theorem dX6_init_103 : decode cX6_init 103 = .ok (.aload_n 0, 1) := by decide +kernel
theorem dX6_init_104 : decode cX6_init 104 = .ok (.bipush 120, 2) := by decide +kernel
theorem dX6_init_106 : decode cX6_init 106 = .ok (.newarray .int, 2) := by decide +kernel
theorem dX6_init_108 : decode cX6_init 108 = .ok (.putfield 48, 3) := by decide +kernel
theorem dX6_init_111 : decode cX6_init 111 = .ok (.aload_n 0, 1) := by decide +kernel
theorem dX6_init_112 : decode cX6_init 112 = .ok (.bipush 120, 2) := by decide +kernel
theorem dX6_init_114 : decode cX6_init 114 = .ok (.newarray .int, 2) := by decide +kernel
theorem dX6_init_116 : decode cX6_init 116 = .ok (.putfield 51, 3) := by decide +kernel
theorem dX6_init_119 : decode cX6_init 119 = .ok (.aload_n 0, 1) := by decide +kernel
theorem dX6_init_120 : decode cX6_init 120 = .ok (.bipush 30, 2) := by decide +kernel
theorem dX6_init_122 : decode cX6_init 122 = .ok (.newarray .int, 2) := by decide +kernel
theorem dX6_init_124 : decode cX6_init 124 = .ok (.putfield 54, 3) := by decide +kernel
theorem dX6_init_127 : decode cX6_init 127 = .ok (.aload_n 0, 1) := by decide +kernel
theorem dX6_init_128 : decode cX6_init 128 = .ok (.bipush 30, 2) := by decide +kernel
theorem dX6_init_130 : decode cX6_init 130 = .ok (.newarray .int, 2) := by decide +kernel
theorem dX6_init_132 : decode cX6_init 132 = .ok (.putfield 57, 3) := by decide +kernel
theorem dX6_init_135 : decode cX6_init 135 = .ok (.aload_n 0, 1) := by decide +kernel
theorem dX6_init_136 : decode cX6_init 136 = .ok (.bipush 30, 2) := by decide +kernel
theorem dX6_init_138 : decode cX6_init 138 = .ok (.newarray .int, 2) := by decide +kernel
theorem dX6_init_140 : decode cX6_init 140 = .ok (.putfield 60, 3) := by decide +kernel
theorem dX6_init_143 : decode cX6_init 143 = .ok (.aload_n 0, 1) := by decide +kernel
theorem dX6_init_144 : decode cX6_init 144 = .ok (.bipush 30, 2) := by decide +kernel
theorem dX6_init_146 : decode cX6_init 146 = .ok (.newarray .int, 2) := by decide +kernel
theorem dX6_init_148 : decode cX6_init 148 = .ok (.putfield 63, 3) := by decide +kernel
theorem dX6_init_151 : decode cX6_init 151 = .ok (.aload_n 0, 1) := by decide +kernel
theorem dX6_init_152 : decode cX6_init 152 = .ok (.sipush 900, 3) := by decide +kernel
theorem dX6_init_155 : decode cX6_init 155 = .ok (.newarray .int, 2) := by decide +kernel
theorem dX6_init_157 : decode cX6_init 157 = .ok (.putfield 66, 3) := by decide +kernel
theorem dX6_init_160 : decode cX6_init 160 = .ok (.aload_n 0, 1) := by decide +kernel
theorem dX6_init_161 : decode cX6_init 161 = .ok (.sipush 5000, 3) := by decide +kernel
theorem dX6_init_164 : decode cX6_init 164 = .ok (.newarray .int, 2) := by decide +kernel
theorem dX6_init_166 : decode cX6_init 166 = .ok (.putfield 69, 3) := by decide +kernel
theorem dX6_init_169 : decode cX6_init 169 = .ok (.iconst 0, 1) := by decide +kernel
theorem dX6_init_170 : decode cX6_init 170 = .ok (.istore_n 1, 1) := by decide +kernel
theorem dX6_init_171 : decode cX6_init 171 = .ok (.iload_n 1, 1) := by decide +kernel
theorem dX6_init_172 : decode cX6_init 172 = .ok (.bipush 6, 2) := by decide +kernel
theorem dX6_init_174 : decode cX6_init 174 = .ok (.if_icmp .ge 16, 3) := by decide +kernel
theorem dX6_init_177 : decode cX6_init 177 = .ok (.aload_n 0, 1) := by decide +kernel
theorem dX6_init_178 : decode cX6_init 178 = .ok (.getfield 24, 3) := by decide +kernel
theorem dX6_init_181 : decode cX6_init 181 = .ok (.iload_n 1, 1) := by decide +kernel
theorem dX6_init_182 : decode cX6_init 182 = .ok (.iconst (-1), 1) := by decide +kernel
theorem dX6_init_183 : decode cX6_init 183 = .ok (.iastore, 1) := by decide +kernel
theorem dX6_init_184 : decode cX6_init 184 = .ok (.iinc 1 1, 3) := by decide +kernel
theorem dX6_init_187 : decode cX6_init 187 = .ok (.goto (-16), 3) := by decide +kernel
theorem dX6_init_190 : decode cX6_init 190 = .ok (.return_, 1) := by decide +kernel
theorem dX6_in_0 : decode cX6_in 0 = .ok (.iload_n 0, 1) := by decide +kernel
theorem dX6_in_1 : decode cX6_in 1 = .ok (.iload_n 1, 1) := by decide +kernel
theorem dX6_in_2 : decode cX6_in 2 = .ok (.if_icmp .lt 12, 3) := by decide +kernel
theorem dX6_in_5 : decode cX6_in 5 = .ok (.iload_n 0, 1) := by decide +kernel
theorem dX6_in_6 : decode cX6_in 6 = .ok (.iload_n 2, 1) := by decide +kernel
theorem dX6_in_7 : decode cX6_in 7 = .ok (.if_icmp .gt 7, 3) := by decide +kernel
theorem dX6_in_10 : decode cX6_in 10 = .ok (.iconst 1, 1) := by decide +kernel
theorem dX6_in_11 : decode cX6_in 11 = .ok (.goto 4, 3) := by decide +kernel
theorem dX6_in_14 : decode cX6_in 14 = .ok (.iconst 0, 1) := by decide +kernel
theorem dX6_in_15 : decode cX6_in 15 = .ok (.ireturn, 1) := by decide +kernel
theorem dX6_isDevice_0 : decode cX6_isDevice 0 = .ok (.iload_n 0, 1) := by decide +kernel
theorem dX6_isDevice_1 : decode cX6_isDevice 1 = .ok (.iconst 0, 1) := by decide +kernel
theorem dX6_isDevice_2 : decode cX6_isDevice 2 = .ok (.iconst 5, 1) := by decide +kernel
theorem dX6_isDevice_3 : decode cX6_isDevice 3 = .ok (.invokestatic 76, 3) := by decide +kernel
theorem dX6_isDevice_6 : decode cX6_isDevice 6 = .ok (.ireturn, 1) := by decide +kernel
theorem dX6_look_0 : decode cX6_look 0 = .ok (.aload_n 0, 1) := by decide +kernel
theorem dX6_look_1 : decode cX6_look 1 = .ok (.getfield 80, 3) := by decide +kernel
theorem dX6_look_4 : decode cX6_look 4 = .ok (.aload_n 0, 1) := by decide +kernel
theorem dX6_look_5 : decode cX6_look 5 = .ok (.getfield 7, 3) := by decide +kernel
theorem dX6_look_8 : decode cX6_look 8 = .ok (.iload_n 1, 1) := by decide +kernel
theorem dX6_look_9 : decode cX6_look 9 = .ok (.iaload, 1) := by decide +kernel
theorem dX6_look_10 : decode cX6_look 10 = .ok (.if_icmp .ge 24, 3) := by decide +kernel
theorem dX6_look_13 : decode cX6_look 13 = .ok (.aload_n 0, 1) := by decide +kernel
theorem dX6_look_14 : decode cX6_look 14 = .ok (.getfield 13, 3) := by decide +kernel
theorem dX6_look_17 : decode cX6_look 17 = .ok (.bipush 60, 2) := by decide +kernel
theorem dX6_look_19 : decode cX6_look 19 = .ok (.iload_n 1, 1) := by decide +kernel
theorem dX6_look_20 : decode cX6_look 20 = .ok (.imul, 1) := by decide +kernel
theorem dX6_look_21 : decode cX6_look 21 = .ok (.aload_n 0, 1) := by decide +kernel
theorem dX6_look_22 : decode cX6_look 22 = .ok (.getfield 80, 3) := by decide +kernel
theorem dX6_look_25 : decode cX6_look 25 = .ok (.iadd, 1) := by decide +kernel
theorem dX6_look_26 : decode cX6_look 26 = .ok (.baload, 1) := by decide +kernel
theorem dX6_look_27 : decode cX6_look 27 = .ok (.sipush 255, 3) := by decide +kernel
theorem dX6_look_30 : decode cX6_look 30 = .ok (.iand, 1) := by decide +kernel
theorem dX6_look_31 : decode cX6_look 31 = .ok (.goto 4, 3) := by decide +kernel
theorem dX6_look_34 : decode cX6_look 34 = .ok (.iconst (-1), 1) := by decide +kernel
theorem dX6_look_35 : decode cX6_look 35 = .ok (.ireturn, 1) := by decide +kernel
theorem dX6_isKind_0 : decode cX6_isKind 0 = .ok (.iload_n 0, 1) := by decide +kernel
theorem dX6_isKind_1 : decode cX6_isKind 1 = .ok (.bipush 83, 2) := by decide +kernel
theorem dX6_isKind_3 : decode cX6_isKind 3 = .ok (.if_icmp .eq 51, 3) := by decide +kernel
theorem dX6_isKind_6 : decode cX6_isKind 6 = .ok (.iload_n 0, 1) := by decide +kernel
theorem dX6_isKind_7 : decode cX6_isKind 7 = .ok (.bipush 67, 2) := by decide +kernel
theorem dX6_isKind_9 : decode cX6_isKind 9 = .ok (.if_icmp .eq 45, 3) := by decide +kernel
theorem dX6_isKind_12 : decode cX6_isKind 12 = .ok (.iload_n 0, 1) := by decide +kernel
theorem dX6_isKind_13 : decode cX6_isKind 13 = .ok (.bipush 66, 2) := by decide +kernel
theorem dX6_isKind_15 : decode cX6_isKind 15 = .ok (.if_icmp .eq 39, 3) := by decide +kernel
theorem dX6_isKind_18 : decode cX6_isKind 18 = .ok (.iload_n 0, 1) := by decide +kernel
theorem dX6_isKind_19 : decode cX6_isKind 19 = .ok (.bipush 80, 2) := by decide +kernel
theorem dX6_isKind_21 : decode cX6_isKind 21 = .ok (.if_icmp .eq 33, 3) := by decide +kernel
theorem dX6_isKind_24 : decode cX6_isKind 24 = .ok (.iload_n 0, 1) := by decide +kernel
theorem dX6_isKind_25 : decode cX6_isKind 25 = .ok (.bipush 73, 2) := by decide +kernel
theorem dX6_isKind_27 : decode cX6_isKind 27 = .ok (.if_icmp .eq 27, 3) := by decide +kernel
theorem dX6_isKind_30 : decode cX6_isKind 30 = .ok (.iload_n 0, 1) := by decide +kernel
theorem dX6_isKind_31 : decode cX6_isKind 31 = .ok (.bipush 70, 2) := by decide +kernel
theorem dX6_isKind_33 : decode cX6_isKind 33 = .ok (.if_icmp .eq 21, 3) := by decide +kernel
theorem dX6_isKind_36 : decode cX6_isKind 36 = .ok (.iload_n 0, 1) := by decide +kernel
theorem dX6_isKind_37 : decode cX6_isKind 37 = .ok (.bipush 72, 2) := by decide +kernel
theorem dX6_isKind_39 : decode cX6_isKind 39 = .ok (.if_icmp .eq 15, 3) := by decide +kernel
theorem dX6_isKind_42 : decode cX6_isKind 42 = .ok (.iload_n 0, 1) := by decide +kernel
theorem dX6_isKind_43 : decode cX6_isKind 43 = .ok (.bipush 82, 2) := by decide +kernel
theorem dX6_isKind_45 : decode cX6_isKind 45 = .ok (.if_icmp .eq 9, 3) := by decide +kernel
theorem dX6_isKind_48 : decode cX6_isKind 48 = .ok (.iload_n 0, 1) := by decide +kernel
theorem dX6_isKind_49 : decode cX6_isKind 49 = .ok (.bipush 81, 2) := by decide +kernel
theorem dX6_isKind_51 : decode cX6_isKind 51 = .ok (.if_icmp .ne 7, 3) := by decide +kernel
theorem dX6_isKind_54 : decode cX6_isKind 54 = .ok (.iconst 1, 1) := by decide +kernel
theorem dX6_isKind_55 : decode cX6_isKind 55 = .ok (.goto 4, 3) := by decide +kernel
theorem dX6_isKind_58 : decode cX6_isKind 58 = .ok (.iconst 0, 1) := by decide +kernel
theorem dX6_isKind_59 : decode cX6_isKind 59 = .ok (.ireturn, 1) := by decide +kernel
theorem dX6_hasPerson_0 : decode cX6_hasPerson 0 = .ok (.iload_n 0, 1) := by decide +kernel
theorem dX6_hasPerson_1 : decode cX6_hasPerson 1 = .ok (.bipush 67, 2) := by decide +kernel
theorem dX6_hasPerson_3 : decode cX6_hasPerson 3 = .ok (.if_icmp .eq 27, 3) := by decide +kernel
theorem dX6_hasPerson_6 : decode cX6_hasPerson 6 = .ok (.iload_n 0, 1) := by decide +kernel
theorem dX6_hasPerson_7 : decode cX6_hasPerson 7 = .ok (.bipush 80, 2) := by decide +kernel
theorem dX6_hasPerson_9 : decode cX6_hasPerson 9 = .ok (.if_icmp .eq 21, 3) := by decide +kernel
theorem dX6_hasPerson_12 : decode cX6_hasPerson 12 = .ok (.iload_n 0, 1) := by decide +kernel
theorem dX6_hasPerson_13 : decode cX6_hasPerson 13 = .ok (.bipush 70, 2) := by decide +kernel
theorem dX6_hasPerson_15 : decode cX6_hasPerson 15 = .ok (.if_icmp .eq 15, 3) := by decide +kernel
theorem dX6_hasPerson_18 : decode cX6_hasPerson 18 = .ok (.iload_n 0, 1) := by decide +kernel
theorem dX6_hasPerson_19 : decode cX6_hasPerson 19 = .ok (.bipush 72, 2) := by decide +kernel
theorem dX6_hasPerson_21 : decode cX6_hasPerson 21 = .ok (.if_icmp .eq 9, 3) := by decide +kernel
theorem dX6_hasPerson_24 : decode cX6_hasPerson 24 = .ok (.iload_n 0, 1) := by decide +kernel
theorem dX6_hasPerson_25 : decode cX6_hasPerson 25 = .ok (.bipush 82, 2) := by decide +kernel
theorem dX6_hasPerson_27 : decode cX6_hasPerson 27 = .ok (.if_icmp .ne 7, 3) := by decide +kernel
theorem dX6_hasPerson_30 : decode cX6_hasPerson 30 = .ok (.iconst 1, 1) := by decide +kernel
theorem dX6_hasPerson_31 : decode cX6_hasPerson 31 = .ok (.goto 4, 3) := by decide +kernel
theorem dX6_hasPerson_34 : decode cX6_hasPerson 34 = .ok (.iconst 0, 1) := by decide +kernel
theorem dX6_hasPerson_35 : decode cX6_hasPerson 35 = .ok (.ireturn, 1) := by decide +kernel
theorem dX6_hasItem_0 : decode cX6_hasItem 0 = .ok (.iload_n 0, 1) := by decide +kernel
theorem dX6_hasItem_1 : decode cX6_hasItem 1 = .ok (.bipush 67, 2) := by decide +kernel
theorem dX6_hasItem_3 : decode cX6_hasItem 3 = .ok (.if_icmp .eq 27, 3) := by decide +kernel
theorem dX6_hasItem_6 : decode cX6_hasItem 6 = .ok (.iload_n 0, 1) := by decide +kernel
theorem dX6_hasItem_7 : decode cX6_hasItem 7 = .ok (.bipush 66, 2) := by decide +kernel
theorem dX6_hasItem_9 : decode cX6_hasItem 9 = .ok (.if_icmp .eq 21, 3) := by decide +kernel
theorem dX6_hasItem_12 : decode cX6_hasItem 12 = .ok (.iload_n 0, 1) := by decide +kernel
theorem dX6_hasItem_13 : decode cX6_hasItem 13 = .ok (.bipush 73, 2) := by decide +kernel
theorem dX6_hasItem_15 : decode cX6_hasItem 15 = .ok (.if_icmp .eq 15, 3) := by decide +kernel
theorem dX6_hasItem_18 : decode cX6_hasItem 18 = .ok (.iload_n 0, 1) := by decide +kernel
theorem dX6_hasItem_19 : decode cX6_hasItem 19 = .ok (.bipush 72, 2) := by decide +kernel
theorem dX6_hasItem_21 : decode cX6_hasItem 21 = .ok (.if_icmp .eq 9, 3) := by decide +kernel
theorem dX6_hasItem_24 : decode cX6_hasItem 24 = .ok (.iload_n 0, 1) := by decide +kernel
theorem dX6_hasItem_25 : decode cX6_hasItem 25 = .ok (.bipush 82, 2) := by decide +kernel
theorem dX6_hasItem_27 : decode cX6_hasItem 27 = .ok (.if_icmp .ne 7, 3) := by decide +kernel
theorem dX6_hasItem_30 : decode cX6_hasItem 30 = .ok (.iconst 1, 1) := by decide +kernel
theorem dX6_hasItem_31 : decode cX6_hasItem 31 = .ok (.goto 4, 3) := by decide +kernel
theorem dX6_hasItem_34 : decode cX6_hasItem 34 = .ok (.iconst 0, 1) := by decide +kernel
theorem dX6_hasItem_35 : decode cX6_hasItem 35 = .ok (.ireturn, 1) := by decide +kernel
theorem dX6_field_0 : decode cX6_field 0 = .ok (.aload_n 0, 1) := by decide +kernel
theorem dX6_field_1 : decode cX6_field 1 = .ok (.iload_n 1, 1) := by decide +kernel
theorem dX6_field_2 : decode cX6_field 2 = .ok (.invokevirtual 83, 3) := by decide +kernel
theorem dX6_field_5 : decode cX6_field 5 = .ok (.iload_n 2, 1) := by decide +kernel
theorem dX6_field_6 : decode cX6_field 6 = .ok (.if_icmp .eq 5, 3) := by decide +kernel
theorem dX6_field_9 : decode cX6_field 9 = .ok (.iconst (-1), 1) := by decide +kernel
theorem dX6_field_10 : decode cX6_field 10 = .ok (.ireturn, 1) := by decide +kernel
theorem dX6_field_11 : decode cX6_field 11 = .ok (.aload_n 0, 1) := by decide +kernel
theorem dX6_field_12 : decode cX6_field 12 = .ok (.dup, 1) := by decide +kernel
theorem dX6_field_13 : decode cX6_field 13 = .ok (.getfield 80, 3) := by decide +kernel
theorem dX6_field_16 : decode cX6_field 16 = .ok (.iconst 1, 1) := by decide +kernel
theorem dX6_field_17 : decode cX6_field 17 = .ok (.iadd, 1) := by decide +kernel
theorem dX6_field_18 : decode cX6_field 18 = .ok (.putfield 80, 3) := by decide +kernel
theorem dX6_field_21 : decode cX6_field 21 = .ok (.iconst 0, 1) := by decide +kernel
theorem dX6_field_22 : decode cX6_field 22 = .ok (.istore_n 3, 1) := by decide +kernel
theorem dX6_field_23 : decode cX6_field 23 = .ok (.iconst 0, 1) := by decide +kernel
theorem dX6_field_24 : decode cX6_field 24 = .ok (.istore 4, 2) := by decide +kernel
theorem dX6_field_26 : decode cX6_field 26 = .ok (.aload_n 0, 1) := by decide +kernel
theorem dX6_field_27 : decode cX6_field 27 = .ok (.iload_n 1, 1) := by decide +kernel
theorem dX6_field_28 : decode cX6_field 28 = .ok (.invokevirtual 83, 3) := by decide +kernel
theorem dX6_field_31 : decode cX6_field 31 = .ok (.bipush 48, 2) := by decide +kernel
theorem dX6_field_33 : decode cX6_field 33 = .ok (.bipush 57, 2) := by decide +kernel
theorem dX6_field_35 : decode cX6_field 35 = .ok (.invokestatic 76, 3) := by decide +kernel
theorem dX6_field_38 : decode cX6_field 38 = .ok (.ifCond .eq 39, 3) := by decide +kernel
theorem dX6_field_41 : decode cX6_field 41 = .ok (.iload 4, 2) := by decide +kernel
theorem dX6_field_43 : decode cX6_field 43 = .ok (.iconst 5, 1) := by decide +kernel
theorem dX6_field_44 : decode cX6_field 44 = .ok (.if_icmp .ge 33, 3) := by decide +kernel
theorem dX6_field_47 : decode cX6_field 47 = .ok (.bipush 10, 2) := by decide +kernel
theorem dX6_field_49 : decode cX6_field 49 = .ok (.iload_n 3, 1) := by decide +kernel
theorem dX6_field_50 : decode cX6_field 50 = .ok (.imul, 1) := by decide +kernel
theorem dX6_field_51 : decode cX6_field 51 = .ok (.aload_n 0, 1) := by decide +kernel
theorem dX6_field_52 : decode cX6_field 52 = .ok (.iload_n 1, 1) := by decide +kernel
theorem dX6_field_53 : decode cX6_field 53 = .ok (.invokevirtual 83, 3) := by decide +kernel
theorem dX6_field_56 : decode cX6_field 56 = .ok (.iadd, 1) := by decide +kernel
theorem dX6_field_57 : decode cX6_field 57 = .ok (.bipush 48, 2) := by decide +kernel
theorem dX6_field_59 : decode cX6_field 59 = .ok (.isub, 1) := by decide +kernel
theorem dX6_field_60 : decode cX6_field 60 = .ok (.istore_n 3, 1) := by decide +kernel
theorem dX6_field_61 : decode cX6_field 61 = .ok (.iinc 4 1, 3) := by decide +kernel
theorem dX6_field_64 : decode cX6_field 64 = .ok (.aload_n 0, 1) := by decide +kernel
theorem dX6_field_65 : decode cX6_field 65 = .ok (.dup, 1) := by decide +kernel
theorem dX6_field_66 : decode cX6_field 66 = .ok (.getfield 80, 3) := by decide +kernel
theorem dX6_field_69 : decode cX6_field 69 = .ok (.iconst 1, 1) := by decide +kernel
theorem dX6_field_70 : decode cX6_field 70 = .ok (.iadd, 1) := by decide +kernel
theorem dX6_field_71 : decode cX6_field 71 = .ok (.putfield 80, 3) := by decide +kernel
theorem dX6_field_74 : decode cX6_field 74 = .ok (.goto (-48), 3) := by decide +kernel
theorem dX6_field_77 : decode cX6_field 77 = .ok (.iload 4, 2) := by decide +kernel
theorem dX6_field_79 : decode cX6_field 79 = .ok (.ifCond .eq 13, 3) := by decide +kernel
theorem dX6_field_82 : decode cX6_field 82 = .ok (.aload_n 0, 1) := by decide +kernel
theorem dX6_field_83 : decode cX6_field 83 = .ok (.iload_n 1, 1) := by decide +kernel
theorem dX6_field_84 : decode cX6_field 84 = .ok (.invokevirtual 83, 3) := by decide +kernel
theorem dX6_field_87 : decode cX6_field 87 = .ok (.bipush 124, 2) := by decide +kernel
theorem dX6_field_89 : decode cX6_field 89 = .ok (.if_icmp .eq 5, 3) := by decide +kernel
theorem dX6_field_92 : decode cX6_field 92 = .ok (.iconst (-1), 1) := by decide +kernel
theorem dX6_field_93 : decode cX6_field 93 = .ok (.ireturn, 1) := by decide +kernel
theorem dX6_field_94 : decode cX6_field 94 = .ok (.aload_n 0, 1) := by decide +kernel
theorem dX6_field_95 : decode cX6_field 95 = .ok (.dup, 1) := by decide +kernel
theorem dX6_field_96 : decode cX6_field 96 = .ok (.getfield 80, 3) := by decide +kernel
theorem dX6_field_99 : decode cX6_field 99 = .ok (.iconst 1, 1) := by decide +kernel
theorem dX6_field_100 : decode cX6_field 100 = .ok (.iadd, 1) := by decide +kernel
theorem dX6_field_101 : decode cX6_field 101 = .ok (.putfield 80, 3) := by decide +kernel
theorem dX6_field_104 : decode cX6_field 104 = .ok (.iload_n 3, 1) := by decide +kernel
theorem dX6_field_105 : decode cX6_field 105 = .ok (.ireturn, 1) := by decide +kernel
theorem dX6_hex_0 : decode cX6_hex 0 = .ok (.iload_n 0, 1) := by decide +kernel
theorem dX6_hex_1 : decode cX6_hex 1 = .ok (.bipush 48, 2) := by decide +kernel
theorem dX6_hex_3 : decode cX6_hex 3 = .ok (.bipush 57, 2) := by decide +kernel
theorem dX6_hex_5 : decode cX6_hex 5 = .ok (.invokestatic 76, 3) := by decide +kernel
theorem dX6_hex_8 : decode cX6_hex 8 = .ok (.ifCond .eq 10, 3) := by decide +kernel
theorem dX6_hex_11 : decode cX6_hex 11 = .ok (.iload_n 0, 1) := by decide +kernel
theorem dX6_hex_12 : decode cX6_hex 12 = .ok (.bipush 48, 2) := by decide +kernel
theorem dX6_hex_14 : decode cX6_hex 14 = .ok (.isub, 1) := by decide +kernel
theorem dX6_hex_15 : decode cX6_hex 15 = .ok (.goto 27, 3) := by decide +kernel
theorem dX6_hex_18 : decode cX6_hex 18 = .ok (.iload_n 0, 1) := by decide +kernel
theorem dX6_hex_19 : decode cX6_hex 19 = .ok (.bipush 65, 2) := by decide +kernel
theorem dX6_hex_21 : decode cX6_hex 21 = .ok (.bipush 70, 2) := by decide +kernel
theorem dX6_hex_23 : decode cX6_hex 23 = .ok (.invokestatic 76, 3) := by decide +kernel
theorem dX6_hex_26 : decode cX6_hex 26 = .ok (.ifCond .eq 13, 3) := by decide +kernel
theorem dX6_hex_29 : decode cX6_hex 29 = .ok (.iload_n 0, 1) := by decide +kernel
theorem dX6_hex_30 : decode cX6_hex 30 = .ok (.bipush 65, 2) := by decide +kernel
theorem dX6_hex_32 : decode cX6_hex 32 = .ok (.isub, 1) := by decide +kernel
theorem dX6_hex_33 : decode cX6_hex 33 = .ok (.bipush 10, 2) := by decide +kernel
theorem dX6_hex_35 : decode cX6_hex 35 = .ok (.iadd, 1) := by decide +kernel
theorem dX6_hex_36 : decode cX6_hex 36 = .ok (.goto 6, 3) := by decide +kernel
theorem dX6_hex_39 : decode cX6_hex 39 = .ok (.sipush (-1000), 3) := by decide +kernel
theorem dX6_hex_42 : decode cX6_hex 42 = .ok (.ireturn, 1) := by decide +kernel
theorem dX6_digit_0 : decode cX6_digit 0 = .ok (.iload_n 0, 1) := by decide +kernel
theorem dX6_digit_1 : decode cX6_digit 1 = .ok (.bipush 10, 2) := by decide +kernel
theorem dX6_digit_3 : decode cX6_digit 3 = .ok (.if_icmp .ge 10, 3) := by decide +kernel
theorem dX6_digit_6 : decode cX6_digit 6 = .ok (.bipush 48, 2) := by decide +kernel
theorem dX6_digit_8 : decode cX6_digit 8 = .ok (.iload_n 0, 1) := by decide +kernel
theorem dX6_digit_9 : decode cX6_digit 9 = .ok (.iadd, 1) := by decide +kernel
theorem dX6_digit_10 : decode cX6_digit 10 = .ok (.goto 10, 3) := by decide +kernel
theorem dX6_digit_13 : decode cX6_digit 13 = .ok (.bipush 65, 2) := by decide +kernel
theorem dX6_digit_15 : decode cX6_digit 15 = .ok (.iload_n 0, 1) := by decide +kernel
theorem dX6_digit_16 : decode cX6_digit 16 = .ok (.iadd, 1) := by decide +kernel
theorem dX6_digit_17 : decode cX6_digit 17 = .ok (.bipush 10, 2) := by decide +kernel
theorem dX6_digit_19 : decode cX6_digit 19 = .ok (.isub, 1) := by decide +kernel
theorem dX6_digit_20 : decode cX6_digit 20 = .ok (.ireturn, 1) := by decide +kernel
theorem dX6_reads_0 : decode cX6_reads 0 = .ok (.aload_n 0, 1) := by decide +kernel
theorem dX6_reads_1 : decode cX6_reads 1 = .ok (.iconst 0, 1) := by decide +kernel
theorem dX6_reads_2 : decode cX6_reads 2 = .ok (.putfield 80, 3) := by decide +kernel
theorem dX6_reads_5 : decode cX6_reads 5 = .ok (.aload_n 0, 1) := by decide +kernel
theorem dX6_reads_6 : decode cX6_reads 6 = .ok (.aload_n 0, 1) := by decide +kernel
theorem dX6_reads_7 : decode cX6_reads 7 = .ok (.iload_n 1, 1) := by decide +kernel
theorem dX6_reads_8 : decode cX6_reads 8 = .ok (.invokevirtual 83, 3) := by decide +kernel
theorem dX6_reads_11 : decode cX6_reads 11 = .ok (.putfield 87, 3) := by decide +kernel
theorem dX6_reads_14 : decode cX6_reads 14 = .ok (.aload_n 0, 1) := by decide +kernel
theorem dX6_reads_15 : decode cX6_reads 15 = .ok (.getfield 87, 3) := by decide +kernel
theorem dX6_reads_18 : decode cX6_reads 18 = .ok (.invokestatic 90, 3) := by decide +kernel
theorem dX6_reads_21 : decode cX6_reads 21 = .ok (.ifCond .ne 5, 3) := by decide +kernel
theorem dX6_reads_24 : decode cX6_reads 24 = .ok (.iconst 0, 1) := by decide +kernel
theorem dX6_reads_25 : decode cX6_reads 25 = .ok (.ireturn, 1) := by decide +kernel
theorem dX6_reads_26 : decode cX6_reads 26 = .ok (.aload_n 0, 1) := by decide +kernel
theorem dX6_reads_27 : decode cX6_reads 27 = .ok (.iconst 1, 1) := by decide +kernel
theorem dX6_reads_28 : decode cX6_reads 28 = .ok (.putfield 80, 3) := by decide +kernel
theorem dX6_reads_31 : decode cX6_reads 31 = .ok (.aload_n 0, 1) := by decide +kernel
theorem dX6_reads_32 : decode cX6_reads 32 = .ok (.iload_n 1, 1) := by decide +kernel
theorem dX6_reads_33 : decode cX6_reads 33 = .ok (.invokevirtual 83, 3) := by decide +kernel
theorem dX6_reads_36 : decode cX6_reads 36 = .ok (.bipush 48, 2) := by decide +kernel
theorem dX6_reads_38 : decode cX6_reads 38 = .ok (.bipush 57, 2) := by decide +kernel
theorem dX6_reads_40 : decode cX6_reads 40 = .ok (.invokestatic 76, 3) := by decide +kernel
theorem dX6_reads_43 : decode cX6_reads 43 = .ok (.ifCond .ne 5, 3) := by decide +kernel
theorem dX6_reads_46 : decode cX6_reads 46 = .ok (.iconst 0, 1) := by decide +kernel
theorem dX6_reads_47 : decode cX6_reads 47 = .ok (.ireturn, 1) := by decide +kernel
theorem dX6_reads_48 : decode cX6_reads 48 = .ok (.aload_n 0, 1) := by decide +kernel
theorem dX6_reads_49 : decode cX6_reads 49 = .ok (.aload_n 0, 1) := by decide +kernel
theorem dX6_reads_50 : decode cX6_reads 50 = .ok (.iload_n 1, 1) := by decide +kernel
theorem dX6_reads_51 : decode cX6_reads 51 = .ok (.invokevirtual 83, 3) := by decide +kernel
theorem dX6_reads_54 : decode cX6_reads 54 = .ok (.bipush 48, 2) := by decide +kernel
theorem dX6_reads_56 : decode cX6_reads 56 = .ok (.isub, 1) := by decide +kernel
theorem dX6_reads_57 : decode cX6_reads 57 = .ok (.putfield 94, 3) := by decide +kernel
theorem dX6_reads_60 : decode cX6_reads 60 = .ok (.aload_n 0, 1) := by decide +kernel
theorem dX6_reads_61 : decode cX6_reads 61 = .ok (.iconst 2, 1) := by decide +kernel
theorem dX6_reads_62 : decode cX6_reads 62 = .ok (.putfield 80, 3) := by decide +kernel
theorem dX6_reads_65 : decode cX6_reads 65 = .ok (.aload_n 0, 1) := by decide +kernel
theorem dX6_reads_66 : decode cX6_reads 66 = .ok (.aload_n 0, 1) := by decide +kernel
theorem dX6_reads_67 : decode cX6_reads 67 = .ok (.getfield 87, 3) := by decide +kernel
theorem dX6_reads_70 : decode cX6_reads 70 = .ok (.invokestatic 97, 3) := by decide +kernel
theorem dX6_reads_73 : decode cX6_reads 73 = .ok (.ifCond .eq 13, 3) := by decide +kernel
theorem dX6_reads_76 : decode cX6_reads 76 = .ok (.aload_n 0, 1) := by decide +kernel
theorem dX6_reads_77 : decode cX6_reads 77 = .ok (.iload_n 1, 1) := by decide +kernel
theorem dX6_reads_78 : decode cX6_reads 78 = .ok (.bipush 97, 2) := by decide +kernel
theorem dX6_reads_80 : decode cX6_reads 80 = .ok (.invokevirtual 100, 3) := by decide +kernel
theorem dX6_reads_83 : decode cX6_reads 83 = .ok (.goto 4, 3) := by decide +kernel
theorem dX6_reads_86 : decode cX6_reads 86 = .ok (.iconst 0, 1) := by decide +kernel
theorem dX6_reads_87 : decode cX6_reads 87 = .ok (.putfield 104, 3) := by decide +kernel
theorem dX6_reads_90 : decode cX6_reads 90 = .ok (.aload_n 0, 1) := by decide +kernel
theorem dX6_reads_91 : decode cX6_reads 91 = .ok (.aload_n 0, 1) := by decide +kernel
theorem dX6_reads_92 : decode cX6_reads 92 = .ok (.getfield 104, 3) := by decide +kernel
theorem dX6_reads_95 : decode cX6_reads 95 = .ok (.ifCond .lt 23, 3) := by decide +kernel
theorem dX6_reads_98 : decode cX6_reads 98 = .ok (.aload_n 0, 1) := by decide +kernel
theorem dX6_reads_99 : decode cX6_reads 99 = .ok (.getfield 87, 3) := by decide +kernel
theorem dX6_reads_102 : decode cX6_reads 102 = .ok (.invokestatic 107, 3) := by decide +kernel
theorem dX6_reads_105 : decode cX6_reads 105 = .ok (.ifCond .eq 13, 3) := by decide +kernel
theorem dX6_reads_108 : decode cX6_reads 108 = .ok (.aload_n 0, 1) := by decide +kernel
theorem dX6_reads_109 : decode cX6_reads 109 = .ok (.iload_n 1, 1) := by decide +kernel
theorem dX6_reads_110 : decode cX6_reads 110 = .ok (.bipush 98, 2) := by decide +kernel
theorem dX6_reads_112 : decode cX6_reads 112 = .ok (.invokevirtual 100, 3) := by decide +kernel
theorem dX6_reads_115 : decode cX6_reads 115 = .ok (.goto 4, 3) := by decide +kernel
theorem dX6_reads_118 : decode cX6_reads 118 = .ok (.iconst 0, 1) := by decide +kernel
theorem dX6_reads_119 : decode cX6_reads 119 = .ok (.putfield 110, 3) := by decide +kernel
theorem dX6_reads_122 : decode cX6_reads 122 = .ok (.aload_n 0, 1) := by decide +kernel
theorem dX6_reads_123 : decode cX6_reads 123 = .ok (.aload_n 0, 1) := by decide +kernel
theorem dX6_reads_124 : decode cX6_reads 124 = .ok (.getfield 104, 3) := by decide +kernel
theorem dX6_reads_127 : decode cX6_reads 127 = .ok (.ifCond .lt 22, 3) := by decide +kernel
theorem dX6_reads_130 : decode cX6_reads 130 = .ok (.aload_n 0, 1) := by decide +kernel
theorem dX6_reads_131 : decode cX6_reads 131 = .ok (.getfield 87, 3) := by decide +kernel
theorem dX6_reads_134 : decode cX6_reads 134 = .ok (.bipush 70, 2) := by decide +kernel
theorem dX6_reads_136 : decode cX6_reads 136 = .ok (.if_icmp .ne 13, 3) := by decide +kernel
theorem dX6_reads_139 : decode cX6_reads 139 = .ok (.aload_n 0, 1) := by decide +kernel
theorem dX6_reads_140 : decode cX6_reads 140 = .ok (.iload_n 1, 1) := by decide +kernel
theorem dX6_reads_141 : decode cX6_reads 141 = .ok (.bipush 99, 2) := by decide +kernel
theorem dX6_reads_143 : decode cX6_reads 143 = .ok (.invokevirtual 100, 3) := by decide +kernel
theorem dX6_reads_146 : decode cX6_reads 146 = .ok (.goto 4, 3) := by decide +kernel
theorem dX6_reads_149 : decode cX6_reads 149 = .ok (.iconst 0, 1) := by decide +kernel
theorem dX6_reads_150 : decode cX6_reads 150 = .ok (.putfield 113, 3) := by decide +kernel
theorem dX6_reads_153 : decode cX6_reads 153 = .ok (.aload_n 0, 1) := by decide +kernel
theorem dX6_reads_154 : decode cX6_reads 154 = .ok (.getfield 104, 3) := by decide +kernel
theorem dX6_reads_157 : decode cX6_reads 157 = .ok (.ifCond .lt 27, 3) := by decide +kernel
theorem dX6_reads_160 : decode cX6_reads 160 = .ok (.aload_n 0, 1) := by decide +kernel
theorem dX6_reads_161 : decode cX6_reads 161 = .ok (.getfield 110, 3) := by decide +kernel
theorem dX6_reads_164 : decode cX6_reads 164 = .ok (.ifCond .lt 20, 3) := by decide +kernel
theorem dX6_reads_167 : decode cX6_reads 167 = .ok (.aload_n 0, 1) := by decide +kernel
theorem dX6_reads_168 : decode cX6_reads 168 = .ok (.getfield 113, 3) := by decide +kernel
theorem dX6_reads_171 : decode cX6_reads 171 = .ok (.ifCond .lt 13, 3) := by decide +kernel
theorem dX6_reads_174 : decode cX6_reads 174 = .ok (.aload_n 0, 1) := by decide +kernel
theorem dX6_reads_175 : decode cX6_reads 175 = .ok (.iload_n 1, 1) := by decide +kernel
theorem dX6_reads_176 : decode cX6_reads 176 = .ok (.invokevirtual 83, 3) := by decide +kernel
theorem dX6_reads_179 : decode cX6_reads 179 = .ok (.bipush 90, 2) := by decide +kernel
theorem dX6_reads_181 : decode cX6_reads 181 = .ok (.if_icmp .eq 5, 3) := by decide +kernel
theorem dX6_reads_184 : decode cX6_reads 184 = .ok (.iconst 0, 1) := by decide +kernel
theorem dX6_reads_185 : decode cX6_reads 185 = .ok (.ireturn, 1) := by decide +kernel
theorem dX6_reads_186 : decode cX6_reads 186 = .ok (.iconst 0, 1) := by decide +kernel
theorem dX6_reads_187 : decode cX6_reads 187 = .ok (.istore_n 2, 1) := by decide +kernel
theorem dX6_reads_188 : decode cX6_reads 188 = .ok (.iconst 0, 1) := by decide +kernel
theorem dX6_reads_189 : decode cX6_reads 189 = .ok (.istore_n 3, 1) := by decide +kernel
theorem dX6_reads_190 : decode cX6_reads 190 = .ok (.iload_n 3, 1) := by decide +kernel
theorem dX6_reads_191 : decode cX6_reads 191 = .ok (.aload_n 0, 1) := by decide +kernel
theorem dX6_reads_192 : decode cX6_reads 192 = .ok (.getfield 80, 3) := by decide +kernel
theorem dX6_reads_195 : decode cX6_reads 195 = .ok (.if_icmp .ge 27, 3) := by decide +kernel
theorem dX6_reads_198 : decode cX6_reads 198 = .ok (.iload_n 2, 1) := by decide +kernel
theorem dX6_reads_199 : decode cX6_reads 199 = .ok (.aload_n 0, 1) := by decide +kernel
theorem dX6_reads_200 : decode cX6_reads 200 = .ok (.getfield 13, 3) := by decide +kernel
theorem dX6_reads_203 : decode cX6_reads 203 = .ok (.bipush 60, 2) := by decide +kernel
theorem dX6_reads_205 : decode cX6_reads 205 = .ok (.iload_n 1, 1) := by decide +kernel
theorem dX6_reads_206 : decode cX6_reads 206 = .ok (.imul, 1) := by decide +kernel
theorem dX6_reads_207 : decode cX6_reads 207 = .ok (.iload_n 3, 1) := by decide +kernel
theorem dX6_reads_208 : decode cX6_reads 208 = .ok (.iadd, 1) := by decide +kernel
theorem dX6_reads_209 : decode cX6_reads 209 = .ok (.baload, 1) := by decide +kernel
theorem dX6_reads_210 : decode cX6_reads 210 = .ok (.sipush 255, 3) := by decide +kernel
theorem dX6_reads_213 : decode cX6_reads 213 = .ok (.iand, 1) := by decide +kernel
theorem dX6_reads_214 : decode cX6_reads 214 = .ok (.iadd, 1) := by decide +kernel
theorem dX6_reads_215 : decode cX6_reads 215 = .ok (.istore_n 2, 1) := by decide +kernel
theorem dX6_reads_216 : decode cX6_reads 216 = .ok (.iinc 3 1, 3) := by decide +kernel
theorem dX6_reads_219 : decode cX6_reads 219 = .ok (.goto (-29), 3) := by decide +kernel
theorem dX6_reads_222 : decode cX6_reads 222 = .ok (.aload_n 0, 1) := by decide +kernel
theorem dX6_reads_223 : decode cX6_reads 223 = .ok (.dup, 1) := by decide +kernel
theorem dX6_reads_224 : decode cX6_reads 224 = .ok (.getfield 80, 3) := by decide +kernel
theorem dX6_reads_227 : decode cX6_reads 227 = .ok (.iconst 1, 1) := by decide +kernel
theorem dX6_reads_228 : decode cX6_reads 228 = .ok (.iadd, 1) := by decide +kernel
theorem dX6_reads_229 : decode cX6_reads 229 = .ok (.putfield 80, 3) := by decide +kernel
theorem dX6_reads_232 : decode cX6_reads 232 = .ok (.aload_n 0, 1) := by decide +kernel
theorem dX6_reads_233 : decode cX6_reads 233 = .ok (.iload_n 1, 1) := by decide +kernel
theorem dX6_reads_234 : decode cX6_reads 234 = .ok (.invokevirtual 83, 3) := by decide +kernel
theorem dX6_reads_237 : decode cX6_reads 237 = .ok (.invokestatic 116, 3) := by decide +kernel
theorem dX6_reads_240 : decode cX6_reads 240 = .ok (.istore_n 3, 1) := by decide +kernel
theorem dX6_reads_241 : decode cX6_reads 241 = .ok (.aload_n 0, 1) := by decide +kernel
theorem dX6_reads_242 : decode cX6_reads 242 = .ok (.dup, 1) := by decide +kernel
theorem dX6_reads_243 : decode cX6_reads 243 = .ok (.getfield 80, 3) := by decide +kernel
theorem dX6_reads_246 : decode cX6_reads 246 = .ok (.iconst 1, 1) := by decide +kernel
theorem dX6_reads_247 : decode cX6_reads 247 = .ok (.iadd, 1) := by decide +kernel
theorem dX6_reads_248 : decode cX6_reads 248 = .ok (.putfield 80, 3) := by decide +kernel
theorem dX6_reads_251 : decode cX6_reads 251 = .ok (.aload_n 0, 1) := by decide +kernel
theorem dX6_reads_252 : decode cX6_reads 252 = .ok (.iload_n 1, 1) := by decide +kernel
theorem dX6_reads_253 : decode cX6_reads 253 = .ok (.invokevirtual 83, 3) := by decide +kernel
theorem dX6_reads_256 : decode cX6_reads 256 = .ok (.invokestatic 116, 3) := by decide +kernel
theorem dX6_reads_259 : decode cX6_reads 259 = .ok (.istore 4, 2) := by decide +kernel
theorem dX6_reads_261 : decode cX6_reads 261 = .ok (.aload_n 0, 1) := by decide +kernel
theorem dX6_reads_262 : decode cX6_reads 262 = .ok (.dup, 1) := by decide +kernel
theorem dX6_reads_263 : decode cX6_reads 263 = .ok (.getfield 80, 3) := by decide +kernel
theorem dX6_reads_266 : decode cX6_reads 266 = .ok (.iconst 1, 1) := by decide +kernel
theorem dX6_reads_267 : decode cX6_reads 267 = .ok (.iadd, 1) := by decide +kernel
theorem dX6_reads_268 : decode cX6_reads 268 = .ok (.putfield 80, 3) := by decide +kernel
theorem dX6_reads_271 : decode cX6_reads 271 = .ok (.aload_n 0, 1) := by decide +kernel
theorem dX6_reads_272 : decode cX6_reads 272 = .ok (.getfield 80, 3) := by decide +kernel
theorem dX6_reads_275 : decode cX6_reads 275 = .ok (.aload_n 0, 1) := by decide +kernel
theorem dX6_reads_276 : decode cX6_reads 276 = .ok (.getfield 7, 3) := by decide +kernel
theorem dX6_reads_279 : decode cX6_reads 279 = .ok (.iload_n 1, 1) := by decide +kernel
theorem dX6_reads_280 : decode cX6_reads 280 = .ok (.iaload, 1) := by decide +kernel
theorem dX6_reads_281 : decode cX6_reads 281 = .ok (.if_icmp .ne 22, 3) := by decide +kernel
theorem dX6_reads_284 : decode cX6_reads 284 = .ok (.bipush 16, 2) := by decide +kernel
theorem dX6_reads_286 : decode cX6_reads 286 = .ok (.iload_n 3, 1) := by decide +kernel
theorem dX6_reads_287 : decode cX6_reads 287 = .ok (.imul, 1) := by decide +kernel
theorem dX6_reads_288 : decode cX6_reads 288 = .ok (.iload 4, 2) := by decide +kernel
theorem dX6_reads_290 : decode cX6_reads 290 = .ok (.iadd, 1) := by decide +kernel
theorem dX6_reads_291 : decode cX6_reads 291 = .ok (.iload_n 2, 1) := by decide +kernel
theorem dX6_reads_292 : decode cX6_reads 292 = .ok (.sipush 256, 3) := by decide +kernel
theorem dX6_reads_295 : decode cX6_reads 295 = .ok (.irem, 1) := by decide +kernel
theorem dX6_reads_296 : decode cX6_reads 296 = .ok (.if_icmp .ne 7, 3) := by decide +kernel
theorem dX6_reads_299 : decode cX6_reads 299 = .ok (.iconst 1, 1) := by decide +kernel
theorem dX6_reads_300 : decode cX6_reads 300 = .ok (.goto 4, 3) := by decide +kernel
theorem dX6_reads_303 : decode cX6_reads 303 = .ok (.iconst 0, 1) := by decide +kernel
theorem dX6_reads_304 : decode cX6_reads 304 = .ok (.ireturn, 1) := by decide +kernel
theorem dX6_put_0 : decode cX6_put 0 = .ok (.aload_n 0, 1) := by decide +kernel
theorem dX6_put_1 : decode cX6_put 1 = .ok (.getfield 33, 3) := by decide +kernel
theorem dX6_put_4 : decode cX6_put 4 = .ok (.bipush 30, 2) := by decide +kernel
theorem dX6_put_6 : decode cX6_put 6 = .ok (.iload_n 1, 1) := by decide +kernel
theorem dX6_put_7 : decode cX6_put 7 = .ok (.imul, 1) := by decide +kernel
theorem dX6_put_8 : decode cX6_put 8 = .ok (.aload_n 0, 1) := by decide +kernel
theorem dX6_put_9 : decode cX6_put 9 = .ok (.getfield 30, 3) := by decide +kernel
theorem dX6_put_12 : decode cX6_put 12 = .ok (.iload_n 1, 1) := by decide +kernel
theorem dX6_put_13 : decode cX6_put 13 = .ok (.iaload, 1) := by decide +kernel
theorem dX6_put_14 : decode cX6_put 14 = .ok (.iadd, 1) := by decide +kernel
theorem dX6_put_15 : decode cX6_put 15 = .ok (.iload_n 2, 1) := by decide +kernel
theorem dX6_put_16 : decode cX6_put 16 = .ok (.i2b, 1) := by decide +kernel
theorem dX6_put_17 : decode cX6_put 17 = .ok (.bastore, 1) := by decide +kernel
theorem dX6_put_18 : decode cX6_put 18 = .ok (.aload_n 0, 1) := by decide +kernel
theorem dX6_put_19 : decode cX6_put 19 = .ok (.getfield 30, 3) := by decide +kernel
theorem dX6_put_22 : decode cX6_put 22 = .ok (.iload_n 1, 1) := by decide +kernel
theorem dX6_put_23 : decode cX6_put 23 = .ok (.dup2, 1) := by decide +kernel
theorem dX6_put_24 : decode cX6_put 24 = .ok (.iaload, 1) := by decide +kernel
theorem dX6_put_25 : decode cX6_put 25 = .ok (.iconst 1, 1) := by decide +kernel
theorem dX6_put_26 : decode cX6_put 26 = .ok (.iadd, 1) := by decide +kernel
theorem dX6_put_27 : decode cX6_put 27 = .ok (.iastore, 1) := by decide +kernel
theorem dX6_put_28 : decode cX6_put 28 = .ok (.return_, 1) := by decide +kernel
theorem dX6_close_0 : decode cX6_close 0 = .ok (.iconst 0, 1) := by decide +kernel
theorem dX6_close_1 : decode cX6_close 1 = .ok (.istore_n 2, 1) := by decide +kernel
theorem dX6_close_2 : decode cX6_close 2 = .ok (.iconst 0, 1) := by decide +kernel
theorem dX6_close_3 : decode cX6_close 3 = .ok (.istore_n 3, 1) := by decide +kernel
theorem dX6_close_4 : decode cX6_close 4 = .ok (.iload_n 3, 1) := by decide +kernel
theorem dX6_close_5 : decode cX6_close 5 = .ok (.aload_n 0, 1) := by decide +kernel
theorem dX6_close_6 : decode cX6_close 6 = .ok (.getfield 30, 3) := by decide +kernel
theorem dX6_close_9 : decode cX6_close 9 = .ok (.iload_n 1, 1) := by decide +kernel
theorem dX6_close_10 : decode cX6_close 10 = .ok (.iaload, 1) := by decide +kernel
theorem dX6_close_11 : decode cX6_close 11 = .ok (.if_icmp .ge 27, 3) := by decide +kernel
theorem dX6_close_14 : decode cX6_close 14 = .ok (.iload_n 2, 1) := by decide +kernel
theorem dX6_close_15 : decode cX6_close 15 = .ok (.aload_n 0, 1) := by decide +kernel
theorem dX6_close_16 : decode cX6_close 16 = .ok (.getfield 33, 3) := by decide +kernel
theorem dX6_close_19 : decode cX6_close 19 = .ok (.bipush 30, 2) := by decide +kernel
theorem dX6_close_21 : decode cX6_close 21 = .ok (.iload_n 1, 1) := by decide +kernel
theorem dX6_close_22 : decode cX6_close 22 = .ok (.imul, 1) := by decide +kernel
theorem dX6_close_23 : decode cX6_close 23 = .ok (.iload_n 3, 1) := by decide +kernel
theorem dX6_close_24 : decode cX6_close 24 = .ok (.iadd, 1) := by decide +kernel
theorem dX6_close_25 : decode cX6_close 25 = .ok (.baload, 1) := by decide +kernel
theorem dX6_close_26 : decode cX6_close 26 = .ok (.sipush 255, 3) := by decide +kernel
theorem dX6_close_29 : decode cX6_close 29 = .ok (.iand, 1) := by decide +kernel
theorem dX6_close_30 : decode cX6_close 30 = .ok (.iadd, 1) := by decide +kernel
theorem dX6_close_31 : decode cX6_close 31 = .ok (.istore_n 2, 1) := by decide +kernel
theorem dX6_close_32 : decode cX6_close 32 = .ok (.iinc 3 1, 3) := by decide +kernel
theorem dX6_close_35 : decode cX6_close 35 = .ok (.goto (-31), 3) := by decide +kernel
theorem dX6_close_38 : decode cX6_close 38 = .ok (.aload_n 0, 1) := by decide +kernel
theorem dX6_close_39 : decode cX6_close 39 = .ok (.iload_n 1, 1) := by decide +kernel
theorem dX6_close_40 : decode cX6_close 40 = .ok (.bipush 90, 2) := by decide +kernel
theorem dX6_close_42 : decode cX6_close 42 = .ok (.invokevirtual 119, 3) := by decide +kernel
theorem dX6_close_45 : decode cX6_close 45 = .ok (.aload_n 0, 1) := by decide +kernel
theorem dX6_close_46 : decode cX6_close 46 = .ok (.iload_n 1, 1) := by decide +kernel
theorem dX6_close_47 : decode cX6_close 47 = .ok (.iload_n 2, 1) := by decide +kernel
theorem dX6_close_48 : decode cX6_close 48 = .ok (.sipush 256, 3) := by decide +kernel
theorem dX6_close_51 : decode cX6_close 51 = .ok (.irem, 1) := by decide +kernel
theorem dX6_close_52 : decode cX6_close 52 = .ok (.bipush 16, 2) := by decide +kernel
theorem dX6_close_54 : decode cX6_close 54 = .ok (.idiv, 1) := by decide +kernel
theorem dX6_close_55 : decode cX6_close 55 = .ok (.invokestatic 123, 3) := by decide +kernel
theorem dX6_close_58 : decode cX6_close 58 = .ok (.invokevirtual 119, 3) := by decide +kernel
theorem dX6_close_61 : decode cX6_close 61 = .ok (.aload_n 0, 1) := by decide +kernel
theorem dX6_close_62 : decode cX6_close 62 = .ok (.iload_n 1, 1) := by decide +kernel
theorem dX6_close_63 : decode cX6_close 63 = .ok (.iload_n 2, 1) := by decide +kernel
theorem dX6_close_64 : decode cX6_close 64 = .ok (.bipush 16, 2) := by decide +kernel
theorem dX6_close_66 : decode cX6_close 66 = .ok (.irem, 1) := by decide +kernel
theorem dX6_close_67 : decode cX6_close 67 = .ok (.invokestatic 123, 3) := by decide +kernel
theorem dX6_close_70 : decode cX6_close 70 = .ok (.invokevirtual 119, 3) := by decide +kernel
theorem dX6_close_73 : decode cX6_close 73 = .ok (.aload_n 0, 1) := by decide +kernel
theorem dX6_close_74 : decode cX6_close 74 = .ok (.iload_n 1, 1) := by decide +kernel
theorem dX6_close_75 : decode cX6_close 75 = .ok (.bipush 13, 2) := by decide +kernel
theorem dX6_close_77 : decode cX6_close 77 = .ok (.invokevirtual 119, 3) := by decide +kernel
theorem dX6_close_80 : decode cX6_close 80 = .ok (.return_, 1) := by decide +kernel
theorem dX6_finish_0 : decode cX6_finish 0 = .ok (.aload_n 0, 1) := by decide +kernel
theorem dX6_finish_1 : decode cX6_finish 1 = .ok (.iload_n 1, 1) := by decide +kernel
theorem dX6_finish_2 : decode cX6_finish 2 = .ok (.aload_n 0, 1) := by decide +kernel
theorem dX6_finish_3 : decode cX6_finish 3 = .ok (.getfield 87, 3) := by decide +kernel
theorem dX6_finish_6 : decode cX6_finish 6 = .ok (.invokevirtual 119, 3) := by decide +kernel
theorem dX6_finish_9 : decode cX6_finish 9 = .ok (.aload_n 0, 1) := by decide +kernel
theorem dX6_finish_10 : decode cX6_finish 10 = .ok (.iload_n 1, 1) := by decide +kernel
theorem dX6_finish_11 : decode cX6_finish 11 = .ok (.bipush 48, 2) := by decide +kernel
theorem dX6_finish_13 : decode cX6_finish 13 = .ok (.aload_n 0, 1) := by decide +kernel
theorem dX6_finish_14 : decode cX6_finish 14 = .ok (.getfield 94, 3) := by decide +kernel
theorem dX6_finish_17 : decode cX6_finish 17 = .ok (.iadd, 1) := by decide +kernel
theorem dX6_finish_18 : decode cX6_finish 18 = .ok (.invokevirtual 119, 3) := by decide +kernel
theorem dX6_finish_21 : decode cX6_finish 21 = .ok (.aload_n 0, 1) := by decide +kernel
theorem dX6_finish_22 : decode cX6_finish 22 = .ok (.iload_n 1, 1) := by decide +kernel
theorem dX6_finish_23 : decode cX6_finish 23 = .ok (.invokevirtual 126, 3) := by decide +kernel
theorem dX6_finish_26 : decode cX6_finish 26 = .ok (.iload_n 2, 1) := by decide +kernel
theorem dX6_finish_27 : decode cX6_finish 27 = .ok (.ifCond .ne 4, 3) := by decide +kernel
theorem dX6_finish_30 : decode cX6_finish 30 = .ok (.return_, 1) := by decide +kernel
theorem dX6_finish_31 : decode cX6_finish 31 = .ok (.aload_n 0, 1) := by decide +kernel
theorem dX6_finish_32 : decode cX6_finish 32 = .ok (.getfield 24, 3) := by decide +kernel
theorem dX6_finish_35 : decode cX6_finish 35 = .ok (.iload_n 1, 1) := by decide +kernel
theorem dX6_finish_36 : decode cX6_finish 36 = .ok (.aload_n 0, 1) := by decide +kernel
theorem dX6_finish_37 : decode cX6_finish 37 = .ok (.getfield 94, 3) := by decide +kernel
theorem dX6_finish_40 : decode cX6_finish 40 = .ok (.iastore, 1) := by decide +kernel
theorem dX6_finish_41 : decode cX6_finish 41 = .ok (.aload_n 0, 1) := by decide +kernel
theorem dX6_finish_42 : decode cX6_finish 42 = .ok (.getfield 36, 3) := by decide +kernel
theorem dX6_finish_45 : decode cX6_finish 45 = .ok (.iload_n 1, 1) := by decide +kernel
theorem dX6_finish_46 : decode cX6_finish 46 = .ok (.aload_n 0, 1) := by decide +kernel
theorem dX6_finish_47 : decode cX6_finish 47 = .ok (.getfield 30, 3) := by decide +kernel
theorem dX6_finish_50 : decode cX6_finish 50 = .ok (.iload_n 1, 1) := by decide +kernel
theorem dX6_finish_51 : decode cX6_finish 51 = .ok (.iaload, 1) := by decide +kernel
theorem dX6_finish_52 : decode cX6_finish 52 = .ok (.iastore, 1) := by decide +kernel
theorem dX6_finish_53 : decode cX6_finish 53 = .ok (.iconst 0, 1) := by decide +kernel
theorem dX6_finish_54 : decode cX6_finish 54 = .ok (.istore_n 3, 1) := by decide +kernel
theorem dX6_finish_55 : decode cX6_finish 55 = .ok (.iload_n 3, 1) := by decide +kernel
theorem dX6_finish_56 : decode cX6_finish 56 = .ok (.aload_n 0, 1) := by decide +kernel
theorem dX6_finish_57 : decode cX6_finish 57 = .ok (.getfield 30, 3) := by decide +kernel
theorem dX6_finish_60 : decode cX6_finish 60 = .ok (.iload_n 1, 1) := by decide +kernel
theorem dX6_finish_61 : decode cX6_finish 61 = .ok (.iaload, 1) := by decide +kernel
theorem dX6_finish_62 : decode cX6_finish 62 = .ok (.if_icmp .ge 31, 3) := by decide +kernel
theorem dX6_finish_65 : decode cX6_finish 65 = .ok (.aload_n 0, 1) := by decide +kernel
theorem dX6_finish_66 : decode cX6_finish 66 = .ok (.getfield 39, 3) := by decide +kernel
theorem dX6_finish_69 : decode cX6_finish 69 = .ok (.bipush 30, 2) := by decide +kernel
theorem dX6_finish_71 : decode cX6_finish 71 = .ok (.iload_n 1, 1) := by decide +kernel
theorem dX6_finish_72 : decode cX6_finish 72 = .ok (.imul, 1) := by decide +kernel
theorem dX6_finish_73 : decode cX6_finish 73 = .ok (.iload_n 3, 1) := by decide +kernel
theorem dX6_finish_74 : decode cX6_finish 74 = .ok (.iadd, 1) := by decide +kernel
theorem dX6_finish_75 : decode cX6_finish 75 = .ok (.aload_n 0, 1) := by decide +kernel
theorem dX6_finish_76 : decode cX6_finish 76 = .ok (.getfield 33, 3) := by decide +kernel
theorem dX6_finish_79 : decode cX6_finish 79 = .ok (.bipush 30, 2) := by decide +kernel
theorem dX6_finish_81 : decode cX6_finish 81 = .ok (.iload_n 1, 1) := by decide +kernel
theorem dX6_finish_82 : decode cX6_finish 82 = .ok (.imul, 1) := by decide +kernel
theorem dX6_finish_83 : decode cX6_finish 83 = .ok (.iload_n 3, 1) := by decide +kernel
theorem dX6_finish_84 : decode cX6_finish 84 = .ok (.iadd, 1) := by decide +kernel
theorem dX6_finish_85 : decode cX6_finish 85 = .ok (.baload, 1) := by decide +kernel
theorem dX6_finish_86 : decode cX6_finish 86 = .ok (.bastore, 1) := by decide +kernel
theorem dX6_finish_87 : decode cX6_finish 87 = .ok (.iinc 3 1, 3) := by decide +kernel
theorem dX6_finish_90 : decode cX6_finish 90 = .ok (.goto (-35), 3) := by decide +kernel
theorem dX6_finish_93 : decode cX6_finish 93 = .ok (.return_, 1) := by decide +kernel
theorem dX6_again_0 : decode cX6_again 0 = .ok (.aload_n 0, 1) := by decide +kernel
theorem dX6_again_1 : decode cX6_again 1 = .ok (.getfield 30, 3) := by decide +kernel
theorem dX6_again_4 : decode cX6_again 4 = .ok (.iload_n 1, 1) := by decide +kernel
theorem dX6_again_5 : decode cX6_again 5 = .ok (.aload_n 0, 1) := by decide +kernel
theorem dX6_again_6 : decode cX6_again 6 = .ok (.getfield 36, 3) := by decide +kernel
theorem dX6_again_9 : decode cX6_again 9 = .ok (.iload_n 1, 1) := by decide +kernel
theorem dX6_again_10 : decode cX6_again 10 = .ok (.iaload, 1) := by decide +kernel
theorem dX6_again_11 : decode cX6_again 11 = .ok (.iastore, 1) := by decide +kernel
theorem dX6_again_12 : decode cX6_again 12 = .ok (.iconst 0, 1) := by decide +kernel
theorem dX6_again_13 : decode cX6_again 13 = .ok (.istore_n 2, 1) := by decide +kernel
theorem dX6_again_14 : decode cX6_again 14 = .ok (.iload_n 2, 1) := by decide +kernel
theorem dX6_again_15 : decode cX6_again 15 = .ok (.aload_n 0, 1) := by decide +kernel
theorem dX6_again_16 : decode cX6_again 16 = .ok (.getfield 36, 3) := by decide +kernel
theorem dX6_again_19 : decode cX6_again 19 = .ok (.iload_n 1, 1) := by decide +kernel
theorem dX6_again_20 : decode cX6_again 20 = .ok (.iaload, 1) := by decide +kernel
theorem dX6_again_21 : decode cX6_again 21 = .ok (.if_icmp .ge 31, 3) := by decide +kernel
theorem dX6_again_24 : decode cX6_again 24 = .ok (.aload_n 0, 1) := by decide +kernel
theorem dX6_again_25 : decode cX6_again 25 = .ok (.getfield 33, 3) := by decide +kernel
theorem dX6_again_28 : decode cX6_again 28 = .ok (.bipush 30, 2) := by decide +kernel
theorem dX6_again_30 : decode cX6_again 30 = .ok (.iload_n 1, 1) := by decide +kernel
theorem dX6_again_31 : decode cX6_again 31 = .ok (.imul, 1) := by decide +kernel
theorem dX6_again_32 : decode cX6_again 32 = .ok (.iload_n 2, 1) := by decide +kernel
theorem dX6_again_33 : decode cX6_again 33 = .ok (.iadd, 1) := by decide +kernel
theorem dX6_again_34 : decode cX6_again 34 = .ok (.aload_n 0, 1) := by decide +kernel
theorem dX6_again_35 : decode cX6_again 35 = .ok (.getfield 39, 3) := by decide +kernel
theorem dX6_again_38 : decode cX6_again 38 = .ok (.bipush 30, 2) := by decide +kernel
theorem dX6_again_40 : decode cX6_again 40 = .ok (.iload_n 1, 1) := by decide +kernel
theorem dX6_again_41 : decode cX6_again 41 = .ok (.imul, 1) := by decide +kernel
theorem dX6_again_42 : decode cX6_again 42 = .ok (.iload_n 2, 1) := by decide +kernel
theorem dX6_again_43 : decode cX6_again 43 = .ok (.iadd, 1) := by decide +kernel
theorem dX6_again_44 : decode cX6_again 44 = .ok (.baload, 1) := by decide +kernel
theorem dX6_again_45 : decode cX6_again 45 = .ok (.bastore, 1) := by decide +kernel
theorem dX6_again_46 : decode cX6_again 46 = .ok (.iinc 2 1, 3) := by decide +kernel
theorem dX6_again_49 : decode cX6_again 49 = .ok (.goto (-35), 3) := by decide +kernel
theorem dX6_again_52 : decode cX6_again 52 = .ok (.return_, 1) := by decide +kernel
theorem dX6_bad_0 : decode cX6_bad 0 = .ok (.aload_n 0, 1) := by decide +kernel
theorem dX6_bad_1 : decode cX6_bad 1 = .ok (.getfield 87, 3) := by decide +kernel
theorem dX6_bad_4 : decode cX6_bad 4 = .ok (.invokestatic 97, 3) := by decide +kernel
theorem dX6_bad_7 : decode cX6_bad 7 = .ok (.ifCond .eq 15, 3) := by decide +kernel
theorem dX6_bad_10 : decode cX6_bad 10 = .ok (.aload_n 0, 1) := by decide +kernel
theorem dX6_bad_11 : decode cX6_bad 11 = .ok (.getfield 104, 3) := by decide +kernel
theorem dX6_bad_14 : decode cX6_bad 14 = .ok (.bipush 29, 2) := by decide +kernel
theorem dX6_bad_16 : decode cX6_bad 16 = .ok (.if_icmp .le 6, 3) := by decide +kernel
theorem dX6_bad_19 : decode cX6_bad 19 = .ok (.bipush 97, 2) := by decide +kernel
theorem dX6_bad_21 : decode cX6_bad 21 = .ok (.ireturn, 1) := by decide +kernel
theorem dX6_bad_22 : decode cX6_bad 22 = .ok (.aload_n 0, 1) := by decide +kernel
theorem dX6_bad_23 : decode cX6_bad 23 = .ok (.getfield 87, 3) := by decide +kernel
theorem dX6_bad_26 : decode cX6_bad 26 = .ok (.invokestatic 107, 3) := by decide +kernel
theorem dX6_bad_29 : decode cX6_bad 29 = .ok (.ifCond .eq 15, 3) := by decide +kernel
theorem dX6_bad_32 : decode cX6_bad 32 = .ok (.aload_n 0, 1) := by decide +kernel
theorem dX6_bad_33 : decode cX6_bad 33 = .ok (.getfield 110, 3) := by decide +kernel
theorem dX6_bad_36 : decode cX6_bad 36 = .ok (.bipush 29, 2) := by decide +kernel
theorem dX6_bad_38 : decode cX6_bad 38 = .ok (.if_icmp .le 6, 3) := by decide +kernel
theorem dX6_bad_41 : decode cX6_bad 41 = .ok (.bipush 98, 2) := by decide +kernel
theorem dX6_bad_43 : decode cX6_bad 43 = .ok (.ireturn, 1) := by decide +kernel
theorem dX6_bad_44 : decode cX6_bad 44 = .ok (.aload_n 0, 1) := by decide +kernel
theorem dX6_bad_45 : decode cX6_bad 45 = .ok (.getfield 87, 3) := by decide +kernel
theorem dX6_bad_48 : decode cX6_bad 48 = .ok (.bipush 70, 2) := by decide +kernel
theorem dX6_bad_50 : decode cX6_bad 50 = .ok (.if_icmp .ne 17, 3) := by decide +kernel
theorem dX6_bad_53 : decode cX6_bad 53 = .ok (.aload_n 0, 1) := by decide +kernel
theorem dX6_bad_54 : decode cX6_bad 54 = .ok (.getfield 113, 3) := by decide +kernel
theorem dX6_bad_57 : decode cX6_bad 57 = .ok (.ldc 130, 2) := by decide +kernel
theorem dX6_bad_59 : decode cX6_bad 59 = .ok (.if_icmp .le 8, 3) := by decide +kernel
theorem dX6_bad_62 : decode cX6_bad 62 = .ok (.bipush 99, 2) := by decide +kernel
theorem dX6_bad_64 : decode cX6_bad 64 = .ok (.goto 4, 3) := by decide +kernel
theorem dX6_bad_67 : decode cX6_bad 67 = .ok (.iconst 0, 1) := by decide +kernel
theorem dX6_bad_68 : decode cX6_bad 68 = .ok (.ireturn, 1) := by decide +kernel
theorem dX6_answers_0 : decode cX6_answers 0 = .ok (.aload_n 0, 1) := by decide +kernel
theorem dX6_answers_1 : decode cX6_answers 1 = .ok (.getfield 30, 3) := by decide +kernel
theorem dX6_answers_4 : decode cX6_answers 4 = .ok (.iload_n 1, 1) := by decide +kernel
theorem dX6_answers_5 : decode cX6_answers 5 = .ok (.iconst 0, 1) := by decide +kernel
theorem dX6_answers_6 : decode cX6_answers 6 = .ok (.iastore, 1) := by decide +kernel
theorem dX6_answers_7 : decode cX6_answers 7 = .ok (.aload_n 0, 1) := by decide +kernel
theorem dX6_answers_8 : decode cX6_answers 8 = .ok (.iload_n 1, 1) := by decide +kernel
theorem dX6_answers_9 : decode cX6_answers 9 = .ok (.invokevirtual 131, 3) := by decide +kernel
theorem dX6_answers_12 : decode cX6_answers 12 = .ok (.ifCond .ne 26, 3) := by decide +kernel
theorem dX6_answers_15 : decode cX6_answers 15 = .ok (.aload_n 0, 1) := by decide +kernel
theorem dX6_answers_16 : decode cX6_answers 16 = .ok (.getfield 27, 3) := by decide +kernel
theorem dX6_answers_19 : decode cX6_answers 19 = .ok (.iload_n 1, 1) := by decide +kernel
theorem dX6_answers_20 : decode cX6_answers 20 = .ok (.dup2, 1) := by decide +kernel
theorem dX6_answers_21 : decode cX6_answers 21 = .ok (.iaload, 1) := by decide +kernel
theorem dX6_answers_22 : decode cX6_answers 22 = .ok (.iconst 1, 1) := by decide +kernel
theorem dX6_answers_23 : decode cX6_answers 23 = .ok (.iadd, 1) := by decide +kernel
theorem dX6_answers_24 : decode cX6_answers 24 = .ok (.iastore, 1) := by decide +kernel
theorem dX6_answers_25 : decode cX6_answers 25 = .ok (.aload_n 0, 1) := by decide +kernel
theorem dX6_answers_26 : decode cX6_answers 26 = .ok (.iload_n 1, 1) := by decide +kernel
theorem dX6_answers_27 : decode cX6_answers 27 = .ok (.bipush 78, 2) := by decide +kernel
theorem dX6_answers_29 : decode cX6_answers 29 = .ok (.invokevirtual 119, 3) := by decide +kernel
theorem dX6_answers_32 : decode cX6_answers 32 = .ok (.aload_n 0, 1) := by decide +kernel
theorem dX6_answers_33 : decode cX6_answers 33 = .ok (.iload_n 1, 1) := by decide +kernel
theorem dX6_answers_34 : decode cX6_answers 34 = .ok (.invokevirtual 126, 3) := by decide +kernel
theorem dX6_answers_37 : decode cX6_answers 37 = .ok (.return_, 1) := by decide +kernel
theorem dX6_answers_38 : decode cX6_answers 38 = .ok (.aload_n 0, 1) := by decide +kernel
theorem dX6_answers_39 : decode cX6_answers 39 = .ok (.getfield 87, 3) := by decide +kernel
theorem dX6_answers_42 : decode cX6_answers 42 = .ok (.bipush 81, 2) := by decide +kernel
theorem dX6_answers_44 : decode cX6_answers 44 = .ok (.if_icmp .ne 26, 3) := by decide +kernel
theorem dX6_answers_47 : decode cX6_answers 47 = .ok (.aload_n 0, 1) := by decide +kernel
theorem dX6_answers_48 : decode cX6_answers 48 = .ok (.getfield 36, 3) := by decide +kernel
theorem dX6_answers_51 : decode cX6_answers 51 = .ok (.iload_n 1, 1) := by decide +kernel
theorem dX6_answers_52 : decode cX6_answers 52 = .ok (.iaload, 1) := by decide +kernel
theorem dX6_answers_53 : decode cX6_answers 53 = .ok (.ifCond .ne 17, 3) := by decide +kernel
theorem dX6_answers_56 : decode cX6_answers 56 = .ok (.aload_n 0, 1) := by decide +kernel
theorem dX6_answers_57 : decode cX6_answers 57 = .ok (.iload_n 1, 1) := by decide +kernel
theorem dX6_answers_58 : decode cX6_answers 58 = .ok (.bipush 88, 2) := by decide +kernel
theorem dX6_answers_60 : decode cX6_answers 60 = .ok (.invokevirtual 119, 3) := by decide +kernel
theorem dX6_answers_63 : decode cX6_answers 63 = .ok (.aload_n 0, 1) := by decide +kernel
theorem dX6_answers_64 : decode cX6_answers 64 = .ok (.iload_n 1, 1) := by decide +kernel
theorem dX6_answers_65 : decode cX6_answers 65 = .ok (.iconst 0, 1) := by decide +kernel
theorem dX6_answers_66 : decode cX6_answers 66 = .ok (.invokevirtual 134, 3) := by decide +kernel
theorem dX6_answers_69 : decode cX6_answers 69 = .ok (.return_, 1) := by decide +kernel
theorem dX6_answers_70 : decode cX6_answers 70 = .ok (.aload_n 0, 1) := by decide +kernel
theorem dX6_answers_71 : decode cX6_answers 71 = .ok (.getfield 87, 3) := by decide +kernel
theorem dX6_answers_74 : decode cX6_answers 74 = .ok (.bipush 81, 2) := by decide +kernel
theorem dX6_answers_76 : decode cX6_answers 76 = .ok (.if_icmp .eq 16, 3) := by decide +kernel
theorem dX6_answers_79 : decode cX6_answers 79 = .ok (.aload_n 0, 1) := by decide +kernel
theorem dX6_answers_80 : decode cX6_answers 80 = .ok (.getfield 94, 3) := by decide +kernel
theorem dX6_answers_83 : decode cX6_answers 83 = .ok (.aload_n 0, 1) := by decide +kernel
theorem dX6_answers_84 : decode cX6_answers 84 = .ok (.getfield 24, 3) := by decide +kernel
theorem dX6_answers_87 : decode cX6_answers 87 = .ok (.iload_n 1, 1) := by decide +kernel
theorem dX6_answers_88 : decode cX6_answers 88 = .ok (.iaload, 1) := by decide +kernel
theorem dX6_answers_89 : decode cX6_answers 89 = .ok (.if_icmp .ne 9, 3) := by decide +kernel
theorem dX6_answers_92 : decode cX6_answers 92 = .ok (.aload_n 0, 1) := by decide +kernel
theorem dX6_answers_93 : decode cX6_answers 93 = .ok (.iload_n 1, 1) := by decide +kernel
theorem dX6_answers_94 : decode cX6_answers 94 = .ok (.invokevirtual 138, 3) := by decide +kernel
theorem dX6_answers_97 : decode cX6_answers 97 = .ok (.return_, 1) := by decide +kernel
theorem dX6_answers_98 : decode cX6_answers 98 = .ok (.aload_n 0, 1) := by decide +kernel
theorem dX6_answers_99 : decode cX6_answers 99 = .ok (.getfield 87, 3) := by decide +kernel
theorem dX6_answers_102 : decode cX6_answers 102 = .ok (.bipush 83, 2) := by decide +kernel
theorem dX6_answers_104 : decode cX6_answers 104 = .ok (.if_icmp .eq 22, 3) := by decide +kernel
theorem dX6_answers_107 : decode cX6_answers 107 = .ok (.aload_n 0, 1) := by decide +kernel
theorem dX6_answers_108 : decode cX6_answers 108 = .ok (.getfield 21, 3) := by decide +kernel
theorem dX6_answers_111 : decode cX6_answers 111 = .ok (.iload_n 1, 1) := by decide +kernel
theorem dX6_answers_112 : decode cX6_answers 112 = .ok (.baload, 1) := by decide +kernel
theorem dX6_answers_113 : decode cX6_answers 113 = .ok (.ifCond .ne 13, 3) := by decide +kernel
theorem dX6_answers_116 : decode cX6_answers 116 = .ok (.aload_n 0, 1) := by decide +kernel
theorem dX6_answers_117 : decode cX6_answers 117 = .ok (.iload_n 1, 1) := by decide +kernel
theorem dX6_answers_118 : decode cX6_answers 118 = .ok (.bipush 88, 2) := by decide +kernel
theorem dX6_answers_120 : decode cX6_answers 120 = .ok (.invokevirtual 119, 3) := by decide +kernel
theorem dX6_answers_123 : decode cX6_answers 123 = .ok (.goto 116, 3) := by decide +kernel
theorem dX6_answers_126 : decode cX6_answers 126 = .ok (.aload_n 0, 1) := by decide +kernel
theorem dX6_answers_127 : decode cX6_answers 127 = .ok (.invokevirtual 141, 3) := by decide +kernel
theorem dX6_answers_130 : decode cX6_answers 130 = .ok (.ifCond .le 22, 3) := by decide +kernel
theorem dX6_answers_133 : decode cX6_answers 133 = .ok (.aload_n 0, 1) := by decide +kernel
theorem dX6_answers_134 : decode cX6_answers 134 = .ok (.iload_n 1, 1) := by decide +kernel
theorem dX6_answers_135 : decode cX6_answers 135 = .ok (.bipush 69, 2) := by decide +kernel
theorem dX6_answers_137 : decode cX6_answers 137 = .ok (.invokevirtual 119, 3) := by decide +kernel
theorem dX6_answers_140 : decode cX6_answers 140 = .ok (.aload_n 0, 1) := by decide +kernel
theorem dX6_answers_141 : decode cX6_answers 141 = .ok (.iload_n 1, 1) := by decide +kernel
theorem dX6_answers_142 : decode cX6_answers 142 = .ok (.aload_n 0, 1) := by decide +kernel
theorem dX6_answers_143 : decode cX6_answers 143 = .ok (.invokevirtual 141, 3) := by decide +kernel
theorem dX6_answers_146 : decode cX6_answers 146 = .ok (.invokevirtual 119, 3) := by decide +kernel
theorem dX6_answers_149 : decode cX6_answers 149 = .ok (.goto 90, 3) := by decide +kernel
theorem dX6_answers_152 : decode cX6_answers 152 = .ok (.aload_n 0, 1) := by decide +kernel
theorem dX6_answers_153 : decode cX6_answers 153 = .ok (.getfield 21, 3) := by decide +kernel
theorem dX6_answers_156 : decode cX6_answers 156 = .ok (.iload_n 1, 1) := by decide +kernel
theorem dX6_answers_157 : decode cX6_answers 157 = .ok (.iconst 1, 1) := by decide +kernel
theorem dX6_answers_158 : decode cX6_answers 158 = .ok (.bastore, 1) := by decide +kernel
theorem dX6_answers_159 : decode cX6_answers 159 = .ok (.aload_n 0, 1) := by decide +kernel
theorem dX6_answers_160 : decode cX6_answers 160 = .ok (.iload_n 1, 1) := by decide +kernel
theorem dX6_answers_161 : decode cX6_answers 161 = .ok (.aload_n 0, 1) := by decide +kernel
theorem dX6_answers_162 : decode cX6_answers 162 = .ok (.getfield 94, 3) := by decide +kernel
theorem dX6_answers_165 : decode cX6_answers 165 = .ok (.invokevirtual 145, 3) := by decide +kernel
theorem dX6_answers_168 : decode cX6_answers 168 = .ok (.istore_n 2, 1) := by decide +kernel
theorem dX6_answers_169 : decode cX6_answers 169 = .ok (.aload_n 0, 1) := by decide +kernel
theorem dX6_answers_170 : decode cX6_answers 170 = .ok (.iload_n 1, 1) := by decide +kernel
theorem dX6_answers_171 : decode cX6_answers 171 = .ok (.aload_n 0, 1) := by decide +kernel
theorem dX6_answers_172 : decode cX6_answers 172 = .ok (.getfield 148, 3) := by decide +kernel
theorem dX6_answers_175 : decode cX6_answers 175 = .ok (.ifCond .eq 8, 3) := by decide +kernel
theorem dX6_answers_178 : decode cX6_answers 178 = .ok (.bipush 89, 2) := by decide +kernel
theorem dX6_answers_180 : decode cX6_answers 180 = .ok (.goto 5, 3) := by decide +kernel
theorem dX6_answers_183 : decode cX6_answers 183 = .ok (.bipush 88, 2) := by decide +kernel
theorem dX6_answers_185 : decode cX6_answers 185 = .ok (.invokevirtual 119, 3) := by decide +kernel
theorem dX6_answers_188 : decode cX6_answers 188 = .ok (.iconst 1, 1) := by decide +kernel
theorem dX6_answers_189 : decode cX6_answers 189 = .ok (.istore_n 3, 1) := by decide +kernel
theorem dX6_answers_190 : decode cX6_answers 190 = .ok (.iload_n 2, 1) := by decide +kernel
theorem dX6_answers_191 : decode cX6_answers 191 = .ok (.iload_n 3, 1) := by decide +kernel
theorem dX6_answers_192 : decode cX6_answers 192 = .ok (.idiv, 1) := by decide +kernel
theorem dX6_answers_193 : decode cX6_answers 193 = .ok (.bipush 9, 2) := by decide +kernel
theorem dX6_answers_195 : decode cX6_answers 195 = .ok (.if_icmp .le 11, 3) := by decide +kernel
theorem dX6_answers_198 : decode cX6_answers 198 = .ok (.bipush 10, 2) := by decide +kernel
theorem dX6_answers_200 : decode cX6_answers 200 = .ok (.iload_n 3, 1) := by decide +kernel
theorem dX6_answers_201 : decode cX6_answers 201 = .ok (.imul, 1) := by decide +kernel
theorem dX6_answers_202 : decode cX6_answers 202 = .ok (.istore_n 3, 1) := by decide +kernel
theorem dX6_answers_203 : decode cX6_answers 203 = .ok (.goto (-13), 3) := by decide +kernel
theorem dX6_answers_206 : decode cX6_answers 206 = .ok (.iload_n 3, 1) := by decide +kernel
theorem dX6_answers_207 : decode cX6_answers 207 = .ok (.istore 4, 2) := by decide +kernel
theorem dX6_answers_209 : decode cX6_answers 209 = .ok (.iload 4, 2) := by decide +kernel
theorem dX6_answers_211 : decode cX6_answers 211 = .ok (.ifCond .le 28, 3) := by decide +kernel
theorem dX6_answers_214 : decode cX6_answers 214 = .ok (.aload_n 0, 1) := by decide +kernel
theorem dX6_answers_215 : decode cX6_answers 215 = .ok (.iload_n 1, 1) := by decide +kernel
theorem dX6_answers_216 : decode cX6_answers 216 = .ok (.bipush 48, 2) := by decide +kernel
theorem dX6_answers_218 : decode cX6_answers 218 = .ok (.iload_n 2, 1) := by decide +kernel
theorem dX6_answers_219 : decode cX6_answers 219 = .ok (.iload 4, 2) := by decide +kernel
theorem dX6_answers_221 : decode cX6_answers 221 = .ok (.idiv, 1) := by decide +kernel
theorem dX6_answers_222 : decode cX6_answers 222 = .ok (.bipush 10, 2) := by decide +kernel
theorem dX6_answers_224 : decode cX6_answers 224 = .ok (.irem, 1) := by decide +kernel
theorem dX6_answers_225 : decode cX6_answers 225 = .ok (.iadd, 1) := by decide +kernel
theorem dX6_answers_226 : decode cX6_answers 226 = .ok (.invokevirtual 119, 3) := by decide +kernel
theorem dX6_answers_229 : decode cX6_answers 229 = .ok (.iload 4, 2) := by decide +kernel
theorem dX6_answers_231 : decode cX6_answers 231 = .ok (.bipush 10, 2) := by decide +kernel
theorem dX6_answers_233 : decode cX6_answers 233 = .ok (.idiv, 1) := by decide +kernel
theorem dX6_answers_234 : decode cX6_answers 234 = .ok (.istore 4, 2) := by decide +kernel
theorem dX6_answers_236 : decode cX6_answers 236 = .ok (.goto (-27), 3) := by decide +kernel
theorem dX6_answers_239 : decode cX6_answers 239 = .ok (.aload_n 0, 1) := by decide +kernel
theorem dX6_answers_240 : decode cX6_answers 240 = .ok (.iload_n 1, 1) := by decide +kernel
theorem dX6_answers_241 : decode cX6_answers 241 = .ok (.iconst 1, 1) := by decide +kernel
theorem dX6_answers_242 : decode cX6_answers 242 = .ok (.invokevirtual 134, 3) := by decide +kernel
theorem dX6_answers_245 : decode cX6_answers 245 = .ok (.return_, 1) := by decide +kernel
theorem dX6_items_0 : decode cX6_items 0 = .ok (.iconst 0, 1) := by decide +kernel
theorem dX6_items_1 : decode cX6_items 1 = .ok (.istore_n 2, 1) := by decide +kernel
theorem dX6_items_2 : decode cX6_items 2 = .ok (.iconst 0, 1) := by decide +kernel
theorem dX6_items_3 : decode cX6_items 3 = .ok (.istore_n 3, 1) := by decide +kernel
theorem dX6_items_4 : decode cX6_items 4 = .ok (.iload_n 3, 1) := by decide +kernel
theorem dX6_items_5 : decode cX6_items 5 = .ok (.bipush 30, 2) := by decide +kernel
theorem dX6_items_7 : decode cX6_items 7 = .ok (.if_icmp .ge 29, 3) := by decide +kernel
theorem dX6_items_10 : decode cX6_items 10 = .ok (.iload_n 2, 1) := by decide +kernel
theorem dX6_items_11 : decode cX6_items 11 = .ok (.aload_n 0, 1) := by decide +kernel
theorem dX6_items_12 : decode cX6_items 12 = .ok (.getfield 57, 3) := by decide +kernel
theorem dX6_items_15 : decode cX6_items 15 = .ok (.iload_n 3, 1) := by decide +kernel
theorem dX6_items_16 : decode cX6_items 16 = .ok (.iaload, 1) := by decide +kernel
theorem dX6_items_17 : decode cX6_items 17 = .ok (.iload_n 1, 1) := by decide +kernel
theorem dX6_items_18 : decode cX6_items 18 = .ok (.iconst 1, 1) := by decide +kernel
theorem dX6_items_19 : decode cX6_items 19 = .ok (.iadd, 1) := by decide +kernel
theorem dX6_items_20 : decode cX6_items 20 = .ok (.if_icmp .ne 7, 3) := by decide +kernel
theorem dX6_items_23 : decode cX6_items 23 = .ok (.iconst 1, 1) := by decide +kernel
theorem dX6_items_24 : decode cX6_items 24 = .ok (.goto 4, 3) := by decide +kernel
theorem dX6_items_27 : decode cX6_items 27 = .ok (.iconst 0, 1) := by decide +kernel
theorem dX6_items_28 : decode cX6_items 28 = .ok (.iadd, 1) := by decide +kernel
theorem dX6_items_29 : decode cX6_items 29 = .ok (.istore_n 2, 1) := by decide +kernel
theorem dX6_items_30 : decode cX6_items 30 = .ok (.iinc 3 1, 3) := by decide +kernel
theorem dX6_items_33 : decode cX6_items 33 = .ok (.goto (-29), 3) := by decide +kernel
theorem dX6_items_36 : decode cX6_items 36 = .ok (.iload_n 2, 1) := by decide +kernel
theorem dX6_items_37 : decode cX6_items 37 = .ok (.ireturn, 1) := by decide +kernel
theorem dX6_placeOf_0 : decode cX6_placeOf 0 = .ok (.iconst 0, 1) := by decide +kernel
theorem dX6_placeOf_1 : decode cX6_placeOf 1 = .ok (.istore_n 3, 1) := by decide +kernel
theorem dX6_placeOf_2 : decode cX6_placeOf 2 = .ok (.iload_n 3, 1) := by decide +kernel
theorem dX6_placeOf_3 : decode cX6_placeOf 3 = .ok (.aload_n 0, 1) := by decide +kernel
theorem dX6_placeOf_4 : decode cX6_placeOf 4 = .ok (.getfield 63, 3) := by decide +kernel
theorem dX6_placeOf_7 : decode cX6_placeOf 7 = .ok (.iload_n 1, 1) := by decide +kernel
theorem dX6_placeOf_8 : decode cX6_placeOf 8 = .ok (.iaload, 1) := by decide +kernel
theorem dX6_placeOf_9 : decode cX6_placeOf 9 = .ok (.if_icmp .ge 26, 3) := by decide +kernel
theorem dX6_placeOf_12 : decode cX6_placeOf 12 = .ok (.aload_n 0, 1) := by decide +kernel
theorem dX6_placeOf_13 : decode cX6_placeOf 13 = .ok (.getfield 66, 3) := by decide +kernel
theorem dX6_placeOf_16 : decode cX6_placeOf 16 = .ok (.bipush 30, 2) := by decide +kernel
theorem dX6_placeOf_18 : decode cX6_placeOf 18 = .ok (.iload_n 1, 1) := by decide +kernel
theorem dX6_placeOf_19 : decode cX6_placeOf 19 = .ok (.imul, 1) := by decide +kernel
theorem dX6_placeOf_20 : decode cX6_placeOf 20 = .ok (.iload_n 3, 1) := by decide +kernel
theorem dX6_placeOf_21 : decode cX6_placeOf 21 = .ok (.iadd, 1) := by decide +kernel
theorem dX6_placeOf_22 : decode cX6_placeOf 22 = .ok (.iaload, 1) := by decide +kernel
theorem dX6_placeOf_23 : decode cX6_placeOf 23 = .ok (.iload_n 2, 1) := by decide +kernel
theorem dX6_placeOf_24 : decode cX6_placeOf 24 = .ok (.if_icmp .ne 5, 3) := by decide +kernel
theorem dX6_placeOf_27 : decode cX6_placeOf 27 = .ok (.iload_n 3, 1) := by decide +kernel
theorem dX6_placeOf_28 : decode cX6_placeOf 28 = .ok (.ireturn, 1) := by decide +kernel
theorem dX6_placeOf_29 : decode cX6_placeOf 29 = .ok (.iinc 3 1, 3) := by decide +kernel
theorem dX6_placeOf_32 : decode cX6_placeOf 32 = .ok (.goto (-30), 3) := by decide +kernel
theorem dX6_placeOf_35 : decode cX6_placeOf 35 = .ok (.iconst (-1), 1) := by decide +kernel
theorem dX6_placeOf_36 : decode cX6_placeOf 36 = .ok (.ireturn, 1) := by decide +kernel
theorem dX6_enter_0 : decode cX6_enter 0 = .ok (.iconst 5, 1) := by decide +kernel
theorem dX6_enter_1 : decode cX6_enter 1 = .ok (.aload_n 0, 1) := by decide +kernel
theorem dX6_enter_2 : decode cX6_enter 2 = .ok (.getfield 152, 3) := by decide +kernel
theorem dX6_enter_5 : decode cX6_enter 5 = .ok (.imul, 1) := by decide +kernel
theorem dX6_enter_6 : decode cX6_enter 6 = .ok (.istore 6, 2) := by decide +kernel
theorem dX6_enter_8 : decode cX6_enter 8 = .ok (.aload_n 0, 1) := by decide +kernel
theorem dX6_enter_9 : decode cX6_enter 9 = .ok (.getfield 152, 3) := by decide +kernel
theorem dX6_enter_12 : decode cX6_enter 12 = .ok (.sipush 1000, 3) := by decide +kernel
theorem dX6_enter_15 : decode cX6_enter 15 = .ok (.if_icmp .ge 53, 3) := by decide +kernel
theorem dX6_enter_18 : decode cX6_enter 18 = .ok (.aload_n 0, 1) := by decide +kernel
theorem dX6_enter_19 : decode cX6_enter 19 = .ok (.getfield 69, 3) := by decide +kernel
theorem dX6_enter_22 : decode cX6_enter 22 = .ok (.iload 6, 2) := by decide +kernel
theorem dX6_enter_24 : decode cX6_enter 24 = .ok (.iload_n 1, 1) := by decide +kernel
theorem dX6_enter_25 : decode cX6_enter 25 = .ok (.iastore, 1) := by decide +kernel
theorem dX6_enter_26 : decode cX6_enter 26 = .ok (.aload_n 0, 1) := by decide +kernel
theorem dX6_enter_27 : decode cX6_enter 27 = .ok (.getfield 69, 3) := by decide +kernel
theorem dX6_enter_30 : decode cX6_enter 30 = .ok (.iload 6, 2) := by decide +kernel
theorem dX6_enter_32 : decode cX6_enter 32 = .ok (.iconst 1, 1) := by decide +kernel
theorem dX6_enter_33 : decode cX6_enter 33 = .ok (.iadd, 1) := by decide +kernel
theorem dX6_enter_34 : decode cX6_enter 34 = .ok (.iload_n 3, 1) := by decide +kernel
theorem dX6_enter_35 : decode cX6_enter 35 = .ok (.iastore, 1) := by decide +kernel
theorem dX6_enter_36 : decode cX6_enter 36 = .ok (.aload_n 0, 1) := by decide +kernel
theorem dX6_enter_37 : decode cX6_enter 37 = .ok (.getfield 69, 3) := by decide +kernel
theorem dX6_enter_40 : decode cX6_enter 40 = .ok (.iload 6, 2) := by decide +kernel
theorem dX6_enter_42 : decode cX6_enter 42 = .ok (.iconst 2, 1) := by decide +kernel
theorem dX6_enter_43 : decode cX6_enter 43 = .ok (.iadd, 1) := by decide +kernel
theorem dX6_enter_44 : decode cX6_enter 44 = .ok (.iload 4, 2) := by decide +kernel
theorem dX6_enter_46 : decode cX6_enter 46 = .ok (.iastore, 1) := by decide +kernel
theorem dX6_enter_47 : decode cX6_enter 47 = .ok (.aload_n 0, 1) := by decide +kernel
theorem dX6_enter_48 : decode cX6_enter 48 = .ok (.getfield 69, 3) := by decide +kernel
theorem dX6_enter_51 : decode cX6_enter 51 = .ok (.iload 6, 2) := by decide +kernel
theorem dX6_enter_53 : decode cX6_enter 53 = .ok (.iconst 3, 1) := by decide +kernel
theorem dX6_enter_54 : decode cX6_enter 54 = .ok (.iadd, 1) := by decide +kernel
theorem dX6_enter_55 : decode cX6_enter 55 = .ok (.iload 5, 2) := by decide +kernel
theorem dX6_enter_57 : decode cX6_enter 57 = .ok (.iastore, 1) := by decide +kernel
theorem dX6_enter_58 : decode cX6_enter 58 = .ok (.aload_n 0, 1) := by decide +kernel
theorem dX6_enter_59 : decode cX6_enter 59 = .ok (.getfield 69, 3) := by decide +kernel
theorem dX6_enter_62 : decode cX6_enter 62 = .ok (.iload 6, 2) := by decide +kernel
theorem dX6_enter_64 : decode cX6_enter 64 = .ok (.iconst 4, 1) := by decide +kernel
theorem dX6_enter_65 : decode cX6_enter 65 = .ok (.iadd, 1) := by decide +kernel
theorem dX6_enter_66 : decode cX6_enter 66 = .ok (.iload_n 2, 1) := by decide +kernel
theorem dX6_enter_67 : decode cX6_enter 67 = .ok (.iastore, 1) := by decide +kernel
theorem dX6_enter_68 : decode cX6_enter 68 = .ok (.aload_n 0, 1) := by decide +kernel
theorem dX6_enter_69 : decode cX6_enter 69 = .ok (.dup, 1) := by decide +kernel
theorem dX6_enter_70 : decode cX6_enter 70 = .ok (.getfield 152, 3) := by decide +kernel
theorem dX6_enter_73 : decode cX6_enter 73 = .ok (.iconst 1, 1) := by decide +kernel
theorem dX6_enter_74 : decode cX6_enter 74 = .ok (.iadd, 1) := by decide +kernel
theorem dX6_enter_75 : decode cX6_enter 75 = .ok (.putfield 152, 3) := by decide +kernel
theorem dX6_enter_78 : decode cX6_enter 78 = .ok (.return_, 1) := by decide +kernel
theorem dX6_lends_0 : decode cX6_lends 0 = .ok (.aload_n 0, 1) := by decide +kernel
theorem dX6_lends_1 : decode cX6_lends 1 = .ok (.getfield 63, 3) := by decide +kernel
theorem dX6_lends_4 : decode cX6_lends 4 = .ok (.aload_n 0, 1) := by decide +kernel
theorem dX6_lends_5 : decode cX6_lends 5 = .ok (.getfield 110, 3) := by decide +kernel
theorem dX6_lends_8 : decode cX6_lends 8 = .ok (.iaload, 1) := by decide +kernel
theorem dX6_lends_9 : decode cX6_lends 9 = .ok (.ifCond .ne 10, 3) := by decide +kernel
theorem dX6_lends_12 : decode cX6_lends 12 = .ok (.aload_n 0, 1) := by decide +kernel
theorem dX6_lends_13 : decode cX6_lends 13 = .ok (.getfield 104, 3) := by decide +kernel
theorem dX6_lends_16 : decode cX6_lends 16 = .ok (.goto 15, 3) := by decide +kernel
theorem dX6_lends_19 : decode cX6_lends 19 = .ok (.aload_n 0, 1) := by decide +kernel
theorem dX6_lends_20 : decode cX6_lends 20 = .ok (.getfield 66, 3) := by decide +kernel
theorem dX6_lends_23 : decode cX6_lends 23 = .ok (.bipush 30, 2) := by decide +kernel
theorem dX6_lends_25 : decode cX6_lends 25 = .ok (.aload_n 0, 1) := by decide +kernel
theorem dX6_lends_26 : decode cX6_lends 26 = .ok (.getfield 110, 3) := by decide +kernel
theorem dX6_lends_29 : decode cX6_lends 29 = .ok (.imul, 1) := by decide +kernel
theorem dX6_lends_30 : decode cX6_lends 30 = .ok (.iaload, 1) := by decide +kernel
theorem dX6_lends_31 : decode cX6_lends 31 = .ok (.istore_n 3, 1) := by decide +kernel
theorem dX6_lends_32 : decode cX6_lends 32 = .ok (.aload_n 0, 1) := by decide +kernel
theorem dX6_lends_33 : decode cX6_lends 33 = .ok (.aload_n 0, 1) := by decide +kernel
theorem dX6_lends_34 : decode cX6_lends 34 = .ok (.getfield 57, 3) := by decide +kernel
theorem dX6_lends_37 : decode cX6_lends 37 = .ok (.aload_n 0, 1) := by decide +kernel
theorem dX6_lends_38 : decode cX6_lends 38 = .ok (.getfield 110, 3) := by decide +kernel
theorem dX6_lends_41 : decode cX6_lends 41 = .ok (.iaload, 1) := by decide +kernel
theorem dX6_lends_42 : decode cX6_lends 42 = .ok (.ifCond .ne 30, 3) := by decide +kernel
theorem dX6_lends_45 : decode cX6_lends 45 = .ok (.iload_n 3, 1) := by decide +kernel
theorem dX6_lends_46 : decode cX6_lends 46 = .ok (.aload_n 0, 1) := by decide +kernel
theorem dX6_lends_47 : decode cX6_lends 47 = .ok (.getfield 104, 3) := by decide +kernel
theorem dX6_lends_50 : decode cX6_lends 50 = .ok (.if_icmp .ne 22, 3) := by decide +kernel
theorem dX6_lends_53 : decode cX6_lends 53 = .ok (.aload_n 0, 1) := by decide +kernel
theorem dX6_lends_54 : decode cX6_lends 54 = .ok (.getfield 54, 3) := by decide +kernel
theorem dX6_lends_57 : decode cX6_lends 57 = .ok (.aload_n 0, 1) := by decide +kernel
theorem dX6_lends_58 : decode cX6_lends 58 = .ok (.getfield 104, 3) := by decide +kernel
theorem dX6_lends_61 : decode cX6_lends 61 = .ok (.iaload, 1) := by decide +kernel
theorem dX6_lends_62 : decode cX6_lends 62 = .ok (.sipush 500, 3) := by decide +kernel
theorem dX6_lends_65 : decode cX6_lends 65 = .ok (.if_icmp .gt 7, 3) := by decide +kernel
theorem dX6_lends_68 : decode cX6_lends 68 = .ok (.iconst 1, 1) := by decide +kernel
theorem dX6_lends_69 : decode cX6_lends 69 = .ok (.goto 4, 3) := by decide +kernel
theorem dX6_lends_72 : decode cX6_lends 72 = .ok (.iconst 0, 1) := by decide +kernel
theorem dX6_lends_73 : decode cX6_lends 73 = .ok (.putfield 148, 3) := by decide +kernel
theorem dX6_lends_76 : decode cX6_lends 76 = .ok (.aload_n 0, 1) := by decide +kernel
theorem dX6_lends_77 : decode cX6_lends 77 = .ok (.getfield 148, 3) := by decide +kernel
theorem dX6_lends_80 : decode cX6_lends 80 = .ok (.ifCond .eq 124, 3) := by decide +kernel
theorem dX6_lends_83 : decode cX6_lends 83 = .ok (.aload_n 0, 1) := by decide +kernel
theorem dX6_lends_84 : decode cX6_lends 84 = .ok (.getfield 63, 3) := by decide +kernel
theorem dX6_lends_87 : decode cX6_lends 87 = .ok (.aload_n 0, 1) := by decide +kernel
theorem dX6_lends_88 : decode cX6_lends 88 = .ok (.getfield 110, 3) := by decide +kernel
theorem dX6_lends_91 : decode cX6_lends 91 = .ok (.iaload, 1) := by decide +kernel
theorem dX6_lends_92 : decode cX6_lends 92 = .ok (.ifCond .le 71, 3) := by decide +kernel
theorem dX6_lends_95 : decode cX6_lends 95 = .ok (.aload_n 0, 1) := by decide +kernel
theorem dX6_lends_96 : decode cX6_lends 96 = .ok (.getfield 63, 3) := by decide +kernel
theorem dX6_lends_99 : decode cX6_lends 99 = .ok (.aload_n 0, 1) := by decide +kernel
theorem dX6_lends_100 : decode cX6_lends 100 = .ok (.getfield 110, 3) := by decide +kernel
theorem dX6_lends_103 : decode cX6_lends 103 = .ok (.dup2, 1) := by decide +kernel
theorem dX6_lends_104 : decode cX6_lends 104 = .ok (.iaload, 1) := by decide +kernel
theorem dX6_lends_105 : decode cX6_lends 105 = .ok (.iconst 1, 1) := by decide +kernel
theorem dX6_lends_106 : decode cX6_lends 106 = .ok (.isub, 1) := by decide +kernel
theorem dX6_lends_107 : decode cX6_lends 107 = .ok (.iastore, 1) := by decide +kernel
theorem dX6_lends_108 : decode cX6_lends 108 = .ok (.iconst 0, 1) := by decide +kernel
theorem dX6_lends_109 : decode cX6_lends 109 = .ok (.istore 4, 2) := by decide +kernel
theorem dX6_lends_111 : decode cX6_lends 111 = .ok (.iload 4, 2) := by decide +kernel
theorem dX6_lends_113 : decode cX6_lends 113 = .ok (.aload_n 0, 1) := by decide +kernel
theorem dX6_lends_114 : decode cX6_lends 114 = .ok (.getfield 63, 3) := by decide +kernel
theorem dX6_lends_117 : decode cX6_lends 117 = .ok (.aload_n 0, 1) := by decide +kernel
theorem dX6_lends_118 : decode cX6_lends 118 = .ok (.getfield 110, 3) := by decide +kernel
theorem dX6_lends_121 : decode cX6_lends 121 = .ok (.iaload, 1) := by decide +kernel
theorem dX6_lends_122 : decode cX6_lends 122 = .ok (.if_icmp .ge 41, 3) := by decide +kernel
theorem dX6_lends_125 : decode cX6_lends 125 = .ok (.aload_n 0, 1) := by decide +kernel
theorem dX6_lends_126 : decode cX6_lends 126 = .ok (.getfield 66, 3) := by decide +kernel
theorem dX6_lends_129 : decode cX6_lends 129 = .ok (.bipush 30, 2) := by decide +kernel
theorem dX6_lends_131 : decode cX6_lends 131 = .ok (.aload_n 0, 1) := by decide +kernel
theorem dX6_lends_132 : decode cX6_lends 132 = .ok (.getfield 110, 3) := by decide +kernel
theorem dX6_lends_135 : decode cX6_lends 135 = .ok (.imul, 1) := by decide +kernel
theorem dX6_lends_136 : decode cX6_lends 136 = .ok (.iload 4, 2) := by decide +kernel
theorem dX6_lends_138 : decode cX6_lends 138 = .ok (.iadd, 1) := by decide +kernel
theorem dX6_lends_139 : decode cX6_lends 139 = .ok (.aload_n 0, 1) := by decide +kernel
theorem dX6_lends_140 : decode cX6_lends 140 = .ok (.getfield 66, 3) := by decide +kernel
theorem dX6_lends_143 : decode cX6_lends 143 = .ok (.bipush 30, 2) := by decide +kernel
theorem dX6_lends_145 : decode cX6_lends 145 = .ok (.aload_n 0, 1) := by decide +kernel
theorem dX6_lends_146 : decode cX6_lends 146 = .ok (.getfield 110, 3) := by decide +kernel
theorem dX6_lends_149 : decode cX6_lends 149 = .ok (.imul, 1) := by decide +kernel
theorem dX6_lends_150 : decode cX6_lends 150 = .ok (.iload 4, 2) := by decide +kernel
theorem dX6_lends_152 : decode cX6_lends 152 = .ok (.iadd, 1) := by decide +kernel
theorem dX6_lends_153 : decode cX6_lends 153 = .ok (.iconst 1, 1) := by decide +kernel
theorem dX6_lends_154 : decode cX6_lends 154 = .ok (.iadd, 1) := by decide +kernel
theorem dX6_lends_155 : decode cX6_lends 155 = .ok (.iaload, 1) := by decide +kernel
theorem dX6_lends_156 : decode cX6_lends 156 = .ok (.iastore, 1) := by decide +kernel
theorem dX6_lends_157 : decode cX6_lends 157 = .ok (.iinc 4 1, 3) := by decide +kernel
theorem dX6_lends_160 : decode cX6_lends 160 = .ok (.goto (-49), 3) := by decide +kernel
theorem dX6_lends_163 : decode cX6_lends 163 = .ok (.aload_n 0, 1) := by decide +kernel
theorem dX6_lends_164 : decode cX6_lends 164 = .ok (.getfield 57, 3) := by decide +kernel
theorem dX6_lends_167 : decode cX6_lends 167 = .ok (.aload_n 0, 1) := by decide +kernel
theorem dX6_lends_168 : decode cX6_lends 168 = .ok (.getfield 110, 3) := by decide +kernel
theorem dX6_lends_171 : decode cX6_lends 171 = .ok (.aload_n 0, 1) := by decide +kernel
theorem dX6_lends_172 : decode cX6_lends 172 = .ok (.getfield 104, 3) := by decide +kernel
theorem dX6_lends_175 : decode cX6_lends 175 = .ok (.iconst 1, 1) := by decide +kernel
theorem dX6_lends_176 : decode cX6_lends 176 = .ok (.iadd, 1) := by decide +kernel
theorem dX6_lends_177 : decode cX6_lends 177 = .ok (.iastore, 1) := by decide +kernel
theorem dX6_lends_178 : decode cX6_lends 178 = .ok (.aload_n 0, 1) := by decide +kernel
theorem dX6_lends_179 : decode cX6_lends 179 = .ok (.getfield 60, 3) := by decide +kernel
theorem dX6_lends_182 : decode cX6_lends 182 = .ok (.aload_n 0, 1) := by decide +kernel
theorem dX6_lends_183 : decode cX6_lends 183 = .ok (.getfield 110, 3) := by decide +kernel
theorem dX6_lends_186 : decode cX6_lends 186 = .ok (.iconst 0, 1) := by decide +kernel
theorem dX6_lends_187 : decode cX6_lends 187 = .ok (.iastore, 1) := by decide +kernel
theorem dX6_lends_188 : decode cX6_lends 188 = .ok (.aload_n 0, 1) := by decide +kernel
theorem dX6_lends_189 : decode cX6_lends 189 = .ok (.iload_n 1, 1) := by decide +kernel
theorem dX6_lends_190 : decode cX6_lends 190 = .ok (.iload_n 2, 1) := by decide +kernel
theorem dX6_lends_191 : decode cX6_lends 191 = .ok (.bipush 67, 2) := by decide +kernel
theorem dX6_lends_193 : decode cX6_lends 193 = .ok (.aload_n 0, 1) := by decide +kernel
theorem dX6_lends_194 : decode cX6_lends 194 = .ok (.getfield 110, 3) := by decide +kernel
theorem dX6_lends_197 : decode cX6_lends 197 = .ok (.aload_n 0, 1) := by decide +kernel
theorem dX6_lends_198 : decode cX6_lends 198 = .ok (.getfield 104, 3) := by decide +kernel
theorem dX6_lends_201 : decode cX6_lends 201 = .ok (.invokevirtual 155, 3) := by decide +kernel
theorem dX6_lends_204 : decode cX6_lends 204 = .ok (.aload_n 0, 1) := by decide +kernel
theorem dX6_lends_205 : decode cX6_lends 205 = .ok (.aload_n 0, 1) := by decide +kernel
theorem dX6_lends_206 : decode cX6_lends 206 = .ok (.getfield 104, 3) := by decide +kernel
theorem dX6_lends_209 : decode cX6_lends 209 = .ok (.invokevirtual 159, 3) := by decide +kernel
theorem dX6_lends_212 : decode cX6_lends 212 = .ok (.ireturn, 1) := by decide +kernel
theorem dX6_brings_0 : decode cX6_brings 0 = .ok (.aload_n 0, 1) := by decide +kernel
theorem dX6_brings_1 : decode cX6_brings 1 = .ok (.aload_n 0, 1) := by decide +kernel
theorem dX6_brings_2 : decode cX6_brings 2 = .ok (.getfield 57, 3) := by decide +kernel
theorem dX6_brings_5 : decode cX6_brings 5 = .ok (.aload_n 0, 1) := by decide +kernel
theorem dX6_brings_6 : decode cX6_brings 6 = .ok (.getfield 110, 3) := by decide +kernel
theorem dX6_brings_9 : decode cX6_brings 9 = .ok (.iaload, 1) := by decide +kernel
theorem dX6_brings_10 : decode cX6_brings 10 = .ok (.ifCond .le 7, 3) := by decide +kernel
theorem dX6_brings_13 : decode cX6_brings 13 = .ok (.iconst 1, 1) := by decide +kernel
theorem dX6_brings_14 : decode cX6_brings 14 = .ok (.goto 4, 3) := by decide +kernel
theorem dX6_brings_17 : decode cX6_brings 17 = .ok (.iconst 0, 1) := by decide +kernel
theorem dX6_brings_18 : decode cX6_brings 18 = .ok (.putfield 148, 3) := by decide +kernel
theorem dX6_brings_21 : decode cX6_brings 21 = .ok (.aload_n 0, 1) := by decide +kernel
theorem dX6_brings_22 : decode cX6_brings 22 = .ok (.getfield 148, 3) := by decide +kernel
theorem dX6_brings_25 : decode cX6_brings 25 = .ok (.ifCond .eq 46, 3) := by decide +kernel
theorem dX6_brings_28 : decode cX6_brings 28 = .ok (.aload_n 0, 1) := by decide +kernel
theorem dX6_brings_29 : decode cX6_brings 29 = .ok (.iload_n 1, 1) := by decide +kernel
theorem dX6_brings_30 : decode cX6_brings 30 = .ok (.iload_n 2, 1) := by decide +kernel
theorem dX6_brings_31 : decode cX6_brings 31 = .ok (.bipush 66, 2) := by decide +kernel
theorem dX6_brings_33 : decode cX6_brings 33 = .ok (.aload_n 0, 1) := by decide +kernel
theorem dX6_brings_34 : decode cX6_brings 34 = .ok (.getfield 110, 3) := by decide +kernel
theorem dX6_brings_37 : decode cX6_brings 37 = .ok (.aload_n 0, 1) := by decide +kernel
theorem dX6_brings_38 : decode cX6_brings 38 = .ok (.getfield 57, 3) := by decide +kernel
theorem dX6_brings_41 : decode cX6_brings 41 = .ok (.aload_n 0, 1) := by decide +kernel
theorem dX6_brings_42 : decode cX6_brings 42 = .ok (.getfield 110, 3) := by decide +kernel
theorem dX6_brings_45 : decode cX6_brings 45 = .ok (.iaload, 1) := by decide +kernel
theorem dX6_brings_46 : decode cX6_brings 46 = .ok (.iconst 1, 1) := by decide +kernel
theorem dX6_brings_47 : decode cX6_brings 47 = .ok (.isub, 1) := by decide +kernel
theorem dX6_brings_48 : decode cX6_brings 48 = .ok (.invokevirtual 155, 3) := by decide +kernel
theorem dX6_brings_51 : decode cX6_brings 51 = .ok (.aload_n 0, 1) := by decide +kernel
theorem dX6_brings_52 : decode cX6_brings 52 = .ok (.getfield 57, 3) := by decide +kernel
theorem dX6_brings_55 : decode cX6_brings 55 = .ok (.aload_n 0, 1) := by decide +kernel
theorem dX6_brings_56 : decode cX6_brings 56 = .ok (.getfield 110, 3) := by decide +kernel
theorem dX6_brings_59 : decode cX6_brings 59 = .ok (.iconst 0, 1) := by decide +kernel
theorem dX6_brings_60 : decode cX6_brings 60 = .ok (.iastore, 1) := by decide +kernel
theorem dX6_brings_61 : decode cX6_brings 61 = .ok (.aload_n 0, 1) := by decide +kernel
theorem dX6_brings_62 : decode cX6_brings 62 = .ok (.getfield 60, 3) := by decide +kernel
theorem dX6_brings_65 : decode cX6_brings 65 = .ok (.aload_n 0, 1) := by decide +kernel
theorem dX6_brings_66 : decode cX6_brings 66 = .ok (.getfield 110, 3) := by decide +kernel
theorem dX6_brings_69 : decode cX6_brings 69 = .ok (.iconst 0, 1) := by decide +kernel
theorem dX6_brings_70 : decode cX6_brings 70 = .ok (.iastore, 1) := by decide +kernel
theorem dX6_brings_71 : decode cX6_brings 71 = .ok (.aload_n 0, 1) := by decide +kernel
theorem dX6_brings_72 : decode cX6_brings 72 = .ok (.getfield 63, 3) := by decide +kernel
theorem dX6_brings_75 : decode cX6_brings 75 = .ok (.aload_n 0, 1) := by decide +kernel
theorem dX6_brings_76 : decode cX6_brings 76 = .ok (.getfield 110, 3) := by decide +kernel
theorem dX6_brings_79 : decode cX6_brings 79 = .ok (.iaload, 1) := by decide +kernel
theorem dX6_brings_80 : decode cX6_brings 80 = .ok (.ireturn, 1) := by decide +kernel
theorem dX6_judge_0 : decode cX6_judge 0 = .ok (.aload_n 0, 1) := by decide +kernel
theorem dX6_judge_1 : decode cX6_judge 1 = .ok (.getfield 87, 3) := by decide +kernel
theorem dX6_judge_4 : decode cX6_judge 4 = .ok (.tableswitch 347 66 83 #[102, 95, 347, 347, 139, 347, 221, 124, 347, 347, 347, 347, 347, 347, 109, 347, 347, 88], 88) := by decide +kernel
theorem dX6_judge_92 : decode cX6_judge 92 = .ok (.aload_n 0, 1) := by decide +kernel
theorem dX6_judge_93 : decode cX6_judge 93 = .ok (.iconst 1, 1) := by decide +kernel
theorem dX6_judge_94 : decode cX6_judge 94 = .ok (.putfield 148, 3) := by decide +kernel
theorem dX6_judge_97 : decode cX6_judge 97 = .ok (.iconst 0, 1) := by decide +kernel
theorem dX6_judge_98 : decode cX6_judge 98 = .ok (.ireturn, 1) := by decide +kernel
theorem dX6_judge_99 : decode cX6_judge 99 = .ok (.aload_n 0, 1) := by decide +kernel
theorem dX6_judge_100 : decode cX6_judge 100 = .ok (.iload_n 1, 1) := by decide +kernel
theorem dX6_judge_101 : decode cX6_judge 101 = .ok (.iload_n 2, 1) := by decide +kernel
theorem dX6_judge_102 : decode cX6_judge 102 = .ok (.invokevirtual 162, 3) := by decide +kernel
theorem dX6_judge_105 : decode cX6_judge 105 = .ok (.ireturn, 1) := by decide +kernel
theorem dX6_judge_106 : decode cX6_judge 106 = .ok (.aload_n 0, 1) := by decide +kernel
theorem dX6_judge_107 : decode cX6_judge 107 = .ok (.iload_n 1, 1) := by decide +kernel
theorem dX6_judge_108 : decode cX6_judge 108 = .ok (.iload_n 2, 1) := by decide +kernel
theorem dX6_judge_109 : decode cX6_judge 109 = .ok (.invokevirtual 165, 3) := by decide +kernel
theorem dX6_judge_112 : decode cX6_judge 112 = .ok (.ireturn, 1) := by decide +kernel
theorem dX6_judge_113 : decode cX6_judge 113 = .ok (.aload_n 0, 1) := by decide +kernel
theorem dX6_judge_114 : decode cX6_judge 114 = .ok (.iconst 1, 1) := by decide +kernel
theorem dX6_judge_115 : decode cX6_judge 115 = .ok (.putfield 148, 3) := by decide +kernel
theorem dX6_judge_118 : decode cX6_judge 118 = .ok (.aload_n 0, 1) := by decide +kernel
theorem dX6_judge_119 : decode cX6_judge 119 = .ok (.getfield 54, 3) := by decide +kernel
theorem dX6_judge_122 : decode cX6_judge 122 = .ok (.aload_n 0, 1) := by decide +kernel
theorem dX6_judge_123 : decode cX6_judge 123 = .ok (.getfield 104, 3) := by decide +kernel
theorem dX6_judge_126 : decode cX6_judge 126 = .ok (.iaload, 1) := by decide +kernel
theorem dX6_judge_127 : decode cX6_judge 127 = .ok (.ireturn, 1) := by decide +kernel
theorem dX6_judge_128 : decode cX6_judge 128 = .ok (.aload_n 0, 1) := by decide +kernel
theorem dX6_judge_129 : decode cX6_judge 129 = .ok (.iconst 1, 1) := by decide +kernel
theorem dX6_judge_130 : decode cX6_judge 130 = .ok (.putfield 148, 3) := by decide +kernel
theorem dX6_judge_133 : decode cX6_judge 133 = .ok (.aload_n 0, 1) := by decide +kernel
theorem dX6_judge_134 : decode cX6_judge 134 = .ok (.getfield 57, 3) := by decide +kernel
theorem dX6_judge_137 : decode cX6_judge 137 = .ok (.aload_n 0, 1) := by decide +kernel
theorem dX6_judge_138 : decode cX6_judge 138 = .ok (.getfield 110, 3) := by decide +kernel
theorem dX6_judge_141 : decode cX6_judge 141 = .ok (.iaload, 1) := by decide +kernel
theorem dX6_judge_142 : decode cX6_judge 142 = .ok (.ireturn, 1) := by decide +kernel
theorem dX6_judge_143 : decode cX6_judge 143 = .ok (.aload_n 0, 1) := by decide +kernel
theorem dX6_judge_144 : decode cX6_judge 144 = .ok (.aload_n 0, 1) := by decide +kernel
theorem dX6_judge_145 : decode cX6_judge 145 = .ok (.getfield 113, 3) := by decide +kernel
theorem dX6_judge_148 : decode cX6_judge 148 = .ok (.aload_n 0, 1) := by decide +kernel
theorem dX6_judge_149 : decode cX6_judge 149 = .ok (.getfield 54, 3) := by decide +kernel
theorem dX6_judge_152 : decode cX6_judge 152 = .ok (.aload_n 0, 1) := by decide +kernel
theorem dX6_judge_153 : decode cX6_judge 153 = .ok (.getfield 104, 3) := by decide +kernel
theorem dX6_judge_156 : decode cX6_judge 156 = .ok (.iaload, 1) := by decide +kernel
theorem dX6_judge_157 : decode cX6_judge 157 = .ok (.if_icmp .gt 7, 3) := by decide +kernel
theorem dX6_judge_160 : decode cX6_judge 160 = .ok (.iconst 1, 1) := by decide +kernel
theorem dX6_judge_161 : decode cX6_judge 161 = .ok (.goto 4, 3) := by decide +kernel
theorem dX6_judge_164 : decode cX6_judge 164 = .ok (.iconst 0, 1) := by decide +kernel
theorem dX6_judge_165 : decode cX6_judge 165 = .ok (.putfield 148, 3) := by decide +kernel
theorem dX6_judge_168 : decode cX6_judge 168 = .ok (.aload_n 0, 1) := by decide +kernel
theorem dX6_judge_169 : decode cX6_judge 169 = .ok (.getfield 54, 3) := by decide +kernel
theorem dX6_judge_172 : decode cX6_judge 172 = .ok (.aload_n 0, 1) := by decide +kernel
theorem dX6_judge_173 : decode cX6_judge 173 = .ok (.getfield 104, 3) := by decide +kernel
theorem dX6_judge_176 : decode cX6_judge 176 = .ok (.dup2, 1) := by decide +kernel
theorem dX6_judge_177 : decode cX6_judge 177 = .ok (.iaload, 1) := by decide +kernel
theorem dX6_judge_178 : decode cX6_judge 178 = .ok (.aload_n 0, 1) := by decide +kernel
theorem dX6_judge_179 : decode cX6_judge 179 = .ok (.getfield 148, 3) := by decide +kernel
theorem dX6_judge_182 : decode cX6_judge 182 = .ok (.ifCond .eq 10, 3) := by decide +kernel
theorem dX6_judge_185 : decode cX6_judge 185 = .ok (.aload_n 0, 1) := by decide +kernel
theorem dX6_judge_186 : decode cX6_judge 186 = .ok (.getfield 113, 3) := by decide +kernel
theorem dX6_judge_189 : decode cX6_judge 189 = .ok (.goto 4, 3) := by decide +kernel
theorem dX6_judge_192 : decode cX6_judge 192 = .ok (.iconst 0, 1) := by decide +kernel
theorem dX6_judge_193 : decode cX6_judge 193 = .ok (.isub, 1) := by decide +kernel
theorem dX6_judge_194 : decode cX6_judge 194 = .ok (.iastore, 1) := by decide +kernel
theorem dX6_judge_195 : decode cX6_judge 195 = .ok (.aload_n 0, 1) := by decide +kernel
theorem dX6_judge_196 : decode cX6_judge 196 = .ok (.getfield 148, 3) := by decide +kernel
theorem dX6_judge_199 : decode cX6_judge 199 = .ok (.ifCond .eq 16, 3) := by decide +kernel
theorem dX6_judge_202 : decode cX6_judge 202 = .ok (.aload_n 0, 1) := by decide +kernel
theorem dX6_judge_203 : decode cX6_judge 203 = .ok (.iload_n 1, 1) := by decide +kernel
theorem dX6_judge_204 : decode cX6_judge 204 = .ok (.iload_n 2, 1) := by decide +kernel
theorem dX6_judge_205 : decode cX6_judge 205 = .ok (.bipush 70, 2) := by decide +kernel
theorem dX6_judge_207 : decode cX6_judge 207 = .ok (.iconst (-1), 1) := by decide +kernel
theorem dX6_judge_208 : decode cX6_judge 208 = .ok (.aload_n 0, 1) := by decide +kernel
theorem dX6_judge_209 : decode cX6_judge 209 = .ok (.getfield 104, 3) := by decide +kernel
theorem dX6_judge_212 : decode cX6_judge 212 = .ok (.invokevirtual 155, 3) := by decide +kernel
theorem dX6_judge_215 : decode cX6_judge 215 = .ok (.aload_n 0, 1) := by decide +kernel
theorem dX6_judge_216 : decode cX6_judge 216 = .ok (.getfield 54, 3) := by decide +kernel
theorem dX6_judge_219 : decode cX6_judge 219 = .ok (.aload_n 0, 1) := by decide +kernel
theorem dX6_judge_220 : decode cX6_judge 220 = .ok (.getfield 104, 3) := by decide +kernel
theorem dX6_judge_223 : decode cX6_judge 223 = .ok (.iaload, 1) := by decide +kernel
theorem dX6_judge_224 : decode cX6_judge 224 = .ok (.ireturn, 1) := by decide +kernel
theorem dX6_judge_225 : decode cX6_judge 225 = .ok (.aload_n 0, 1) := by decide +kernel
theorem dX6_judge_226 : decode cX6_judge 226 = .ok (.aload_n 0, 1) := by decide +kernel
theorem dX6_judge_227 : decode cX6_judge 227 = .ok (.getfield 57, 3) := by decide +kernel
theorem dX6_judge_230 : decode cX6_judge 230 = .ok (.aload_n 0, 1) := by decide +kernel
theorem dX6_judge_231 : decode cX6_judge 231 = .ok (.getfield 110, 3) := by decide +kernel
theorem dX6_judge_234 : decode cX6_judge 234 = .ok (.iaload, 1) := by decide +kernel
theorem dX6_judge_235 : decode cX6_judge 235 = .ok (.ifCond .le 40, 3) := by decide +kernel
theorem dX6_judge_238 : decode cX6_judge 238 = .ok (.aload_n 0, 1) := by decide +kernel
theorem dX6_judge_239 : decode cX6_judge 239 = .ok (.getfield 57, 3) := by decide +kernel
theorem dX6_judge_242 : decode cX6_judge 242 = .ok (.aload_n 0, 1) := by decide +kernel
theorem dX6_judge_243 : decode cX6_judge 243 = .ok (.getfield 110, 3) := by decide +kernel
theorem dX6_judge_246 : decode cX6_judge 246 = .ok (.iaload, 1) := by decide +kernel
theorem dX6_judge_247 : decode cX6_judge 247 = .ok (.aload_n 0, 1) := by decide +kernel
theorem dX6_judge_248 : decode cX6_judge 248 = .ok (.getfield 104, 3) := by decide +kernel
theorem dX6_judge_251 : decode cX6_judge 251 = .ok (.iconst 1, 1) := by decide +kernel
theorem dX6_judge_252 : decode cX6_judge 252 = .ok (.iadd, 1) := by decide +kernel
theorem dX6_judge_253 : decode cX6_judge 253 = .ok (.if_icmp .eq 22, 3) := by decide +kernel
theorem dX6_judge_256 : decode cX6_judge 256 = .ok (.aload_n 0, 1) := by decide +kernel
theorem dX6_judge_257 : decode cX6_judge 257 = .ok (.aload_n 0, 1) := by decide +kernel
theorem dX6_judge_258 : decode cX6_judge 258 = .ok (.getfield 110, 3) := by decide +kernel
theorem dX6_judge_261 : decode cX6_judge 261 = .ok (.aload_n 0, 1) := by decide +kernel
theorem dX6_judge_262 : decode cX6_judge 262 = .ok (.getfield 104, 3) := by decide +kernel
theorem dX6_judge_265 : decode cX6_judge 265 = .ok (.invokevirtual 168, 3) := by decide +kernel
theorem dX6_judge_268 : decode cX6_judge 268 = .ok (.ifCond .ge 7, 3) := by decide +kernel
theorem dX6_judge_271 : decode cX6_judge 271 = .ok (.iconst 1, 1) := by decide +kernel
theorem dX6_judge_272 : decode cX6_judge 272 = .ok (.goto 4, 3) := by decide +kernel
theorem dX6_judge_275 : decode cX6_judge 275 = .ok (.iconst 0, 1) := by decide +kernel
theorem dX6_judge_276 : decode cX6_judge 276 = .ok (.putfield 148, 3) := by decide +kernel
theorem dX6_judge_279 : decode cX6_judge 279 = .ok (.aload_n 0, 1) := by decide +kernel
theorem dX6_judge_280 : decode cX6_judge 280 = .ok (.getfield 148, 3) := by decide +kernel
theorem dX6_judge_283 : decode cX6_judge 283 = .ok (.ifCond .eq 58, 3) := by decide +kernel
theorem dX6_judge_286 : decode cX6_judge 286 = .ok (.aload_n 0, 1) := by decide +kernel
theorem dX6_judge_287 : decode cX6_judge 287 = .ok (.getfield 66, 3) := by decide +kernel
theorem dX6_judge_290 : decode cX6_judge 290 = .ok (.bipush 30, 2) := by decide +kernel
theorem dX6_judge_292 : decode cX6_judge 292 = .ok (.aload_n 0, 1) := by decide +kernel
theorem dX6_judge_293 : decode cX6_judge 293 = .ok (.getfield 110, 3) := by decide +kernel
theorem dX6_judge_296 : decode cX6_judge 296 = .ok (.imul, 1) := by decide +kernel
theorem dX6_judge_297 : decode cX6_judge 297 = .ok (.aload_n 0, 1) := by decide +kernel
theorem dX6_judge_298 : decode cX6_judge 298 = .ok (.getfield 63, 3) := by decide +kernel
theorem dX6_judge_301 : decode cX6_judge 301 = .ok (.aload_n 0, 1) := by decide +kernel
theorem dX6_judge_302 : decode cX6_judge 302 = .ok (.getfield 110, 3) := by decide +kernel
theorem dX6_judge_305 : decode cX6_judge 305 = .ok (.iaload, 1) := by decide +kernel
theorem dX6_judge_306 : decode cX6_judge 306 = .ok (.iadd, 1) := by decide +kernel
theorem dX6_judge_307 : decode cX6_judge 307 = .ok (.aload_n 0, 1) := by decide +kernel
theorem dX6_judge_308 : decode cX6_judge 308 = .ok (.getfield 104, 3) := by decide +kernel
theorem dX6_judge_311 : decode cX6_judge 311 = .ok (.iastore, 1) := by decide +kernel
theorem dX6_judge_312 : decode cX6_judge 312 = .ok (.aload_n 0, 1) := by decide +kernel
theorem dX6_judge_313 : decode cX6_judge 313 = .ok (.getfield 63, 3) := by decide +kernel
theorem dX6_judge_316 : decode cX6_judge 316 = .ok (.aload_n 0, 1) := by decide +kernel
theorem dX6_judge_317 : decode cX6_judge 317 = .ok (.getfield 110, 3) := by decide +kernel
theorem dX6_judge_320 : decode cX6_judge 320 = .ok (.dup2, 1) := by decide +kernel
theorem dX6_judge_321 : decode cX6_judge 321 = .ok (.iaload, 1) := by decide +kernel
theorem dX6_judge_322 : decode cX6_judge 322 = .ok (.iconst 1, 1) := by decide +kernel
theorem dX6_judge_323 : decode cX6_judge 323 = .ok (.iadd, 1) := by decide +kernel
theorem dX6_judge_324 : decode cX6_judge 324 = .ok (.iastore, 1) := by decide +kernel
theorem dX6_judge_325 : decode cX6_judge 325 = .ok (.aload_n 0, 1) := by decide +kernel
theorem dX6_judge_326 : decode cX6_judge 326 = .ok (.iload_n 1, 1) := by decide +kernel
theorem dX6_judge_327 : decode cX6_judge 327 = .ok (.iload_n 2, 1) := by decide +kernel
theorem dX6_judge_328 : decode cX6_judge 328 = .ok (.bipush 72, 2) := by decide +kernel
theorem dX6_judge_330 : decode cX6_judge 330 = .ok (.aload_n 0, 1) := by decide +kernel
theorem dX6_judge_331 : decode cX6_judge 331 = .ok (.getfield 110, 3) := by decide +kernel
theorem dX6_judge_334 : decode cX6_judge 334 = .ok (.aload_n 0, 1) := by decide +kernel
theorem dX6_judge_335 : decode cX6_judge 335 = .ok (.getfield 104, 3) := by decide +kernel
theorem dX6_judge_338 : decode cX6_judge 338 = .ok (.invokevirtual 155, 3) := by decide +kernel
theorem dX6_judge_341 : decode cX6_judge 341 = .ok (.aload_n 0, 1) := by decide +kernel
theorem dX6_judge_342 : decode cX6_judge 342 = .ok (.getfield 63, 3) := by decide +kernel
theorem dX6_judge_345 : decode cX6_judge 345 = .ok (.aload_n 0, 1) := by decide +kernel
theorem dX6_judge_346 : decode cX6_judge 346 = .ok (.getfield 110, 3) := by decide +kernel
theorem dX6_judge_349 : decode cX6_judge 349 = .ok (.iaload, 1) := by decide +kernel
theorem dX6_judge_350 : decode cX6_judge 350 = .ok (.ireturn, 1) := by decide +kernel
theorem dX6_judge_351 : decode cX6_judge 351 = .ok (.aload_n 0, 1) := by decide +kernel
theorem dX6_judge_352 : decode cX6_judge 352 = .ok (.aload_n 0, 1) := by decide +kernel
theorem dX6_judge_353 : decode cX6_judge 353 = .ok (.getfield 57, 3) := by decide +kernel
theorem dX6_judge_356 : decode cX6_judge 356 = .ok (.aload_n 0, 1) := by decide +kernel
theorem dX6_judge_357 : decode cX6_judge 357 = .ok (.getfield 110, 3) := by decide +kernel
theorem dX6_judge_360 : decode cX6_judge 360 = .ok (.iaload, 1) := by decide +kernel
theorem dX6_judge_361 : decode cX6_judge 361 = .ok (.aload_n 0, 1) := by decide +kernel
theorem dX6_judge_362 : decode cX6_judge 362 = .ok (.getfield 104, 3) := by decide +kernel
theorem dX6_judge_365 : decode cX6_judge 365 = .ok (.iconst 1, 1) := by decide +kernel
theorem dX6_judge_366 : decode cX6_judge 366 = .ok (.iadd, 1) := by decide +kernel
theorem dX6_judge_367 : decode cX6_judge 367 = .ok (.if_icmp .ne 32, 3) := by decide +kernel
theorem dX6_judge_370 : decode cX6_judge 370 = .ok (.aload_n 0, 1) := by decide +kernel
theorem dX6_judge_371 : decode cX6_judge 371 = .ok (.getfield 63, 3) := by decide +kernel
theorem dX6_judge_374 : decode cX6_judge 374 = .ok (.aload_n 0, 1) := by decide +kernel
theorem dX6_judge_375 : decode cX6_judge 375 = .ok (.getfield 110, 3) := by decide +kernel
theorem dX6_judge_378 : decode cX6_judge 378 = .ok (.iaload, 1) := by decide +kernel
theorem dX6_judge_379 : decode cX6_judge 379 = .ok (.ifCond .ne 20, 3) := by decide +kernel
theorem dX6_judge_382 : decode cX6_judge 382 = .ok (.aload_n 0, 1) := by decide +kernel
theorem dX6_judge_383 : decode cX6_judge 383 = .ok (.getfield 60, 3) := by decide +kernel
theorem dX6_judge_386 : decode cX6_judge 386 = .ok (.aload_n 0, 1) := by decide +kernel
theorem dX6_judge_387 : decode cX6_judge 387 = .ok (.getfield 110, 3) := by decide +kernel
theorem dX6_judge_390 : decode cX6_judge 390 = .ok (.iaload, 1) := by decide +kernel
theorem dX6_judge_391 : decode cX6_judge 391 = .ok (.iconst 2, 1) := by decide +kernel
theorem dX6_judge_392 : decode cX6_judge 392 = .ok (.if_icmp .ge 7, 3) := by decide +kernel
theorem dX6_judge_395 : decode cX6_judge 395 = .ok (.iconst 1, 1) := by decide +kernel
theorem dX6_judge_396 : decode cX6_judge 396 = .ok (.goto 4, 3) := by decide +kernel
theorem dX6_judge_399 : decode cX6_judge 399 = .ok (.iconst 0, 1) := by decide +kernel
theorem dX6_judge_400 : decode cX6_judge 400 = .ok (.putfield 148, 3) := by decide +kernel
theorem dX6_judge_403 : decode cX6_judge 403 = .ok (.aload_n 0, 1) := by decide +kernel
theorem dX6_judge_404 : decode cX6_judge 404 = .ok (.getfield 60, 3) := by decide +kernel
theorem dX6_judge_407 : decode cX6_judge 407 = .ok (.aload_n 0, 1) := by decide +kernel
theorem dX6_judge_408 : decode cX6_judge 408 = .ok (.getfield 110, 3) := by decide +kernel
theorem dX6_judge_411 : decode cX6_judge 411 = .ok (.dup2, 1) := by decide +kernel
theorem dX6_judge_412 : decode cX6_judge 412 = .ok (.iaload, 1) := by decide +kernel
theorem dX6_judge_413 : decode cX6_judge 413 = .ok (.aload_n 0, 1) := by decide +kernel
theorem dX6_judge_414 : decode cX6_judge 414 = .ok (.getfield 148, 3) := by decide +kernel
theorem dX6_judge_417 : decode cX6_judge 417 = .ok (.ifCond .eq 7, 3) := by decide +kernel
theorem dX6_judge_420 : decode cX6_judge 420 = .ok (.iconst 1, 1) := by decide +kernel
theorem dX6_judge_421 : decode cX6_judge 421 = .ok (.goto 4, 3) := by decide +kernel
theorem dX6_judge_424 : decode cX6_judge 424 = .ok (.iconst 0, 1) := by decide +kernel
theorem dX6_judge_425 : decode cX6_judge 425 = .ok (.iadd, 1) := by decide +kernel
theorem dX6_judge_426 : decode cX6_judge 426 = .ok (.iastore, 1) := by decide +kernel
theorem dX6_judge_427 : decode cX6_judge 427 = .ok (.aload_n 0, 1) := by decide +kernel
theorem dX6_judge_428 : decode cX6_judge 428 = .ok (.getfield 148, 3) := by decide +kernel
theorem dX6_judge_431 : decode cX6_judge 431 = .ok (.ifCond .eq 19, 3) := by decide +kernel
theorem dX6_judge_434 : decode cX6_judge 434 = .ok (.aload_n 0, 1) := by decide +kernel
theorem dX6_judge_435 : decode cX6_judge 435 = .ok (.iload_n 1, 1) := by decide +kernel
theorem dX6_judge_436 : decode cX6_judge 436 = .ok (.iload_n 2, 1) := by decide +kernel
theorem dX6_judge_437 : decode cX6_judge 437 = .ok (.bipush 82, 2) := by decide +kernel
theorem dX6_judge_439 : decode cX6_judge 439 = .ok (.aload_n 0, 1) := by decide +kernel
theorem dX6_judge_440 : decode cX6_judge 440 = .ok (.getfield 110, 3) := by decide +kernel
theorem dX6_judge_443 : decode cX6_judge 443 = .ok (.aload_n 0, 1) := by decide +kernel
theorem dX6_judge_444 : decode cX6_judge 444 = .ok (.getfield 104, 3) := by decide +kernel
theorem dX6_judge_447 : decode cX6_judge 447 = .ok (.invokevirtual 155, 3) := by decide +kernel
theorem dX6_judge_450 : decode cX6_judge 450 = .ok (.aload_n 0, 1) := by decide +kernel
theorem dX6_judge_451 : decode cX6_judge 451 = .ok (.getfield 60, 3) := by decide +kernel
theorem dX6_judge_454 : decode cX6_judge 454 = .ok (.aload_n 0, 1) := by decide +kernel
theorem dX6_judge_455 : decode cX6_judge 455 = .ok (.getfield 110, 3) := by decide +kernel
theorem dX6_judge_458 : decode cX6_judge 458 = .ok (.iaload, 1) := by decide +kernel
theorem dX6_judge_459 : decode cX6_judge 459 = .ok (.ireturn, 1) := by decide +kernel
theorem dX6_octet_0 : decode cX6_octet 0 = .ok (.aload_n 0, 1) := by decide +kernel
theorem dX6_octet_1 : decode cX6_octet 1 = .ok (.iconst 0, 1) := by decide +kernel
theorem dX6_octet_2 : decode cX6_octet 2 = .ok (.putfield 72, 3) := by decide +kernel
theorem dX6_octet_5 : decode cX6_octet 5 = .ok (.iload_n 1, 1) := by decide +kernel
theorem dX6_octet_6 : decode cX6_octet 6 = .ok (.invokestatic 171, 3) := by decide +kernel
theorem dX6_octet_9 : decode cX6_octet 9 = .ok (.ifCond .ne 5, 3) := by decide +kernel
theorem dX6_octet_12 : decode cX6_octet 12 = .ok (.iconst (-1), 1) := by decide +kernel
theorem dX6_octet_13 : decode cX6_octet 13 = .ok (.ireturn, 1) := by decide +kernel
theorem dX6_octet_14 : decode cX6_octet 14 = .ok (.aload_n 0, 1) := by decide +kernel
theorem dX6_octet_15 : decode cX6_octet 15 = .ok (.getfield 17, 3) := by decide +kernel
theorem dX6_octet_18 : decode cX6_octet 18 = .ok (.iload_n 1, 1) := by decide +kernel
theorem dX6_octet_19 : decode cX6_octet 19 = .ok (.baload, 1) := by decide +kernel
theorem dX6_octet_20 : decode cX6_octet 20 = .ok (.ifCond .eq 6, 3) := by decide +kernel
theorem dX6_octet_23 : decode cX6_octet 23 = .ok (.bipush (-2), 2) := by decide +kernel
theorem dX6_octet_25 : decode cX6_octet 25 = .ok (.ireturn, 1) := by decide +kernel
theorem dX6_octet_26 : decode cX6_octet 26 = .ok (.iload_n 2, 1) := by decide +kernel
theorem dX6_octet_27 : decode cX6_octet 27 = .ok (.sipush 255, 3) := by decide +kernel
theorem dX6_octet_30 : decode cX6_octet 30 = .ok (.iand, 1) := by decide +kernel
theorem dX6_octet_31 : decode cX6_octet 31 = .ok (.bipush 13, 2) := by decide +kernel
theorem dX6_octet_33 : decode cX6_octet 33 = .ok (.if_icmp .ne 17, 3) := by decide +kernel
theorem dX6_octet_36 : decode cX6_octet 36 = .ok (.aload_n 0, 1) := by decide +kernel
theorem dX6_octet_37 : decode cX6_octet 37 = .ok (.iload_n 1, 1) := by decide +kernel
theorem dX6_octet_38 : decode cX6_octet 38 = .ok (.invokevirtual 174, 3) := by decide +kernel
theorem dX6_octet_41 : decode cX6_octet 41 = .ok (.aload_n 0, 1) := by decide +kernel
theorem dX6_octet_42 : decode cX6_octet 42 = .ok (.getfield 7, 3) := by decide +kernel
theorem dX6_octet_45 : decode cX6_octet 45 = .ok (.iload_n 1, 1) := by decide +kernel
theorem dX6_octet_46 : decode cX6_octet 46 = .ok (.iconst 0, 1) := by decide +kernel
theorem dX6_octet_47 : decode cX6_octet 47 = .ok (.iastore, 1) := by decide +kernel
theorem dX6_octet_48 : decode cX6_octet 48 = .ok (.iconst 0, 1) := by decide +kernel
theorem dX6_octet_49 : decode cX6_octet 49 = .ok (.ireturn, 1) := by decide +kernel
theorem dX6_octet_50 : decode cX6_octet 50 = .ok (.aload_n 0, 1) := by decide +kernel
theorem dX6_octet_51 : decode cX6_octet 51 = .ok (.getfield 7, 3) := by decide +kernel
theorem dX6_octet_54 : decode cX6_octet 54 = .ok (.iload_n 1, 1) := by decide +kernel
theorem dX6_octet_55 : decode cX6_octet 55 = .ok (.iaload, 1) := by decide +kernel
theorem dX6_octet_56 : decode cX6_octet 56 = .ok (.bipush 60, 2) := by decide +kernel
theorem dX6_octet_58 : decode cX6_octet 58 = .ok (.if_icmp .ne 13, 3) := by decide +kernel
theorem dX6_octet_61 : decode cX6_octet 61 = .ok (.aload_n 0, 1) := by decide +kernel
theorem dX6_octet_62 : decode cX6_octet 62 = .ok (.getfield 17, 3) := by decide +kernel
theorem dX6_octet_65 : decode cX6_octet 65 = .ok (.iload_n 1, 1) := by decide +kernel
theorem dX6_octet_66 : decode cX6_octet 66 = .ok (.iconst 1, 1) := by decide +kernel
theorem dX6_octet_67 : decode cX6_octet 67 = .ok (.bastore, 1) := by decide +kernel
theorem dX6_octet_68 : decode cX6_octet 68 = .ok (.bipush (-2), 2) := by decide +kernel
theorem dX6_octet_70 : decode cX6_octet 70 = .ok (.ireturn, 1) := by decide +kernel
theorem dX6_octet_71 : decode cX6_octet 71 = .ok (.aload_n 0, 1) := by decide +kernel
theorem dX6_octet_72 : decode cX6_octet 72 = .ok (.getfield 13, 3) := by decide +kernel
theorem dX6_octet_75 : decode cX6_octet 75 = .ok (.bipush 60, 2) := by decide +kernel
theorem dX6_octet_77 : decode cX6_octet 77 = .ok (.iload_n 1, 1) := by decide +kernel
theorem dX6_octet_78 : decode cX6_octet 78 = .ok (.imul, 1) := by decide +kernel
theorem dX6_octet_79 : decode cX6_octet 79 = .ok (.aload_n 0, 1) := by decide +kernel
theorem dX6_octet_80 : decode cX6_octet 80 = .ok (.getfield 7, 3) := by decide +kernel
theorem dX6_octet_83 : decode cX6_octet 83 = .ok (.iload_n 1, 1) := by decide +kernel
theorem dX6_octet_84 : decode cX6_octet 84 = .ok (.iaload, 1) := by decide +kernel
theorem dX6_octet_85 : decode cX6_octet 85 = .ok (.iadd, 1) := by decide +kernel
theorem dX6_octet_86 : decode cX6_octet 86 = .ok (.iload_n 2, 1) := by decide +kernel
theorem dX6_octet_87 : decode cX6_octet 87 = .ok (.i2b, 1) := by decide +kernel
theorem dX6_octet_88 : decode cX6_octet 88 = .ok (.bastore, 1) := by decide +kernel
theorem dX6_octet_89 : decode cX6_octet 89 = .ok (.aload_n 0, 1) := by decide +kernel
theorem dX6_octet_90 : decode cX6_octet 90 = .ok (.getfield 7, 3) := by decide +kernel
theorem dX6_octet_93 : decode cX6_octet 93 = .ok (.iload_n 1, 1) := by decide +kernel
theorem dX6_octet_94 : decode cX6_octet 94 = .ok (.dup2, 1) := by decide +kernel
theorem dX6_octet_95 : decode cX6_octet 95 = .ok (.iaload, 1) := by decide +kernel
theorem dX6_octet_96 : decode cX6_octet 96 = .ok (.iconst 1, 1) := by decide +kernel
theorem dX6_octet_97 : decode cX6_octet 97 = .ok (.iadd, 1) := by decide +kernel
theorem dX6_octet_98 : decode cX6_octet 98 = .ok (.iastore, 1) := by decide +kernel
theorem dX6_octet_99 : decode cX6_octet 99 = .ok (.aload_n 0, 1) := by decide +kernel
theorem dX6_octet_100 : decode cX6_octet 100 = .ok (.getfield 7, 3) := by decide +kernel
theorem dX6_octet_103 : decode cX6_octet 103 = .ok (.iload_n 1, 1) := by decide +kernel
theorem dX6_octet_104 : decode cX6_octet 104 = .ok (.iaload, 1) := by decide +kernel
theorem dX6_octet_105 : decode cX6_octet 105 = .ok (.ireturn, 1) := by decide +kernel
theorem dX6_answer_0 : decode cX6_answer 0 = .ok (.aload_n 0, 1) := by decide +kernel
theorem dX6_answer_1 : decode cX6_answer 1 = .ok (.iload_n 1, 1) := by decide +kernel
theorem dX6_answer_2 : decode cX6_answer 2 = .ok (.invokestatic 171, 3) := by decide +kernel
theorem dX6_answer_5 : decode cX6_answer 5 = .ok (.ifCond .eq 23, 3) := by decide +kernel
theorem dX6_answer_8 : decode cX6_answer 8 = .ok (.iload_n 2, 1) := by decide +kernel
theorem dX6_answer_9 : decode cX6_answer 9 = .ok (.iconst 0, 1) := by decide +kernel
theorem dX6_answer_10 : decode cX6_answer 10 = .ok (.aload_n 0, 1) := by decide +kernel
theorem dX6_answer_11 : decode cX6_answer 11 = .ok (.getfield 30, 3) := by decide +kernel
theorem dX6_answer_14 : decode cX6_answer 14 = .ok (.iload_n 1, 1) := by decide +kernel
theorem dX6_answer_15 : decode cX6_answer 15 = .ok (.iaload, 1) := by decide +kernel
theorem dX6_answer_16 : decode cX6_answer 16 = .ok (.iconst 1, 1) := by decide +kernel
theorem dX6_answer_17 : decode cX6_answer 17 = .ok (.isub, 1) := by decide +kernel
theorem dX6_answer_18 : decode cX6_answer 18 = .ok (.invokestatic 76, 3) := by decide +kernel
theorem dX6_answer_21 : decode cX6_answer 21 = .ok (.ifCond .eq 7, 3) := by decide +kernel
theorem dX6_answer_24 : decode cX6_answer 24 = .ok (.iconst 0, 1) := by decide +kernel
theorem dX6_answer_25 : decode cX6_answer 25 = .ok (.goto 4, 3) := by decide +kernel
theorem dX6_answer_28 : decode cX6_answer 28 = .ok (.iconst 1, 1) := by decide +kernel
theorem dX6_answer_29 : decode cX6_answer 29 = .ok (.putfield 72, 3) := by decide +kernel
theorem dX6_answer_32 : decode cX6_answer 32 = .ok (.aload_n 0, 1) := by decide +kernel
theorem dX6_answer_33 : decode cX6_answer 33 = .ok (.getfield 72, 3) := by decide +kernel
theorem dX6_answer_36 : decode cX6_answer 36 = .ok (.ifCond .le 7, 3) := by decide +kernel
theorem dX6_answer_39 : decode cX6_answer 39 = .ok (.iconst 0, 1) := by decide +kernel
theorem dX6_answer_40 : decode cX6_answer 40 = .ok (.goto 14, 3) := by decide +kernel
theorem dX6_answer_43 : decode cX6_answer 43 = .ok (.aload_n 0, 1) := by decide +kernel
theorem dX6_answer_44 : decode cX6_answer 44 = .ok (.getfield 33, 3) := by decide +kernel
theorem dX6_answer_47 : decode cX6_answer 47 = .ok (.bipush 30, 2) := by decide +kernel
theorem dX6_answer_49 : decode cX6_answer 49 = .ok (.iload_n 1, 1) := by decide +kernel
theorem dX6_answer_50 : decode cX6_answer 50 = .ok (.imul, 1) := by decide +kernel
theorem dX6_answer_51 : decode cX6_answer 51 = .ok (.iload_n 2, 1) := by decide +kernel
theorem dX6_answer_52 : decode cX6_answer 52 = .ok (.iadd, 1) := by decide +kernel
theorem dX6_answer_53 : decode cX6_answer 53 = .ok (.baload, 1) := by decide +kernel
theorem dX6_answer_54 : decode cX6_answer 54 = .ok (.ireturn, 1) := by decide +kernel
theorem dX6_reset_0 : decode cX6_reset 0 = .ok (.aload_n 0, 1) := by decide +kernel
theorem dX6_reset_1 : decode cX6_reset 1 = .ok (.iconst 0, 1) := by decide +kernel
theorem dX6_reset_2 : decode cX6_reset 2 = .ok (.putfield 72, 3) := by decide +kernel
theorem dX6_reset_5 : decode cX6_reset 5 = .ok (.iload_n 1, 1) := by decide +kernel
theorem dX6_reset_6 : decode cX6_reset 6 = .ok (.invokestatic 171, 3) := by decide +kernel
theorem dX6_reset_9 : decode cX6_reset 9 = .ok (.ifCond .ne 5, 3) := by decide +kernel
theorem dX6_reset_12 : decode cX6_reset 12 = .ok (.iconst (-1), 1) := by decide +kernel
theorem dX6_reset_13 : decode cX6_reset 13 = .ok (.ireturn, 1) := by decide +kernel
theorem dX6_reset_14 : decode cX6_reset 14 = .ok (.aload_n 0, 1) := by decide +kernel
theorem dX6_reset_15 : decode cX6_reset 15 = .ok (.getfield 7, 3) := by decide +kernel
theorem dX6_reset_18 : decode cX6_reset 18 = .ok (.iload_n 1, 1) := by decide +kernel
theorem dX6_reset_19 : decode cX6_reset 19 = .ok (.iaload, 1) := by decide +kernel
theorem dX6_reset_20 : decode cX6_reset 20 = .ok (.istore_n 2, 1) := by decide +kernel
theorem dX6_reset_21 : decode cX6_reset 21 = .ok (.aload_n 0, 1) := by decide +kernel
theorem dX6_reset_22 : decode cX6_reset 22 = .ok (.getfield 7, 3) := by decide +kernel
theorem dX6_reset_25 : decode cX6_reset 25 = .ok (.iload_n 1, 1) := by decide +kernel
theorem dX6_reset_26 : decode cX6_reset 26 = .ok (.iconst 0, 1) := by decide +kernel
theorem dX6_reset_27 : decode cX6_reset 27 = .ok (.iastore, 1) := by decide +kernel
theorem dX6_reset_28 : decode cX6_reset 28 = .ok (.aload_n 0, 1) := by decide +kernel
theorem dX6_reset_29 : decode cX6_reset 29 = .ok (.getfield 17, 3) := by decide +kernel
theorem dX6_reset_32 : decode cX6_reset 32 = .ok (.iload_n 1, 1) := by decide +kernel
theorem dX6_reset_33 : decode cX6_reset 33 = .ok (.iconst 0, 1) := by decide +kernel
theorem dX6_reset_34 : decode cX6_reset 34 = .ok (.bastore, 1) := by decide +kernel
theorem dX6_reset_35 : decode cX6_reset 35 = .ok (.aload_n 0, 1) := by decide +kernel
theorem dX6_reset_36 : decode cX6_reset 36 = .ok (.getfield 21, 3) := by decide +kernel
theorem dX6_reset_39 : decode cX6_reset 39 = .ok (.iload_n 1, 1) := by decide +kernel
theorem dX6_reset_40 : decode cX6_reset 40 = .ok (.iconst 0, 1) := by decide +kernel
theorem dX6_reset_41 : decode cX6_reset 41 = .ok (.bastore, 1) := by decide +kernel
theorem dX6_reset_42 : decode cX6_reset 42 = .ok (.aload_n 0, 1) := by decide +kernel
theorem dX6_reset_43 : decode cX6_reset 43 = .ok (.getfield 24, 3) := by decide +kernel
theorem dX6_reset_46 : decode cX6_reset 46 = .ok (.iload_n 1, 1) := by decide +kernel
theorem dX6_reset_47 : decode cX6_reset 47 = .ok (.iconst (-1), 1) := by decide +kernel
theorem dX6_reset_48 : decode cX6_reset 48 = .ok (.iastore, 1) := by decide +kernel
theorem dX6_reset_49 : decode cX6_reset 49 = .ok (.aload_n 0, 1) := by decide +kernel
theorem dX6_reset_50 : decode cX6_reset 50 = .ok (.getfield 30, 3) := by decide +kernel
theorem dX6_reset_53 : decode cX6_reset 53 = .ok (.iload_n 1, 1) := by decide +kernel
theorem dX6_reset_54 : decode cX6_reset 54 = .ok (.iconst 0, 1) := by decide +kernel
theorem dX6_reset_55 : decode cX6_reset 55 = .ok (.iastore, 1) := by decide +kernel
theorem dX6_reset_56 : decode cX6_reset 56 = .ok (.aload_n 0, 1) := by decide +kernel
theorem dX6_reset_57 : decode cX6_reset 57 = .ok (.getfield 36, 3) := by decide +kernel
theorem dX6_reset_60 : decode cX6_reset 60 = .ok (.iload_n 1, 1) := by decide +kernel
theorem dX6_reset_61 : decode cX6_reset 61 = .ok (.iconst 0, 1) := by decide +kernel
theorem dX6_reset_62 : decode cX6_reset 62 = .ok (.iastore, 1) := by decide +kernel
theorem dX6_reset_63 : decode cX6_reset 63 = .ok (.aload_n 0, 1) := by decide +kernel
theorem dX6_reset_64 : decode cX6_reset 64 = .ok (.getfield 27, 3) := by decide +kernel
theorem dX6_reset_67 : decode cX6_reset 67 = .ok (.iload_n 1, 1) := by decide +kernel
theorem dX6_reset_68 : decode cX6_reset 68 = .ok (.iconst 0, 1) := by decide +kernel
theorem dX6_reset_69 : decode cX6_reset 69 = .ok (.iastore, 1) := by decide +kernel
theorem dX6_reset_70 : decode cX6_reset 70 = .ok (.iload_n 2, 1) := by decide +kernel
theorem dX6_reset_71 : decode cX6_reset 71 = .ok (.ireturn, 1) := by decide +kernel
theorem dX6_offline_0 : decode cX6_offline 0 = .ok (.aload_n 0, 1) := by decide +kernel
theorem dX6_offline_1 : decode cX6_offline 1 = .ok (.iconst 0, 1) := by decide +kernel
theorem dX6_offline_2 : decode cX6_offline 2 = .ok (.putfield 72, 3) := by decide +kernel
theorem dX6_offline_5 : decode cX6_offline 5 = .ok (.iload_n 1, 1) := by decide +kernel
theorem dX6_offline_6 : decode cX6_offline 6 = .ok (.invokestatic 171, 3) := by decide +kernel
theorem dX6_offline_9 : decode cX6_offline 9 = .ok (.ifCond .eq 33, 3) := by decide +kernel
theorem dX6_offline_12 : decode cX6_offline 12 = .ok (.iload_n 2, 1) := by decide +kernel
theorem dX6_offline_13 : decode cX6_offline 13 = .ok (.iconst 0, 1) := by decide +kernel
theorem dX6_offline_14 : decode cX6_offline 14 = .ok (.iconst 1, 1) := by decide +kernel
theorem dX6_offline_15 : decode cX6_offline 15 = .ok (.invokestatic 76, 3) := by decide +kernel
theorem dX6_offline_18 : decode cX6_offline 18 = .ok (.ifCond .eq 24, 3) := by decide +kernel
theorem dX6_offline_21 : decode cX6_offline 21 = .ok (.iload_n 3, 1) := by decide +kernel
theorem dX6_offline_22 : decode cX6_offline 22 = .ok (.iconst 0, 1) := by decide +kernel
theorem dX6_offline_23 : decode cX6_offline 23 = .ok (.bipush 29, 2) := by decide +kernel
theorem dX6_offline_25 : decode cX6_offline 25 = .ok (.invokestatic 76, 3) := by decide +kernel
theorem dX6_offline_28 : decode cX6_offline 28 = .ok (.ifCond .eq 14, 3) := by decide +kernel
theorem dX6_offline_31 : decode cX6_offline 31 = .ok (.iload 4, 2) := by decide +kernel
theorem dX6_offline_33 : decode cX6_offline 33 = .ok (.iconst 0, 1) := by decide +kernel
theorem dX6_offline_34 : decode cX6_offline 34 = .ok (.bipush 29, 2) := by decide +kernel
theorem dX6_offline_36 : decode cX6_offline 36 = .ok (.invokestatic 76, 3) := by decide +kernel
theorem dX6_offline_39 : decode cX6_offline 39 = .ok (.ifCond .ne 5, 3) := by decide +kernel
theorem dX6_offline_42 : decode cX6_offline 42 = .ok (.iconst (-1), 1) := by decide +kernel
theorem dX6_offline_43 : decode cX6_offline 43 = .ok (.ireturn, 1) := by decide +kernel
theorem dX6_offline_44 : decode cX6_offline 44 = .ok (.aload_n 0, 1) := by decide +kernel
theorem dX6_offline_45 : decode cX6_offline 45 = .ok (.getfield 42, 3) := by decide +kernel
theorem dX6_offline_48 : decode cX6_offline 48 = .ok (.iload_n 1, 1) := by decide +kernel
theorem dX6_offline_49 : decode cX6_offline 49 = .ok (.iaload, 1) := by decide +kernel
theorem dX6_offline_50 : decode cX6_offline 50 = .ok (.bipush 20, 2) := by decide +kernel
theorem dX6_offline_52 : decode cX6_offline 52 = .ok (.if_icmp .ne 6, 3) := by decide +kernel
theorem dX6_offline_55 : decode cX6_offline 55 = .ok (.bipush (-2), 2) := by decide +kernel
theorem dX6_offline_57 : decode cX6_offline 57 = .ok (.ireturn, 1) := by decide +kernel
theorem dX6_offline_58 : decode cX6_offline 58 = .ok (.bipush 20, 2) := by decide +kernel
theorem dX6_offline_60 : decode cX6_offline 60 = .ok (.iload_n 1, 1) := by decide +kernel
theorem dX6_offline_61 : decode cX6_offline 61 = .ok (.imul, 1) := by decide +kernel
theorem dX6_offline_62 : decode cX6_offline 62 = .ok (.aload_n 0, 1) := by decide +kernel
theorem dX6_offline_63 : decode cX6_offline 63 = .ok (.getfield 42, 3) := by decide +kernel
theorem dX6_offline_66 : decode cX6_offline 66 = .ok (.iload_n 1, 1) := by decide +kernel
theorem dX6_offline_67 : decode cX6_offline 67 = .ok (.iaload, 1) := by decide +kernel
theorem dX6_offline_68 : decode cX6_offline 68 = .ok (.iadd, 1) := by decide +kernel
theorem dX6_offline_69 : decode cX6_offline 69 = .ok (.istore 5, 2) := by decide +kernel
theorem dX6_offline_71 : decode cX6_offline 71 = .ok (.aload_n 0, 1) := by decide +kernel
theorem dX6_offline_72 : decode cX6_offline 72 = .ok (.getfield 45, 3) := by decide +kernel
theorem dX6_offline_75 : decode cX6_offline 75 = .ok (.iload 5, 2) := by decide +kernel
theorem dX6_offline_77 : decode cX6_offline 77 = .ok (.iload_n 2, 1) := by decide +kernel
theorem dX6_offline_78 : decode cX6_offline 78 = .ok (.iastore, 1) := by decide +kernel
theorem dX6_offline_79 : decode cX6_offline 79 = .ok (.aload_n 0, 1) := by decide +kernel
theorem dX6_offline_80 : decode cX6_offline 80 = .ok (.getfield 48, 3) := by decide +kernel
theorem dX6_offline_83 : decode cX6_offline 83 = .ok (.iload 5, 2) := by decide +kernel
theorem dX6_offline_85 : decode cX6_offline 85 = .ok (.iload_n 3, 1) := by decide +kernel
theorem dX6_offline_86 : decode cX6_offline 86 = .ok (.iastore, 1) := by decide +kernel
theorem dX6_offline_87 : decode cX6_offline 87 = .ok (.aload_n 0, 1) := by decide +kernel
theorem dX6_offline_88 : decode cX6_offline 88 = .ok (.getfield 51, 3) := by decide +kernel
theorem dX6_offline_91 : decode cX6_offline 91 = .ok (.iload 5, 2) := by decide +kernel
theorem dX6_offline_93 : decode cX6_offline 93 = .ok (.iload 4, 2) := by decide +kernel
theorem dX6_offline_95 : decode cX6_offline 95 = .ok (.iastore, 1) := by decide +kernel
theorem dX6_offline_96 : decode cX6_offline 96 = .ok (.aload_n 0, 1) := by decide +kernel
theorem dX6_offline_97 : decode cX6_offline 97 = .ok (.getfield 42, 3) := by decide +kernel
theorem dX6_offline_100 : decode cX6_offline 100 = .ok (.iload_n 1, 1) := by decide +kernel
theorem dX6_offline_101 : decode cX6_offline 101 = .ok (.dup2, 1) := by decide +kernel
theorem dX6_offline_102 : decode cX6_offline 102 = .ok (.iaload, 1) := by decide +kernel
theorem dX6_offline_103 : decode cX6_offline 103 = .ok (.iconst 1, 1) := by decide +kernel
theorem dX6_offline_104 : decode cX6_offline 104 = .ok (.iadd, 1) := by decide +kernel
theorem dX6_offline_105 : decode cX6_offline 105 = .ok (.iastore, 1) := by decide +kernel
theorem dX6_offline_106 : decode cX6_offline 106 = .ok (.aload_n 0, 1) := by decide +kernel
theorem dX6_offline_107 : decode cX6_offline 107 = .ok (.getfield 42, 3) := by decide +kernel
theorem dX6_offline_110 : decode cX6_offline 110 = .ok (.iload_n 1, 1) := by decide +kernel
theorem dX6_offline_111 : decode cX6_offline 111 = .ok (.iaload, 1) := by decide +kernel
theorem dX6_offline_112 : decode cX6_offline 112 = .ok (.ireturn, 1) := by decide +kernel
theorem dX6_join_0 : decode cX6_join 0 = .ok (.aload_n 0, 1) := by decide +kernel
theorem dX6_join_1 : decode cX6_join 1 = .ok (.iconst 0, 1) := by decide +kernel
theorem dX6_join_2 : decode cX6_join 2 = .ok (.putfield 72, 3) := by decide +kernel
theorem dX6_join_5 : decode cX6_join 5 = .ok (.iload_n 1, 1) := by decide +kernel
theorem dX6_join_6 : decode cX6_join 6 = .ok (.invokestatic 171, 3) := by decide +kernel
theorem dX6_join_9 : decode cX6_join 9 = .ok (.ifCond .ne 5, 3) := by decide +kernel
theorem dX6_join_12 : decode cX6_join 12 = .ok (.iconst (-1), 1) := by decide +kernel
theorem dX6_join_13 : decode cX6_join 13 = .ok (.ireturn, 1) := by decide +kernel
theorem dX6_join_14 : decode cX6_join 14 = .ok (.iconst 0, 1) := by decide +kernel
theorem dX6_join_15 : decode cX6_join 15 = .ok (.istore_n 2, 1) := by decide +kernel
theorem dX6_join_16 : decode cX6_join 16 = .ok (.bipush 20, 2) := by decide +kernel
theorem dX6_join_18 : decode cX6_join 18 = .ok (.iload_n 1, 1) := by decide +kernel
theorem dX6_join_19 : decode cX6_join 19 = .ok (.imul, 1) := by decide +kernel
theorem dX6_join_20 : decode cX6_join 20 = .ok (.istore_n 3, 1) := by decide +kernel
theorem dX6_join_21 : decode cX6_join 21 = .ok (.iload_n 3, 1) := by decide +kernel
theorem dX6_join_22 : decode cX6_join 22 = .ok (.bipush 20, 2) := by decide +kernel
theorem dX6_join_24 : decode cX6_join 24 = .ok (.iload_n 1, 1) := by decide +kernel
theorem dX6_join_25 : decode cX6_join 25 = .ok (.imul, 1) := by decide +kernel
theorem dX6_join_26 : decode cX6_join 26 = .ok (.aload_n 0, 1) := by decide +kernel
theorem dX6_join_27 : decode cX6_join 27 = .ok (.getfield 42, 3) := by decide +kernel
theorem dX6_join_30 : decode cX6_join 30 = .ok (.iload_n 1, 1) := by decide +kernel
theorem dX6_join_31 : decode cX6_join 31 = .ok (.iaload, 1) := by decide +kernel
theorem dX6_join_32 : decode cX6_join 32 = .ok (.iadd, 1) := by decide +kernel
theorem dX6_join_33 : decode cX6_join 33 = .ok (.if_icmp .ge 75, 3) := by decide +kernel
theorem dX6_join_36 : decode cX6_join 36 = .ok (.aload_n 0, 1) := by decide +kernel
theorem dX6_join_37 : decode cX6_join 37 = .ok (.aload_n 0, 1) := by decide +kernel
theorem dX6_join_38 : decode cX6_join 38 = .ok (.getfield 48, 3) := by decide +kernel
theorem dX6_join_41 : decode cX6_join 41 = .ok (.iload_n 3, 1) := by decide +kernel
theorem dX6_join_42 : decode cX6_join 42 = .ok (.iaload, 1) := by decide +kernel
theorem dX6_join_43 : decode cX6_join 43 = .ok (.putfield 110, 3) := by decide +kernel
theorem dX6_join_46 : decode cX6_join 46 = .ok (.aload_n 0, 1) := by decide +kernel
theorem dX6_join_47 : decode cX6_join 47 = .ok (.aload_n 0, 1) := by decide +kernel
theorem dX6_join_48 : decode cX6_join 48 = .ok (.getfield 51, 3) := by decide +kernel
theorem dX6_join_51 : decode cX6_join 51 = .ok (.iload_n 3, 1) := by decide +kernel
theorem dX6_join_52 : decode cX6_join 52 = .ok (.iaload, 1) := by decide +kernel
theorem dX6_join_53 : decode cX6_join 53 = .ok (.putfield 104, 3) := by decide +kernel
theorem dX6_join_56 : decode cX6_join 56 = .ok (.aload_n 0, 1) := by decide +kernel
theorem dX6_join_57 : decode cX6_join 57 = .ok (.getfield 45, 3) := by decide +kernel
theorem dX6_join_60 : decode cX6_join 60 = .ok (.iload_n 3, 1) := by decide +kernel
theorem dX6_join_61 : decode cX6_join 61 = .ok (.iaload, 1) := by decide +kernel
theorem dX6_join_62 : decode cX6_join 62 = .ok (.ifCond .ne 12, 3) := by decide +kernel
theorem dX6_join_65 : decode cX6_join 65 = .ok (.aload_n 0, 1) := by decide +kernel
theorem dX6_join_66 : decode cX6_join 66 = .ok (.iload_n 1, 1) := by decide +kernel
theorem dX6_join_67 : decode cX6_join 67 = .ok (.iconst (-1), 1) := by decide +kernel
theorem dX6_join_68 : decode cX6_join 68 = .ok (.invokevirtual 162, 3) := by decide +kernel
theorem dX6_join_71 : decode cX6_join 71 = .ok (.goto 9, 3) := by decide +kernel
theorem dX6_join_74 : decode cX6_join 74 = .ok (.aload_n 0, 1) := by decide +kernel
theorem dX6_join_75 : decode cX6_join 75 = .ok (.iload_n 1, 1) := by decide +kernel
theorem dX6_join_76 : decode cX6_join 76 = .ok (.iconst (-1), 1) := by decide +kernel
theorem dX6_join_77 : decode cX6_join 77 = .ok (.invokevirtual 165, 3) := by decide +kernel
theorem dX6_join_80 : decode cX6_join 80 = .ok (.istore 4, 2) := by decide +kernel
theorem dX6_join_82 : decode cX6_join 82 = .ok (.iload_n 2, 1) := by decide +kernel
theorem dX6_join_83 : decode cX6_join 83 = .ok (.aload_n 0, 1) := by decide +kernel
theorem dX6_join_84 : decode cX6_join 84 = .ok (.getfield 148, 3) := by decide +kernel
theorem dX6_join_87 : decode cX6_join 87 = .ok (.ifCond .eq 12, 3) := by decide +kernel
theorem dX6_join_90 : decode cX6_join 90 = .ok (.iload 4, 2) := by decide +kernel
theorem dX6_join_92 : decode cX6_join 92 = .ok (.ifCond .lt 7, 3) := by decide +kernel
theorem dX6_join_95 : decode cX6_join 95 = .ok (.iconst 1, 1) := by decide +kernel
theorem dX6_join_96 : decode cX6_join 96 = .ok (.goto 4, 3) := by decide +kernel
theorem dX6_join_99 : decode cX6_join 99 = .ok (.iconst 0, 1) := by decide +kernel
theorem dX6_join_100 : decode cX6_join 100 = .ok (.iadd, 1) := by decide +kernel
theorem dX6_join_101 : decode cX6_join 101 = .ok (.istore_n 2, 1) := by decide +kernel
theorem dX6_join_102 : decode cX6_join 102 = .ok (.iinc 3 1, 3) := by decide +kernel
theorem dX6_join_105 : decode cX6_join 105 = .ok (.goto (-84), 3) := by decide +kernel
theorem dX6_join_108 : decode cX6_join 108 = .ok (.aload_n 0, 1) := by decide +kernel
theorem dX6_join_109 : decode cX6_join 109 = .ok (.getfield 42, 3) := by decide +kernel
theorem dX6_join_112 : decode cX6_join 112 = .ok (.iload_n 1, 1) := by decide +kernel
theorem dX6_join_113 : decode cX6_join 113 = .ok (.iconst 0, 1) := by decide +kernel
theorem dX6_join_114 : decode cX6_join 114 = .ok (.iastore, 1) := by decide +kernel
theorem dX6_join_115 : decode cX6_join 115 = .ok (.iload_n 2, 1) := by decide +kernel
theorem dX6_join_116 : decode cX6_join 116 = .ok (.ireturn, 1) := by decide +kernel
theorem dX6_owes_0 : decode cX6_owes 0 = .ok (.aload_n 0, 1) := by decide +kernel
theorem dX6_owes_1 : decode cX6_owes 1 = .ok (.iconst 0, 1) := by decide +kernel
theorem dX6_owes_2 : decode cX6_owes 2 = .ok (.putfield 72, 3) := by decide +kernel
theorem dX6_owes_5 : decode cX6_owes 5 = .ok (.iload_n 1, 1) := by decide +kernel
theorem dX6_owes_6 : decode cX6_owes 6 = .ok (.iconst 0, 1) := by decide +kernel
theorem dX6_owes_7 : decode cX6_owes 7 = .ok (.bipush 29, 2) := by decide +kernel
theorem dX6_owes_9 : decode cX6_owes 9 = .ok (.invokestatic 76, 3) := by decide +kernel
theorem dX6_owes_12 : decode cX6_owes 12 = .ok (.ifCond .eq 13, 3) := by decide +kernel
theorem dX6_owes_15 : decode cX6_owes 15 = .ok (.iload_n 2, 1) := by decide +kernel
theorem dX6_owes_16 : decode cX6_owes 16 = .ok (.iconst 0, 1) := by decide +kernel
theorem dX6_owes_17 : decode cX6_owes 17 = .ok (.ldc 176, 2) := by decide +kernel
theorem dX6_owes_19 : decode cX6_owes 19 = .ok (.invokestatic 76, 3) := by decide +kernel
theorem dX6_owes_22 : decode cX6_owes 22 = .ok (.ifCond .ne 5, 3) := by decide +kernel
theorem dX6_owes_25 : decode cX6_owes 25 = .ok (.iconst (-1), 1) := by decide +kernel
theorem dX6_owes_26 : decode cX6_owes 26 = .ok (.ireturn, 1) := by decide +kernel
theorem dX6_owes_27 : decode cX6_owes 27 = .ok (.aload_n 0, 1) := by decide +kernel
theorem dX6_owes_28 : decode cX6_owes 28 = .ok (.getfield 54, 3) := by decide +kernel
theorem dX6_owes_31 : decode cX6_owes 31 = .ok (.iload_n 1, 1) := by decide +kernel
theorem dX6_owes_32 : decode cX6_owes 32 = .ok (.iaload, 1) := by decide +kernel
theorem dX6_owes_33 : decode cX6_owes 33 = .ok (.istore_n 3, 1) := by decide +kernel
theorem dX6_owes_34 : decode cX6_owes 34 = .ok (.aload_n 0, 1) := by decide +kernel
theorem dX6_owes_35 : decode cX6_owes 35 = .ok (.getfield 54, 3) := by decide +kernel
theorem dX6_owes_38 : decode cX6_owes 38 = .ok (.iload_n 1, 1) := by decide +kernel
theorem dX6_owes_39 : decode cX6_owes 39 = .ok (.iload_n 2, 1) := by decide +kernel
theorem dX6_owes_40 : decode cX6_owes 40 = .ok (.iastore, 1) := by decide +kernel
theorem dX6_owes_41 : decode cX6_owes 41 = .ok (.iload_n 3, 1) := by decide +kernel
theorem dX6_owes_42 : decode cX6_owes 42 = .ok (.ireturn, 1) := by decide +kernel
theorem dX6_acts_0 : decode cX6_acts 0 = .ok (.aload_n 0, 1) := by decide +kernel
theorem dX6_acts_1 : decode cX6_acts 1 = .ok (.iconst 0, 1) := by decide +kernel
theorem dX6_acts_2 : decode cX6_acts 2 = .ok (.putfield 72, 3) := by decide +kernel
theorem dX6_acts_5 : decode cX6_acts 5 = .ok (.aload_n 0, 1) := by decide +kernel
theorem dX6_acts_6 : decode cX6_acts 6 = .ok (.getfield 152, 3) := by decide +kernel
theorem dX6_acts_9 : decode cX6_acts 9 = .ok (.ireturn, 1) := by decide +kernel
theorem dX6_act_0 : decode cX6_act 0 = .ok (.aload_n 0, 1) := by decide +kernel
theorem dX6_act_1 : decode cX6_act 1 = .ok (.iconst 0, 1) := by decide +kernel
theorem dX6_act_2 : decode cX6_act 2 = .ok (.putfield 72, 3) := by decide +kernel
theorem dX6_act_5 : decode cX6_act 5 = .ok (.iload_n 1, 1) := by decide +kernel
theorem dX6_act_6 : decode cX6_act 6 = .ok (.iconst 0, 1) := by decide +kernel
theorem dX6_act_7 : decode cX6_act 7 = .ok (.aload_n 0, 1) := by decide +kernel
theorem dX6_act_8 : decode cX6_act 8 = .ok (.getfield 152, 3) := by decide +kernel
theorem dX6_act_11 : decode cX6_act 11 = .ok (.iconst 1, 1) := by decide +kernel
theorem dX6_act_12 : decode cX6_act 12 = .ok (.isub, 1) := by decide +kernel
theorem dX6_act_13 : decode cX6_act 13 = .ok (.invokestatic 76, 3) := by decide +kernel
theorem dX6_act_16 : decode cX6_act 16 = .ok (.ifCond .eq 32, 3) := by decide +kernel
theorem dX6_act_19 : decode cX6_act 19 = .ok (.iload_n 1, 1) := by decide +kernel
theorem dX6_act_20 : decode cX6_act 20 = .ok (.sipush 1000, 3) := by decide +kernel
theorem dX6_act_23 : decode cX6_act 23 = .ok (.if_icmp .ge 25, 3) := by decide +kernel
theorem dX6_act_26 : decode cX6_act 26 = .ok (.iload_n 2, 1) := by decide +kernel
theorem dX6_act_27 : decode cX6_act 27 = .ok (.iconst 0, 1) := by decide +kernel
theorem dX6_act_28 : decode cX6_act 28 = .ok (.iconst 4, 1) := by decide +kernel
theorem dX6_act_29 : decode cX6_act 29 = .ok (.invokestatic 76, 3) := by decide +kernel
theorem dX6_act_32 : decode cX6_act 32 = .ok (.ifCond .eq 16, 3) := by decide +kernel
theorem dX6_act_35 : decode cX6_act 35 = .ok (.aload_n 0, 1) := by decide +kernel
theorem dX6_act_36 : decode cX6_act 36 = .ok (.getfield 69, 3) := by decide +kernel
theorem dX6_act_39 : decode cX6_act 39 = .ok (.iconst 5, 1) := by decide +kernel
theorem dX6_act_40 : decode cX6_act 40 = .ok (.iload_n 1, 1) := by decide +kernel
theorem dX6_act_41 : decode cX6_act 41 = .ok (.imul, 1) := by decide +kernel
theorem dX6_act_42 : decode cX6_act 42 = .ok (.iload_n 2, 1) := by decide +kernel
theorem dX6_act_43 : decode cX6_act 43 = .ok (.iadd, 1) := by decide +kernel
theorem dX6_act_44 : decode cX6_act 44 = .ok (.iaload, 1) := by decide +kernel
theorem dX6_act_45 : decode cX6_act 45 = .ok (.goto 4, 3) := by decide +kernel
theorem dX6_act_48 : decode cX6_act 48 = .ok (.iconst (-1), 1) := by decide +kernel
theorem dX6_act_49 : decode cX6_act 49 = .ok (.ireturn, 1) := by decide +kernel
theorem dX6_sum_0 : decode cX6_sum 0 = .ok (.aload_n 0, 1) := by decide +kernel
theorem dX6_sum_1 : decode cX6_sum 1 = .ok (.iconst 0, 1) := by decide +kernel
theorem dX6_sum_2 : decode cX6_sum 2 = .ok (.putfield 72, 3) := by decide +kernel
theorem dX6_sum_5 : decode cX6_sum 5 = .ok (.iload_n 1, 1) := by decide +kernel
theorem dX6_sum_6 : decode cX6_sum 6 = .ok (.ifCond .ge 15, 3) := by decide +kernel
theorem dX6_sum_9 : decode cX6_sum 9 = .ok (.aload_n 0, 1) := by decide +kernel
theorem dX6_sum_10 : decode cX6_sum 10 = .ok (.getfield 177, 3) := by decide +kernel
theorem dX6_sum_13 : decode cX6_sum 13 = .ok (.istore_n 2, 1) := by decide +kernel
theorem dX6_sum_14 : decode cX6_sum 14 = .ok (.aload_n 0, 1) := by decide +kernel
theorem dX6_sum_15 : decode cX6_sum 15 = .ok (.iconst 0, 1) := by decide +kernel
theorem dX6_sum_16 : decode cX6_sum 16 = .ok (.putfield 177, 3) := by decide +kernel
theorem dX6_sum_19 : decode cX6_sum 19 = .ok (.iload_n 2, 1) := by decide +kernel
theorem dX6_sum_20 : decode cX6_sum 20 = .ok (.ireturn, 1) := by decide +kernel
theorem dX6_sum_21 : decode cX6_sum 21 = .ok (.aload_n 0, 1) := by decide +kernel
theorem dX6_sum_22 : decode cX6_sum 22 = .ok (.aload_n 0, 1) := by decide +kernel
theorem dX6_sum_23 : decode cX6_sum 23 = .ok (.getfield 177, 3) := by decide +kernel
theorem dX6_sum_26 : decode cX6_sum 26 = .ok (.iload_n 1, 1) := by decide +kernel
theorem dX6_sum_27 : decode cX6_sum 27 = .ok (.sipush 255, 3) := by decide +kernel
theorem dX6_sum_30 : decode cX6_sum 30 = .ok (.iand, 1) := by decide +kernel
theorem dX6_sum_31 : decode cX6_sum 31 = .ok (.iadd, 1) := by decide +kernel
theorem dX6_sum_32 : decode cX6_sum 32 = .ok (.sipush 256, 3) := by decide +kernel
theorem dX6_sum_35 : decode cX6_sum 35 = .ok (.irem, 1) := by decide +kernel
theorem dX6_sum_36 : decode cX6_sum 36 = .ok (.putfield 177, 3) := by decide +kernel
theorem dX6_sum_39 : decode cX6_sum 39 = .ok (.aload_n 0, 1) := by decide +kernel
theorem dX6_sum_40 : decode cX6_sum 40 = .ok (.getfield 177, 3) := by decide +kernel
theorem dX6_sum_43 : decode cX6_sum 43 = .ok (.ireturn, 1) := by decide +kernel
theorem dX6_state_0 : decode cX6_state 0 = .ok (.aload_n 0, 1) := by decide +kernel
theorem dX6_state_1 : decode cX6_state 1 = .ok (.iconst 0, 1) := by decide +kernel
theorem dX6_state_2 : decode cX6_state 2 = .ok (.putfield 72, 3) := by decide +kernel
theorem dX6_state_5 : decode cX6_state 5 = .ok (.iload_n 1, 1) := by decide +kernel
theorem dX6_state_6 : decode cX6_state 6 = .ok (.invokestatic 171, 3) := by decide +kernel
theorem dX6_state_9 : decode cX6_state 9 = .ok (.ifCond .ne 5, 3) := by decide +kernel
theorem dX6_state_12 : decode cX6_state 12 = .ok (.iconst (-1), 1) := by decide +kernel
theorem dX6_state_13 : decode cX6_state 13 = .ok (.ireturn, 1) := by decide +kernel
theorem dX6_state_14 : decode cX6_state 14 = .ok (.iload_n 2, 1) := by decide +kernel
theorem dX6_state_15 : decode cX6_state 15 = .ok (.tableswitch 84 0 4 #[33, 40, 55, 70, 77], 33) := by decide +kernel
theorem dX6_state_48 : decode cX6_state 48 = .ok (.aload_n 0, 1) := by decide +kernel
theorem dX6_state_49 : decode cX6_state 49 = .ok (.getfield 24, 3) := by decide +kernel
theorem dX6_state_52 : decode cX6_state 52 = .ok (.iload_n 1, 1) := by decide +kernel
theorem dX6_state_53 : decode cX6_state 53 = .ok (.iaload, 1) := by decide +kernel
theorem dX6_state_54 : decode cX6_state 54 = .ok (.ireturn, 1) := by decide +kernel
theorem dX6_state_55 : decode cX6_state 55 = .ok (.aload_n 0, 1) := by decide +kernel
theorem dX6_state_56 : decode cX6_state 56 = .ok (.getfield 21, 3) := by decide +kernel
theorem dX6_state_59 : decode cX6_state 59 = .ok (.iload_n 1, 1) := by decide +kernel
theorem dX6_state_60 : decode cX6_state 60 = .ok (.baload, 1) := by decide +kernel
theorem dX6_state_61 : decode cX6_state 61 = .ok (.ifCond .eq 7, 3) := by decide +kernel
theorem dX6_state_64 : decode cX6_state 64 = .ok (.iconst 1, 1) := by decide +kernel
theorem dX6_state_65 : decode cX6_state 65 = .ok (.goto 4, 3) := by decide +kernel
theorem dX6_state_68 : decode cX6_state 68 = .ok (.iconst 0, 1) := by decide +kernel
theorem dX6_state_69 : decode cX6_state 69 = .ok (.ireturn, 1) := by decide +kernel
theorem dX6_state_70 : decode cX6_state 70 = .ok (.aload_n 0, 1) := by decide +kernel
theorem dX6_state_71 : decode cX6_state 71 = .ok (.getfield 17, 3) := by decide +kernel
theorem dX6_state_74 : decode cX6_state 74 = .ok (.iload_n 1, 1) := by decide +kernel
theorem dX6_state_75 : decode cX6_state 75 = .ok (.baload, 1) := by decide +kernel
theorem dX6_state_76 : decode cX6_state 76 = .ok (.ifCond .eq 7, 3) := by decide +kernel
theorem dX6_state_79 : decode cX6_state 79 = .ok (.iconst 1, 1) := by decide +kernel
theorem dX6_state_80 : decode cX6_state 80 = .ok (.goto 4, 3) := by decide +kernel
theorem dX6_state_83 : decode cX6_state 83 = .ok (.iconst 0, 1) := by decide +kernel
theorem dX6_state_84 : decode cX6_state 84 = .ok (.ireturn, 1) := by decide +kernel
theorem dX6_state_85 : decode cX6_state 85 = .ok (.aload_n 0, 1) := by decide +kernel
theorem dX6_state_86 : decode cX6_state 86 = .ok (.getfield 42, 3) := by decide +kernel
theorem dX6_state_89 : decode cX6_state 89 = .ok (.iload_n 1, 1) := by decide +kernel
theorem dX6_state_90 : decode cX6_state 90 = .ok (.iaload, 1) := by decide +kernel
theorem dX6_state_91 : decode cX6_state 91 = .ok (.ireturn, 1) := by decide +kernel
theorem dX6_state_92 : decode cX6_state 92 = .ok (.aload_n 0, 1) := by decide +kernel
theorem dX6_state_93 : decode cX6_state 93 = .ok (.getfield 27, 3) := by decide +kernel
theorem dX6_state_96 : decode cX6_state 96 = .ok (.iload_n 1, 1) := by decide +kernel
theorem dX6_state_97 : decode cX6_state 97 = .ok (.iaload, 1) := by decide +kernel
theorem dX6_state_98 : decode cX6_state 98 = .ok (.ireturn, 1) := by decide +kernel
theorem dX6_state_99 : decode cX6_state 99 = .ok (.iconst (-1), 1) := by decide +kernel
theorem dX6_state_100 : decode cX6_state 100 = .ok (.ireturn, 1) := by decide +kernel
theorem dX6_waits_0 : decode cX6_waits 0 = .ok (.aload_n 0, 1) := by decide +kernel
theorem dX6_waits_1 : decode cX6_waits 1 = .ok (.iconst 0, 1) := by decide +kernel
theorem dX6_waits_2 : decode cX6_waits 2 = .ok (.putfield 72, 3) := by decide +kernel
theorem dX6_waits_5 : decode cX6_waits 5 = .ok (.iload_n 1, 1) := by decide +kernel
theorem dX6_waits_6 : decode cX6_waits 6 = .ok (.iconst 0, 1) := by decide +kernel
theorem dX6_waits_7 : decode cX6_waits 7 = .ok (.bipush 29, 2) := by decide +kernel
theorem dX6_waits_9 : decode cX6_waits 9 = .ok (.invokestatic 76, 3) := by decide +kernel
theorem dX6_waits_12 : decode cX6_waits 12 = .ok (.ifCond .eq 33, 3) := by decide +kernel
theorem dX6_waits_15 : decode cX6_waits 15 = .ok (.iload_n 2, 1) := by decide +kernel
theorem dX6_waits_16 : decode cX6_waits 16 = .ok (.iconst 0, 1) := by decide +kernel
theorem dX6_waits_17 : decode cX6_waits 17 = .ok (.aload_n 0, 1) := by decide +kernel
theorem dX6_waits_18 : decode cX6_waits 18 = .ok (.getfield 63, 3) := by decide +kernel
theorem dX6_waits_21 : decode cX6_waits 21 = .ok (.iload_n 1, 1) := by decide +kernel
theorem dX6_waits_22 : decode cX6_waits 22 = .ok (.iaload, 1) := by decide +kernel
theorem dX6_waits_23 : decode cX6_waits 23 = .ok (.iconst 1, 1) := by decide +kernel
theorem dX6_waits_24 : decode cX6_waits 24 = .ok (.isub, 1) := by decide +kernel
theorem dX6_waits_25 : decode cX6_waits 25 = .ok (.invokestatic 76, 3) := by decide +kernel
theorem dX6_waits_28 : decode cX6_waits 28 = .ok (.ifCond .eq 17, 3) := by decide +kernel
theorem dX6_waits_31 : decode cX6_waits 31 = .ok (.aload_n 0, 1) := by decide +kernel
theorem dX6_waits_32 : decode cX6_waits 32 = .ok (.getfield 66, 3) := by decide +kernel
theorem dX6_waits_35 : decode cX6_waits 35 = .ok (.bipush 30, 2) := by decide +kernel
theorem dX6_waits_37 : decode cX6_waits 37 = .ok (.iload_n 1, 1) := by decide +kernel
theorem dX6_waits_38 : decode cX6_waits 38 = .ok (.imul, 1) := by decide +kernel
theorem dX6_waits_39 : decode cX6_waits 39 = .ok (.iload_n 2, 1) := by decide +kernel
theorem dX6_waits_40 : decode cX6_waits 40 = .ok (.iadd, 1) := by decide +kernel
theorem dX6_waits_41 : decode cX6_waits 41 = .ok (.iaload, 1) := by decide +kernel
theorem dX6_waits_42 : decode cX6_waits 42 = .ok (.goto 4, 3) := by decide +kernel
theorem dX6_waits_45 : decode cX6_waits 45 = .ok (.iconst (-1), 1) := by decide +kernel
theorem dX6_waits_46 : decode cX6_waits 46 = .ok (.ireturn, 1) := by decide +kernel
end
section
theorem dJx00060_init_a7421_0 : decode cJx00060_init_a7421 0 = .ok (.aload_n 0, 1) := by decide +kernel
theorem dJx00060_init_a7421_1 : decode cJx00060_init_a7421 1 = .ok (.aload_n 1, 1) := by decide +kernel
theorem dJx00060_init_a7421_2 : decode cJx00060_init_a7421 2 = .ok (.invokespecial 7, 3) := by decide +kernel
theorem dJx00060_init_a7421_5 : decode cJx00060_init_a7421 5 = .ok (.return_, 1) := by decide +kernel
theorem dJ9_min_7cf53_0 : decode cJ9_min_7cf53 0 = .ok (.iload_n 0, 1) := by decide +kernel
theorem dJ9_min_7cf53_1 : decode cJ9_min_7cf53 1 = .ok (.iload_n 1, 1) := by decide +kernel
theorem dJ9_min_7cf53_2 : decode cJ9_min_7cf53 2 = .ok (.if_icmp .gt 7, 3) := by decide +kernel
theorem dJ9_min_7cf53_5 : decode cJ9_min_7cf53 5 = .ok (.iload_n 0, 1) := by decide +kernel
theorem dJ9_min_7cf53_6 : decode cJ9_min_7cf53 6 = .ok (.goto 4, 3) := by decide +kernel
theorem dJ9_min_7cf53_9 : decode cJ9_min_7cf53 9 = .ok (.iload_n 1, 1) := by decide +kernel
theorem dJ9_min_7cf53_10 : decode cJ9_min_7cf53 10 = .ok (.ireturn, 1) := by decide +kernel
theorem dJ0_length_8abf5_0 : decode cJ0_length_8abf5 0 = .ok (.aload_n 0, 1) := by decide +kernel
theorem dJ0_length_8abf5_1 : decode cJ0_length_8abf5 1 = .ok (.getfield 9, 3) := by decide +kernel
theorem dJ0_length_8abf5_4 : decode cJ0_length_8abf5 4 = .ok (.arraylength, 1) := by decide +kernel
theorem dJ0_length_8abf5_5 : decode cJ0_length_8abf5 5 = .ok (.aload_n 0, 1) := by decide +kernel
theorem dJ0_length_8abf5_6 : decode cJ0_length_8abf5 6 = .ok (.invokevirtual 335, 3) := by decide +kernel
theorem dJ0_length_8abf5_9 : decode cJ0_length_8abf5 9 = .ok (.ishr, 1) := by decide +kernel
theorem dJ0_length_8abf5_10 : decode cJ0_length_8abf5 10 = .ok (.ireturn, 1) := by decide +kernel
theorem dJ0_charAt_5068e_0 : decode cJ0_charAt_5068e 0 = .ok (.aload_n 0, 1) := by decide +kernel
theorem dJ0_charAt_5068e_1 : decode cJ0_charAt_5068e 1 = .ok (.invokevirtual 492, 3) := by decide +kernel
theorem dJ0_charAt_5068e_4 : decode cJ0_charAt_5068e 4 = .ok (.ifCond .eq 12, 3) := by decide +kernel
theorem dJ0_charAt_5068e_7 : decode cJ0_charAt_5068e 7 = .ok (.aload_n 0, 1) := by decide +kernel
theorem dJ0_charAt_5068e_8 : decode cJ0_charAt_5068e 8 = .ok (.getfield 9, 3) := by decide +kernel
theorem dJ0_charAt_5068e_11 : decode cJ0_charAt_5068e 11 = .ok (.iload_n 1, 1) := by decide +kernel
theorem dJ0_charAt_5068e_12 : decode cJ0_charAt_5068e 12 = .ok (.invokestatic 495, 3) := by decide +kernel
theorem dJ0_charAt_5068e_15 : decode cJ0_charAt_5068e 15 = .ok (.ireturn, 1) := by decide +kernel
theorem dJ0_charAt_5068e_16 : decode cJ0_charAt_5068e 16 = .ok (.aload_n 0, 1) := by decide +kernel
theorem dJ0_charAt_5068e_17 : decode cJ0_charAt_5068e 17 = .ok (.getfield 9, 3) := by decide +kernel
theorem dJ0_charAt_5068e_20 : decode cJ0_charAt_5068e 20 = .ok (.iload_n 1, 1) := by decide +kernel
theorem dJ0_charAt_5068e_21 : decode cJ0_charAt_5068e 21 = .ok (.invokestatic 498, 3) := by decide +kernel
theorem dJ0_charAt_5068e_24 : decode cJ0_charAt_5068e 24 = .ok (.ireturn, 1) := by decide +kernel
theorem dJ0_coder_7d493_0 : decode cJ0_coder_7d493 0 = .ok (.getstatic 38, 3) := by decide +kernel
theorem dJ0_coder_7d493_3 : decode cJ0_coder_7d493 3 = .ok (.ifCond .eq 10, 3) := by decide +kernel
theorem dJ0_coder_7d493_6 : decode cJ0_coder_7d493 6 = .ok (.aload_n 0, 1) := by decide +kernel
theorem dJ0_coder_7d493_7 : decode cJ0_coder_7d493 7 = .ok (.getfield 15, 3) := by decide +kernel
theorem dJ0_coder_7d493_10 : decode cJ0_coder_7d493 10 = .ok (.goto 4, 3) := by decide +kernel
theorem dJ0_coder_7d493_13 : decode cJ0_coder_7d493 13 = .ok (.iconst 1, 1) := by decide +kernel
theorem dJ0_coder_7d493_14 : decode cJ0_coder_7d493 14 = .ok (.ireturn, 1) := by decide +kernel
theorem dJ0_isLatin1_aae02_0 : decode cJ0_isLatin1_aae02 0 = .ok (.getstatic 38, 3) := by decide +kernel
theorem dJ0_isLatin1_aae02_3 : decode cJ0_isLatin1_aae02 3 = .ok (.ifCond .eq 14, 3) := by decide +kernel
theorem dJ0_isLatin1_aae02_6 : decode cJ0_isLatin1_aae02 6 = .ok (.aload_n 0, 1) := by decide +kernel
theorem dJ0_isLatin1_aae02_7 : decode cJ0_isLatin1_aae02 7 = .ok (.getfield 15, 3) := by decide +kernel
theorem dJ0_isLatin1_aae02_10 : decode cJ0_isLatin1_aae02 10 = .ok (.ifCond .ne 7, 3) := by decide +kernel
theorem dJ0_isLatin1_aae02_13 : decode cJ0_isLatin1_aae02 13 = .ok (.iconst 1, 1) := by decide +kernel
theorem dJ0_isLatin1_aae02_14 : decode cJ0_isLatin1_aae02 14 = .ok (.goto 4, 3) := by decide +kernel
theorem dJ0_isLatin1_aae02_17 : decode cJ0_isLatin1_aae02 17 = .ok (.iconst 0, 1) := by decide +kernel
theorem dJ0_isLatin1_aae02_18 : decode cJ0_isLatin1_aae02 18 = .ok (.ireturn, 1) := by decide +kernel
theorem dJ0_checkIndex_df160_0 : decode cJ0_checkIndex_df160 0 = .ok (.iload_n 0, 1) := by decide +kernel
theorem dJ0_checkIndex_df160_1 : decode cJ0_checkIndex_df160 1 = .ok (.iload_n 1, 1) := by decide +kernel
theorem dJ0_checkIndex_df160_2 : decode cJ0_checkIndex_df160 2 = .ok (.getstatic 1053, 3) := by decide +kernel
theorem dJ0_checkIndex_df160_5 : decode cJ0_checkIndex_df160 5 = .ok (.invokestatic 1059, 3) := by decide +kernel
theorem dJ0_checkIndex_df160_8 : decode cJ0_checkIndex_df160 8 = .ok (.pop, 1) := by decide +kernel
theorem dJ0_checkIndex_df160_9 : decode cJ0_checkIndex_df160 9 = .ok (.return_, 1) := by decide +kernel
theorem dJ1_charAt_3b067_0 : decode cJ1_charAt_3b067 0 = .ok (.iload_n 1, 1) := by decide +kernel
theorem dJ1_charAt_3b067_1 : decode cJ1_charAt_3b067 1 = .ok (.aload_n 0, 1) := by decide +kernel
theorem dJ1_charAt_3b067_2 : decode cJ1_charAt_3b067 2 = .ok (.arraylength, 1) := by decide +kernel
theorem dJ1_charAt_3b067_3 : decode cJ1_charAt_3b067 3 = .ok (.invokestatic 9, 3) := by decide +kernel
theorem dJ1_charAt_3b067_6 : decode cJ1_charAt_3b067 6 = .ok (.aload_n 0, 1) := by decide +kernel
theorem dJ1_charAt_3b067_7 : decode cJ1_charAt_3b067 7 = .ok (.iload_n 1, 1) := by decide +kernel
theorem dJ1_charAt_3b067_8 : decode cJ1_charAt_3b067 8 = .ok (.baload, 1) := by decide +kernel
theorem dJ1_charAt_3b067_9 : decode cJ1_charAt_3b067 9 = .ok (.sipush 255, 3) := by decide +kernel
theorem dJ1_charAt_3b067_12 : decode cJ1_charAt_3b067 12 = .ok (.iand, 1) := by decide +kernel
theorem dJ1_charAt_3b067_13 : decode cJ1_charAt_3b067 13 = .ok (.i2c, 1) := by decide +kernel
theorem dJ1_charAt_3b067_14 : decode cJ1_charAt_3b067 14 = .ok (.ireturn, 1) := by decide +kernel
theorem dJ2_getChar_3b067_0 : decode cJ2_getChar_3b067 0 = .ok (.getstatic 44, 3) := by decide +kernel
theorem dJ2_getChar_3b067_3 : decode cJ2_getChar_3b067 3 = .ok (.ifCond .ne 25, 3) := by decide +kernel
theorem dJ2_getChar_3b067_6 : decode cJ2_getChar_3b067 6 = .ok (.iload_n 1, 1) := by decide +kernel
theorem dJ2_getChar_3b067_7 : decode cJ2_getChar_3b067 7 = .ok (.ifCond .lt 11, 3) := by decide +kernel
theorem dJ2_getChar_3b067_10 : decode cJ2_getChar_3b067 10 = .ok (.iload_n 1, 1) := by decide +kernel
theorem dJ2_getChar_3b067_11 : decode cJ2_getChar_3b067 11 = .ok (.aload_n 0, 1) := by decide +kernel
theorem dJ2_getChar_3b067_12 : decode cJ2_getChar_3b067 12 = .ok (.invokestatic 48, 3) := by decide +kernel
theorem dJ2_getChar_3b067_15 : decode cJ2_getChar_3b067 15 = .ok (.if_icmp .lt 13, 3) := by decide +kernel
theorem dJ2_getChar_3b067_18 : decode cJ2_getChar_3b067 18 = .ok (.new 52, 3) := by decide +kernel
theorem dJ2_getChar_3b067_21 : decode cJ2_getChar_3b067 21 = .ok (.dup, 1) := by decide +kernel
theorem dJ2_getChar_3b067_22 : decode cJ2_getChar_3b067 22 = .ok (.ldc 54, 2) := by decide +kernel
theorem dJ2_getChar_3b067_24 : decode cJ2_getChar_3b067 24 = .ok (.invokespecial 56, 3) := by decide +kernel
theorem dJ2_getChar_3b067_27 : decode cJ2_getChar_3b067 27 = .ok (.athrow, 1) := by decide +kernel
theorem dJ2_getChar_3b067_28 : decode cJ2_getChar_3b067 28 = .ok (.iload_n 1, 1) := by decide +kernel
theorem dJ2_getChar_3b067_29 : decode cJ2_getChar_3b067 29 = .ok (.iconst 1, 1) := by decide +kernel
theorem dJ2_getChar_3b067_30 : decode cJ2_getChar_3b067 30 = .ok (.ishl, 1) := by decide +kernel
theorem dJ2_getChar_3b067_31 : decode cJ2_getChar_3b067 31 = .ok (.istore_n 1, 1) := by decide +kernel
theorem dJ2_getChar_3b067_32 : decode cJ2_getChar_3b067 32 = .ok (.aload_n 0, 1) := by decide +kernel
theorem dJ2_getChar_3b067_33 : decode cJ2_getChar_3b067 33 = .ok (.iload_n 1, 1) := by decide +kernel
theorem dJ2_getChar_3b067_34 : decode cJ2_getChar_3b067 34 = .ok (.iinc 1 1, 3) := by decide +kernel
theorem dJ2_getChar_3b067_37 : decode cJ2_getChar_3b067 37 = .ok (.baload, 1) := by decide +kernel
theorem dJ2_getChar_3b067_38 : decode cJ2_getChar_3b067 38 = .ok (.sipush 255, 3) := by decide +kernel
theorem dJ2_getChar_3b067_41 : decode cJ2_getChar_3b067 41 = .ok (.iand, 1) := by decide +kernel
theorem dJ2_getChar_3b067_42 : decode cJ2_getChar_3b067 42 = .ok (.getstatic 59, 3) := by decide +kernel
theorem dJ2_getChar_3b067_45 : decode cJ2_getChar_3b067 45 = .ok (.ishl, 1) := by decide +kernel
theorem dJ2_getChar_3b067_46 : decode cJ2_getChar_3b067 46 = .ok (.aload_n 0, 1) := by decide +kernel
theorem dJ2_getChar_3b067_47 : decode cJ2_getChar_3b067 47 = .ok (.iload_n 1, 1) := by decide +kernel
theorem dJ2_getChar_3b067_48 : decode cJ2_getChar_3b067 48 = .ok (.baload, 1) := by decide +kernel
theorem dJ2_getChar_3b067_49 : decode cJ2_getChar_3b067 49 = .ok (.sipush 255, 3) := by decide +kernel
theorem dJ2_getChar_3b067_52 : decode cJ2_getChar_3b067 52 = .ok (.iand, 1) := by decide +kernel
theorem dJ2_getChar_3b067_53 : decode cJ2_getChar_3b067 53 = .ok (.getstatic 63, 3) := by decide +kernel
theorem dJ2_getChar_3b067_56 : decode cJ2_getChar_3b067 56 = .ok (.ishl, 1) := by decide +kernel
theorem dJ2_getChar_3b067_57 : decode cJ2_getChar_3b067 57 = .ok (.ior, 1) := by decide +kernel
theorem dJ2_getChar_3b067_58 : decode cJ2_getChar_3b067 58 = .ok (.i2c, 1) := by decide +kernel
theorem dJ2_getChar_3b067_59 : decode cJ2_getChar_3b067 59 = .ok (.ireturn, 1) := by decide +kernel
theorem dJ2_length_9d52b_0 : decode cJ2_length_9d52b 0 = .ok (.aload_n 0, 1) := by decide +kernel
theorem dJ2_length_9d52b_1 : decode cJ2_length_9d52b 1 = .ok (.arraylength, 1) := by decide +kernel
theorem dJ2_length_9d52b_2 : decode cJ2_length_9d52b 2 = .ok (.iconst 1, 1) := by decide +kernel
theorem dJ2_length_9d52b_3 : decode cJ2_length_9d52b 3 = .ok (.ishr, 1) := by decide +kernel
theorem dJ2_length_9d52b_4 : decode cJ2_length_9d52b 4 = .ok (.ireturn, 1) := by decide +kernel
theorem dJ2_charAt_3b067_0 : decode cJ2_charAt_3b067 0 = .ok (.iload_n 1, 1) := by decide +kernel
theorem dJ2_charAt_3b067_1 : decode cJ2_charAt_3b067 1 = .ok (.aload_n 0, 1) := by decide +kernel
theorem dJ2_charAt_3b067_2 : decode cJ2_charAt_3b067 2 = .ok (.invokestatic 67, 3) := by decide +kernel
theorem dJ2_charAt_3b067_5 : decode cJ2_charAt_3b067 5 = .ok (.aload_n 0, 1) := by decide +kernel
theorem dJ2_charAt_3b067_6 : decode cJ2_charAt_3b067 6 = .ok (.iload_n 1, 1) := by decide +kernel
theorem dJ2_charAt_3b067_7 : decode cJ2_charAt_3b067 7 = .ok (.invokestatic 71, 3) := by decide +kernel
theorem dJ2_charAt_3b067_10 : decode cJ2_charAt_3b067 10 = .ok (.ireturn, 1) := by decide +kernel
theorem dJ2_checkIndex_2214a_0 : decode cJ2_checkIndex_2214a 0 = .ok (.iload_n 0, 1) := by decide +kernel
theorem dJ2_checkIndex_2214a_1 : decode cJ2_checkIndex_2214a 1 = .ok (.aload_n 1, 1) := by decide +kernel
theorem dJ2_checkIndex_2214a_2 : decode cJ2_checkIndex_2214a 2 = .ok (.invokestatic 48, 3) := by decide +kernel
theorem dJ2_checkIndex_2214a_5 : decode cJ2_checkIndex_2214a 5 = .ok (.invokestatic 414, 3) := by decide +kernel
theorem dJ2_checkIndex_2214a_8 : decode cJ2_checkIndex_2214a 8 = .ok (.return_, 1) := by decide +kernel
theorem dJ3_checkIndex_8e157_0 : decode cJ3_checkIndex_8e157 0 = .ok (.iload_n 0, 1) := by decide +kernel
theorem dJ3_checkIndex_8e157_1 : decode cJ3_checkIndex_8e157 1 = .ok (.ifCond .lt 8, 3) := by decide +kernel
theorem dJ3_checkIndex_8e157_4 : decode cJ3_checkIndex_8e157 4 = .ok (.iload_n 0, 1) := by decide +kernel
theorem dJ3_checkIndex_8e157_5 : decode cJ3_checkIndex_8e157 5 = .ok (.iload_n 1, 1) := by decide +kernel
theorem dJ3_checkIndex_8e157_6 : decode cJ3_checkIndex_8e157 6 = .ok (.if_icmp .lt 10, 3) := by decide +kernel
theorem dJ3_checkIndex_8e157_9 : decode cJ3_checkIndex_8e157 9 = .ok (.aload_n 2, 1) := by decide +kernel
theorem dJ3_checkIndex_8e157_10 : decode cJ3_checkIndex_8e157 10 = .ok (.iload_n 0, 1) := by decide +kernel
theorem dJ3_checkIndex_8e157_11 : decode cJ3_checkIndex_8e157 11 = .ok (.iload_n 1, 1) := by decide +kernel
theorem dJ3_checkIndex_8e157_12 : decode cJ3_checkIndex_8e157 12 = .ok (.invokestatic 95, 3) := by decide +kernel
theorem dJ3_checkIndex_8e157_15 : decode cJ3_checkIndex_8e157 15 = .ok (.athrow, 1) := by decide +kernel
theorem dJ3_checkIndex_8e157_16 : decode cJ3_checkIndex_8e157 16 = .ok (.iload_n 0, 1) := by decide +kernel
theorem dJ3_checkIndex_8e157_17 : decode cJ3_checkIndex_8e157 17 = .ok (.ireturn, 1) := by decide +kernel
theorem dL_answer_0 : decode cL_answer 0 = .ok (.aload_n 3, 1) := by decide +kernel
theorem dL_answer_1 : decode cL_answer 1 = .ok (.iconst 0, 1) := by decide +kernel
theorem dL_answer_2 : decode cL_answer 2 = .ok (.aload_n 0, 1) := by decide +kernel
theorem dL_answer_3 : decode cL_answer 3 = .ok (.iload_n 1, 1) := by decide +kernel
theorem dL_answer_4 : decode cL_answer 4 = .ok (.iload_n 2, 1) := by decide +kernel
theorem dL_answer_5 : decode cL_answer 5 = .ok (.invokevirtual 7, 3) := by decide +kernel
theorem dL_answer_8 : decode cL_answer 8 = .ok (.i2l, 1) := by decide +kernel
theorem dL_answer_9 : decode cL_answer 9 = .ok (.lastore, 1) := by decide +kernel
theorem dL_answer_10 : decode cL_answer 10 = .ok (.goto 7, 3) := by decide +kernel
theorem dL_answer_13 : decode cL_answer 13 = .ok (.astore 4, 2) := by decide +kernel
theorem dL_answer_15 : decode cL_answer 15 = .ok (.iconst 1, 1) := by decide +kernel
theorem dL_answer_16 : decode cL_answer 16 = .ok (.ireturn, 1) := by decide +kernel
theorem dL_answer_17 : decode cL_answer 17 = .ok (.iconst 0, 1) := by decide +kernel
theorem dL_answer_18 : decode cL_answer 18 = .ok (.ireturn, 1) := by decide +kernel
theorem dL_law_0 : decode cL_law 0 = .ok (.new 8, 3) := by decide +kernel
theorem dL_law_3 : decode cL_law 3 = .ok (.dup, 1) := by decide +kernel
theorem dL_law_4 : decode cL_law 4 = .ok (.invokespecial 15, 3) := by decide +kernel
theorem dL_law_7 : decode cL_law 7 = .ok (.astore_n 1, 1) := by decide +kernel
theorem dL_law_8 : decode cL_law 8 = .ok (.new 16, 3) := by decide +kernel
theorem dL_law_11 : decode cL_law 11 = .ok (.dup, 1) := by decide +kernel
theorem dL_law_12 : decode cL_law 12 = .ok (.invokespecial 18, 3) := by decide +kernel
theorem dL_law_15 : decode cL_law 15 = .ok (.astore_n 2, 1) := by decide +kernel
theorem dL_law_16 : decode cL_law 16 = .ok (.iconst 1, 1) := by decide +kernel
theorem dL_law_17 : decode cL_law 17 = .ok (.newarray .long, 2) := by decide +kernel
theorem dL_law_19 : decode cL_law 19 = .ok (.astore_n 3, 1) := by decide +kernel
theorem dL_law_20 : decode cL_law 20 = .ok (.iconst 0, 1) := by decide +kernel
theorem dL_law_21 : decode cL_law 21 = .ok (.istore 4, 2) := by decide +kernel
theorem dL_law_23 : decode cL_law 23 = .ok (.iload 4, 2) := by decide +kernel
theorem dL_law_25 : decode cL_law 25 = .ok (.aload_n 0, 1) := by decide +kernel
theorem dL_law_26 : decode cL_law 26 = .ok (.arraylength, 1) := by decide +kernel
theorem dL_law_27 : decode cL_law 27 = .ok (.iconst 5, 1) := by decide +kernel
theorem dL_law_28 : decode cL_law 28 = .ok (.isub, 1) := by decide +kernel
theorem dL_law_29 : decode cL_law 29 = .ok (.if_icmp .gt 447, 3) := by decide +kernel
theorem dL_law_32 : decode cL_law 32 = .ok (.aload_n 0, 1) := by decide +kernel
theorem dL_law_33 : decode cL_law 33 = .ok (.iload 4, 2) := by decide +kernel
theorem dL_law_35 : decode cL_law 35 = .ok (.iaload, 1) := by decide +kernel
theorem dL_law_36 : decode cL_law 36 = .ok (.bipush 15, 2) := by decide +kernel
theorem dL_law_38 : decode cL_law 38 = .ok (.iand, 1) := by decide +kernel
theorem dL_law_39 : decode cL_law 39 = .ok (.tableswitch 431 0 10 #[57, 94, 134, 159, 220, 245, 282, 295, 332, 357, 394], 57) := by decide +kernel
theorem dL_law_96 : decode cL_law 96 = .ok (.aload_n 1, 1) := by decide +kernel
theorem dL_law_97 : decode cL_law 97 = .ok (.aload_n 0, 1) := by decide +kernel
theorem dL_law_98 : decode cL_law 98 = .ok (.iload 4, 2) := by decide +kernel
theorem dL_law_100 : decode cL_law 100 = .ok (.iconst 1, 1) := by decide +kernel
theorem dL_law_101 : decode cL_law 101 = .ok (.iadd, 1) := by decide +kernel
theorem dL_law_102 : decode cL_law 102 = .ok (.iaload, 1) := by decide +kernel
theorem dL_law_103 : decode cL_law 103 = .ok (.aload_n 0, 1) := by decide +kernel
theorem dL_law_104 : decode cL_law 104 = .ok (.iload 4, 2) := by decide +kernel
theorem dL_law_106 : decode cL_law 106 = .ok (.iconst 2, 1) := by decide +kernel
theorem dL_law_107 : decode cL_law 107 = .ok (.iadd, 1) := by decide +kernel
theorem dL_law_108 : decode cL_law 108 = .ok (.iaload, 1) := by decide +kernel
theorem dL_law_109 : decode cL_law 109 = .ok (.invokevirtual 19, 3) := by decide +kernel
theorem dL_law_112 : decode cL_law 112 = .ok (.pop, 1) := by decide +kernel
theorem dL_law_113 : decode cL_law 113 = .ok (.aload_n 2, 1) := by decide +kernel
theorem dL_law_114 : decode cL_law 114 = .ok (.aload_n 0, 1) := by decide +kernel
theorem dL_law_115 : decode cL_law 115 = .ok (.iload 4, 2) := by decide +kernel
theorem dL_law_117 : decode cL_law 117 = .ok (.iconst 1, 1) := by decide +kernel
theorem dL_law_118 : decode cL_law 118 = .ok (.iadd, 1) := by decide +kernel
theorem dL_law_119 : decode cL_law 119 = .ok (.iaload, 1) := by decide +kernel
theorem dL_law_120 : decode cL_law 120 = .ok (.aload_n 0, 1) := by decide +kernel
theorem dL_law_121 : decode cL_law 121 = .ok (.iload 4, 2) := by decide +kernel
theorem dL_law_123 : decode cL_law 123 = .ok (.iconst 2, 1) := by decide +kernel
theorem dL_law_124 : decode cL_law 124 = .ok (.iadd, 1) := by decide +kernel
theorem dL_law_125 : decode cL_law 125 = .ok (.iaload, 1) := by decide +kernel
theorem dL_law_126 : decode cL_law 126 = .ok (.invokevirtual 22, 3) := by decide +kernel
theorem dL_law_129 : decode cL_law 129 = .ok (.pop, 1) := by decide +kernel
theorem dL_law_130 : decode cL_law 130 = .ok (.goto 340, 3) := by decide +kernel
theorem dL_law_133 : decode cL_law 133 = .ok (.aload_n 1, 1) := by decide +kernel
theorem dL_law_134 : decode cL_law 134 = .ok (.aload_n 0, 1) := by decide +kernel
theorem dL_law_135 : decode cL_law 135 = .ok (.iload 4, 2) := by decide +kernel
theorem dL_law_137 : decode cL_law 137 = .ok (.iconst 1, 1) := by decide +kernel
theorem dL_law_138 : decode cL_law 138 = .ok (.iadd, 1) := by decide +kernel
theorem dL_law_139 : decode cL_law 139 = .ok (.iaload, 1) := by decide +kernel
theorem dL_law_140 : decode cL_law 140 = .ok (.aload_n 0, 1) := by decide +kernel
theorem dL_law_141 : decode cL_law 141 = .ok (.iload 4, 2) := by decide +kernel
theorem dL_law_143 : decode cL_law 143 = .ok (.iconst 2, 1) := by decide +kernel
theorem dL_law_144 : decode cL_law 144 = .ok (.iadd, 1) := by decide +kernel
theorem dL_law_145 : decode cL_law 145 = .ok (.iaload, 1) := by decide +kernel
theorem dL_law_146 : decode cL_law 146 = .ok (.aload_n 3, 1) := by decide +kernel
theorem dL_law_147 : decode cL_law 147 = .ok (.invokestatic 23, 3) := by decide +kernel
theorem dL_law_150 : decode cL_law 150 = .ok (.istore 5, 2) := by decide +kernel
theorem dL_law_152 : decode cL_law 152 = .ok (.aload_n 2, 1) := by decide +kernel
theorem dL_law_153 : decode cL_law 153 = .ok (.aload_n 0, 1) := by decide +kernel
theorem dL_law_154 : decode cL_law 154 = .ok (.iload 4, 2) := by decide +kernel
theorem dL_law_156 : decode cL_law 156 = .ok (.iconst 1, 1) := by decide +kernel
theorem dL_law_157 : decode cL_law 157 = .ok (.iadd, 1) := by decide +kernel
theorem dL_law_158 : decode cL_law 158 = .ok (.iaload, 1) := by decide +kernel
theorem dL_law_159 : decode cL_law 159 = .ok (.aload_n 0, 1) := by decide +kernel
theorem dL_law_160 : decode cL_law 160 = .ok (.iload 4, 2) := by decide +kernel
theorem dL_law_162 : decode cL_law 162 = .ok (.iconst 2, 1) := by decide +kernel
theorem dL_law_163 : decode cL_law 163 = .ok (.iadd, 1) := by decide +kernel
theorem dL_law_164 : decode cL_law 164 = .ok (.iaload, 1) := by decide +kernel
theorem dL_law_165 : decode cL_law 165 = .ok (.invokevirtual 28, 3) := by decide +kernel
theorem dL_law_168 : decode cL_law 168 = .ok (.istore 6, 2) := by decide +kernel
theorem dL_law_170 : decode cL_law 170 = .ok (.goto 300, 3) := by decide +kernel
theorem dL_law_173 : decode cL_law 173 = .ok (.aload_n 1, 1) := by decide +kernel
theorem dL_law_174 : decode cL_law 174 = .ok (.aload_n 0, 1) := by decide +kernel
theorem dL_law_175 : decode cL_law 175 = .ok (.iload 4, 2) := by decide +kernel
theorem dL_law_177 : decode cL_law 177 = .ok (.iconst 1, 1) := by decide +kernel
theorem dL_law_178 : decode cL_law 178 = .ok (.iadd, 1) := by decide +kernel
theorem dL_law_179 : decode cL_law 179 = .ok (.iaload, 1) := by decide +kernel
theorem dL_law_180 : decode cL_law 180 = .ok (.invokevirtual 29, 3) := by decide +kernel
theorem dL_law_183 : decode cL_law 183 = .ok (.pop, 1) := by decide +kernel
theorem dL_law_184 : decode cL_law 184 = .ok (.aload_n 2, 1) := by decide +kernel
theorem dL_law_185 : decode cL_law 185 = .ok (.aload_n 0, 1) := by decide +kernel
theorem dL_law_186 : decode cL_law 186 = .ok (.iload 4, 2) := by decide +kernel
theorem dL_law_188 : decode cL_law 188 = .ok (.iconst 1, 1) := by decide +kernel
theorem dL_law_189 : decode cL_law 189 = .ok (.iadd, 1) := by decide +kernel
theorem dL_law_190 : decode cL_law 190 = .ok (.iaload, 1) := by decide +kernel
theorem dL_law_191 : decode cL_law 191 = .ok (.invokevirtual 33, 3) := by decide +kernel
theorem dL_law_194 : decode cL_law 194 = .ok (.pop, 1) := by decide +kernel
theorem dL_law_195 : decode cL_law 195 = .ok (.goto 275, 3) := by decide +kernel
theorem dL_law_198 : decode cL_law 198 = .ok (.aload_n 1, 1) := by decide +kernel
theorem dL_law_199 : decode cL_law 199 = .ok (.aload_n 0, 1) := by decide +kernel
theorem dL_law_200 : decode cL_law 200 = .ok (.iload 4, 2) := by decide +kernel
theorem dL_law_202 : decode cL_law 202 = .ok (.iconst 1, 1) := by decide +kernel
theorem dL_law_203 : decode cL_law 203 = .ok (.iadd, 1) := by decide +kernel
theorem dL_law_204 : decode cL_law 204 = .ok (.iaload, 1) := by decide +kernel
theorem dL_law_205 : decode cL_law 205 = .ok (.aload_n 0, 1) := by decide +kernel
theorem dL_law_206 : decode cL_law 206 = .ok (.iload 4, 2) := by decide +kernel
theorem dL_law_208 : decode cL_law 208 = .ok (.iconst 2, 1) := by decide +kernel
theorem dL_law_209 : decode cL_law 209 = .ok (.iadd, 1) := by decide +kernel
theorem dL_law_210 : decode cL_law 210 = .ok (.iaload, 1) := by decide +kernel
theorem dL_law_211 : decode cL_law 211 = .ok (.aload_n 0, 1) := by decide +kernel
theorem dL_law_212 : decode cL_law 212 = .ok (.iload 4, 2) := by decide +kernel
theorem dL_law_214 : decode cL_law 214 = .ok (.iconst 3, 1) := by decide +kernel
theorem dL_law_215 : decode cL_law 215 = .ok (.iadd, 1) := by decide +kernel
theorem dL_law_216 : decode cL_law 216 = .ok (.iaload, 1) := by decide +kernel
theorem dL_law_217 : decode cL_law 217 = .ok (.aload_n 0, 1) := by decide +kernel
theorem dL_law_218 : decode cL_law 218 = .ok (.iload 4, 2) := by decide +kernel
theorem dL_law_220 : decode cL_law 220 = .ok (.iconst 4, 1) := by decide +kernel
theorem dL_law_221 : decode cL_law 221 = .ok (.iadd, 1) := by decide +kernel
theorem dL_law_222 : decode cL_law 222 = .ok (.iaload, 1) := by decide +kernel
theorem dL_law_223 : decode cL_law 223 = .ok (.invokevirtual 34, 3) := by decide +kernel
theorem dL_law_226 : decode cL_law 226 = .ok (.pop, 1) := by decide +kernel
theorem dL_law_227 : decode cL_law 227 = .ok (.aload_n 2, 1) := by decide +kernel
theorem dL_law_228 : decode cL_law 228 = .ok (.aload_n 0, 1) := by decide +kernel
theorem dL_law_229 : decode cL_law 229 = .ok (.iload 4, 2) := by decide +kernel
theorem dL_law_231 : decode cL_law 231 = .ok (.iconst 1, 1) := by decide +kernel
theorem dL_law_232 : decode cL_law 232 = .ok (.iadd, 1) := by decide +kernel
theorem dL_law_233 : decode cL_law 233 = .ok (.iaload, 1) := by decide +kernel
theorem dL_law_234 : decode cL_law 234 = .ok (.aload_n 0, 1) := by decide +kernel
theorem dL_law_235 : decode cL_law 235 = .ok (.iload 4, 2) := by decide +kernel
theorem dL_law_237 : decode cL_law 237 = .ok (.iconst 2, 1) := by decide +kernel
theorem dL_law_238 : decode cL_law 238 = .ok (.iadd, 1) := by decide +kernel
theorem dL_law_239 : decode cL_law 239 = .ok (.iaload, 1) := by decide +kernel
theorem dL_law_240 : decode cL_law 240 = .ok (.aload_n 0, 1) := by decide +kernel
theorem dL_law_241 : decode cL_law 241 = .ok (.iload 4, 2) := by decide +kernel
theorem dL_law_243 : decode cL_law 243 = .ok (.iconst 3, 1) := by decide +kernel
theorem dL_law_244 : decode cL_law 244 = .ok (.iadd, 1) := by decide +kernel
theorem dL_law_245 : decode cL_law 245 = .ok (.iaload, 1) := by decide +kernel
theorem dL_law_246 : decode cL_law 246 = .ok (.aload_n 0, 1) := by decide +kernel
theorem dL_law_247 : decode cL_law 247 = .ok (.iload 4, 2) := by decide +kernel
theorem dL_law_249 : decode cL_law 249 = .ok (.iconst 4, 1) := by decide +kernel
theorem dL_law_250 : decode cL_law 250 = .ok (.iadd, 1) := by decide +kernel
theorem dL_law_251 : decode cL_law 251 = .ok (.iaload, 1) := by decide +kernel
theorem dL_law_252 : decode cL_law 252 = .ok (.invokevirtual 38, 3) := by decide +kernel
theorem dL_law_255 : decode cL_law 255 = .ok (.pop, 1) := by decide +kernel
theorem dL_law_256 : decode cL_law 256 = .ok (.goto 214, 3) := by decide +kernel
theorem dL_law_259 : decode cL_law 259 = .ok (.aload_n 1, 1) := by decide +kernel
theorem dL_law_260 : decode cL_law 260 = .ok (.aload_n 0, 1) := by decide +kernel
theorem dL_law_261 : decode cL_law 261 = .ok (.iload 4, 2) := by decide +kernel
theorem dL_law_263 : decode cL_law 263 = .ok (.iconst 1, 1) := by decide +kernel
theorem dL_law_264 : decode cL_law 264 = .ok (.iadd, 1) := by decide +kernel
theorem dL_law_265 : decode cL_law 265 = .ok (.iaload, 1) := by decide +kernel
theorem dL_law_266 : decode cL_law 266 = .ok (.invokevirtual 39, 3) := by decide +kernel
theorem dL_law_269 : decode cL_law 269 = .ok (.pop, 1) := by decide +kernel
theorem dL_law_270 : decode cL_law 270 = .ok (.aload_n 2, 1) := by decide +kernel
theorem dL_law_271 : decode cL_law 271 = .ok (.aload_n 0, 1) := by decide +kernel
theorem dL_law_272 : decode cL_law 272 = .ok (.iload 4, 2) := by decide +kernel
theorem dL_law_274 : decode cL_law 274 = .ok (.iconst 1, 1) := by decide +kernel
theorem dL_law_275 : decode cL_law 275 = .ok (.iadd, 1) := by decide +kernel
theorem dL_law_276 : decode cL_law 276 = .ok (.iaload, 1) := by decide +kernel
theorem dL_law_277 : decode cL_law 277 = .ok (.invokevirtual 42, 3) := by decide +kernel
theorem dL_law_280 : decode cL_law 280 = .ok (.pop, 1) := by decide +kernel
theorem dL_law_281 : decode cL_law 281 = .ok (.goto 189, 3) := by decide +kernel
theorem dL_law_284 : decode cL_law 284 = .ok (.aload_n 1, 1) := by decide +kernel
theorem dL_law_285 : decode cL_law 285 = .ok (.aload_n 0, 1) := by decide +kernel
theorem dL_law_286 : decode cL_law 286 = .ok (.iload 4, 2) := by decide +kernel
theorem dL_law_288 : decode cL_law 288 = .ok (.iconst 1, 1) := by decide +kernel
theorem dL_law_289 : decode cL_law 289 = .ok (.iadd, 1) := by decide +kernel
theorem dL_law_290 : decode cL_law 290 = .ok (.iaload, 1) := by decide +kernel
theorem dL_law_291 : decode cL_law 291 = .ok (.aload_n 0, 1) := by decide +kernel
theorem dL_law_292 : decode cL_law 292 = .ok (.iload 4, 2) := by decide +kernel
theorem dL_law_294 : decode cL_law 294 = .ok (.iconst 2, 1) := by decide +kernel
theorem dL_law_295 : decode cL_law 295 = .ok (.iadd, 1) := by decide +kernel
theorem dL_law_296 : decode cL_law 296 = .ok (.iaload, 1) := by decide +kernel
theorem dL_law_297 : decode cL_law 297 = .ok (.invokevirtual 43, 3) := by decide +kernel
theorem dL_law_300 : decode cL_law 300 = .ok (.pop, 1) := by decide +kernel
theorem dL_law_301 : decode cL_law 301 = .ok (.aload_n 2, 1) := by decide +kernel
theorem dL_law_302 : decode cL_law 302 = .ok (.aload_n 0, 1) := by decide +kernel
theorem dL_law_303 : decode cL_law 303 = .ok (.iload 4, 2) := by decide +kernel
theorem dL_law_305 : decode cL_law 305 = .ok (.iconst 1, 1) := by decide +kernel
theorem dL_law_306 : decode cL_law 306 = .ok (.iadd, 1) := by decide +kernel
theorem dL_law_307 : decode cL_law 307 = .ok (.iaload, 1) := by decide +kernel
theorem dL_law_308 : decode cL_law 308 = .ok (.aload_n 0, 1) := by decide +kernel
theorem dL_law_309 : decode cL_law 309 = .ok (.iload 4, 2) := by decide +kernel
theorem dL_law_311 : decode cL_law 311 = .ok (.iconst 2, 1) := by decide +kernel
theorem dL_law_312 : decode cL_law 312 = .ok (.iadd, 1) := by decide +kernel
theorem dL_law_313 : decode cL_law 313 = .ok (.iaload, 1) := by decide +kernel
theorem dL_law_314 : decode cL_law 314 = .ok (.invokevirtual 46, 3) := by decide +kernel
theorem dL_law_317 : decode cL_law 317 = .ok (.pop, 1) := by decide +kernel
theorem dL_law_318 : decode cL_law 318 = .ok (.goto 152, 3) := by decide +kernel
theorem dL_law_321 : decode cL_law 321 = .ok (.aload_n 1, 1) := by decide +kernel
theorem dL_law_322 : decode cL_law 322 = .ok (.invokevirtual 47, 3) := by decide +kernel
theorem dL_law_325 : decode cL_law 325 = .ok (.pop, 1) := by decide +kernel
theorem dL_law_326 : decode cL_law 326 = .ok (.aload_n 2, 1) := by decide +kernel
theorem dL_law_327 : decode cL_law 327 = .ok (.invokevirtual 51, 3) := by decide +kernel
theorem dL_law_330 : decode cL_law 330 = .ok (.pop, 1) := by decide +kernel
theorem dL_law_331 : decode cL_law 331 = .ok (.goto 139, 3) := by decide +kernel
theorem dL_law_334 : decode cL_law 334 = .ok (.aload_n 1, 1) := by decide +kernel
theorem dL_law_335 : decode cL_law 335 = .ok (.aload_n 0, 1) := by decide +kernel
theorem dL_law_336 : decode cL_law 336 = .ok (.iload 4, 2) := by decide +kernel
theorem dL_law_338 : decode cL_law 338 = .ok (.iconst 1, 1) := by decide +kernel
theorem dL_law_339 : decode cL_law 339 = .ok (.iadd, 1) := by decide +kernel
theorem dL_law_340 : decode cL_law 340 = .ok (.iaload, 1) := by decide +kernel
theorem dL_law_341 : decode cL_law 341 = .ok (.aload_n 0, 1) := by decide +kernel
theorem dL_law_342 : decode cL_law 342 = .ok (.iload 4, 2) := by decide +kernel
theorem dL_law_344 : decode cL_law 344 = .ok (.iconst 2, 1) := by decide +kernel
theorem dL_law_345 : decode cL_law 345 = .ok (.iadd, 1) := by decide +kernel
theorem dL_law_346 : decode cL_law 346 = .ok (.iaload, 1) := by decide +kernel
theorem dL_law_347 : decode cL_law 347 = .ok (.invokevirtual 52, 3) := by decide +kernel
theorem dL_law_350 : decode cL_law 350 = .ok (.pop, 1) := by decide +kernel
theorem dL_law_351 : decode cL_law 351 = .ok (.aload_n 2, 1) := by decide +kernel
theorem dL_law_352 : decode cL_law 352 = .ok (.aload_n 0, 1) := by decide +kernel
theorem dL_law_353 : decode cL_law 353 = .ok (.iload 4, 2) := by decide +kernel
theorem dL_law_355 : decode cL_law 355 = .ok (.iconst 1, 1) := by decide +kernel
theorem dL_law_356 : decode cL_law 356 = .ok (.iadd, 1) := by decide +kernel
theorem dL_law_357 : decode cL_law 357 = .ok (.iaload, 1) := by decide +kernel
theorem dL_law_358 : decode cL_law 358 = .ok (.aload_n 0, 1) := by decide +kernel
theorem dL_law_359 : decode cL_law 359 = .ok (.iload 4, 2) := by decide +kernel
theorem dL_law_361 : decode cL_law 361 = .ok (.iconst 2, 1) := by decide +kernel
theorem dL_law_362 : decode cL_law 362 = .ok (.iadd, 1) := by decide +kernel
theorem dL_law_363 : decode cL_law 363 = .ok (.iaload, 1) := by decide +kernel
theorem dL_law_364 : decode cL_law 364 = .ok (.invokevirtual 55, 3) := by decide +kernel
theorem dL_law_367 : decode cL_law 367 = .ok (.pop, 1) := by decide +kernel
theorem dL_law_368 : decode cL_law 368 = .ok (.goto 102, 3) := by decide +kernel
theorem dL_law_371 : decode cL_law 371 = .ok (.aload_n 1, 1) := by decide +kernel
theorem dL_law_372 : decode cL_law 372 = .ok (.aload_n 0, 1) := by decide +kernel
theorem dL_law_373 : decode cL_law 373 = .ok (.iload 4, 2) := by decide +kernel
theorem dL_law_375 : decode cL_law 375 = .ok (.iconst 1, 1) := by decide +kernel
theorem dL_law_376 : decode cL_law 376 = .ok (.iadd, 1) := by decide +kernel
theorem dL_law_377 : decode cL_law 377 = .ok (.iaload, 1) := by decide +kernel
theorem dL_law_378 : decode cL_law 378 = .ok (.invokevirtual 56, 3) := by decide +kernel
theorem dL_law_381 : decode cL_law 381 = .ok (.aload_n 2, 1) := by decide +kernel
theorem dL_law_382 : decode cL_law 382 = .ok (.aload_n 0, 1) := by decide +kernel
theorem dL_law_383 : decode cL_law 383 = .ok (.iload 4, 2) := by decide +kernel
theorem dL_law_385 : decode cL_law 385 = .ok (.iconst 1, 1) := by decide +kernel
theorem dL_law_386 : decode cL_law 386 = .ok (.iadd, 1) := by decide +kernel
theorem dL_law_387 : decode cL_law 387 = .ok (.iaload, 1) := by decide +kernel
theorem dL_law_388 : decode cL_law 388 = .ok (.invokevirtual 59, 3) := by decide +kernel
theorem dL_law_391 : decode cL_law 391 = .ok (.if_icmp .eq 79, 3) := by decide +kernel
theorem dL_law_394 : decode cL_law 394 = .ok (.iconst 0, 1) := by decide +kernel
theorem dL_law_395 : decode cL_law 395 = .ok (.ireturn, 1) := by decide +kernel
theorem dL_law_396 : decode cL_law 396 = .ok (.aload_n 1, 1) := by decide +kernel
theorem dL_law_397 : decode cL_law 397 = .ok (.aload_n 0, 1) := by decide +kernel
theorem dL_law_398 : decode cL_law 398 = .ok (.iload 4, 2) := by decide +kernel
theorem dL_law_400 : decode cL_law 400 = .ok (.iconst 1, 1) := by decide +kernel
theorem dL_law_401 : decode cL_law 401 = .ok (.iadd, 1) := by decide +kernel
theorem dL_law_402 : decode cL_law 402 = .ok (.iaload, 1) := by decide +kernel
theorem dL_law_403 : decode cL_law 403 = .ok (.aload_n 0, 1) := by decide +kernel
theorem dL_law_404 : decode cL_law 404 = .ok (.iload 4, 2) := by decide +kernel
theorem dL_law_406 : decode cL_law 406 = .ok (.iconst 2, 1) := by decide +kernel
theorem dL_law_407 : decode cL_law 407 = .ok (.iadd, 1) := by decide +kernel
theorem dL_law_408 : decode cL_law 408 = .ok (.iaload, 1) := by decide +kernel
theorem dL_law_409 : decode cL_law 409 = .ok (.invokevirtual 60, 3) := by decide +kernel
theorem dL_law_412 : decode cL_law 412 = .ok (.pop, 1) := by decide +kernel
theorem dL_law_413 : decode cL_law 413 = .ok (.aload_n 2, 1) := by decide +kernel
theorem dL_law_414 : decode cL_law 414 = .ok (.aload_n 0, 1) := by decide +kernel
theorem dL_law_415 : decode cL_law 415 = .ok (.iload 4, 2) := by decide +kernel
theorem dL_law_417 : decode cL_law 417 = .ok (.iconst 1, 1) := by decide +kernel
theorem dL_law_418 : decode cL_law 418 = .ok (.iadd, 1) := by decide +kernel
theorem dL_law_419 : decode cL_law 419 = .ok (.iaload, 1) := by decide +kernel
theorem dL_law_420 : decode cL_law 420 = .ok (.aload_n 0, 1) := by decide +kernel
theorem dL_law_421 : decode cL_law 421 = .ok (.iload 4, 2) := by decide +kernel
theorem dL_law_423 : decode cL_law 423 = .ok (.iconst 2, 1) := by decide +kernel
theorem dL_law_424 : decode cL_law 424 = .ok (.iadd, 1) := by decide +kernel
theorem dL_law_425 : decode cL_law 425 = .ok (.iaload, 1) := by decide +kernel
theorem dL_law_426 : decode cL_law 426 = .ok (.invokevirtual 63, 3) := by decide +kernel
theorem dL_law_429 : decode cL_law 429 = .ok (.pop, 1) := by decide +kernel
theorem dL_law_430 : decode cL_law 430 = .ok (.goto 40, 3) := by decide +kernel
theorem dL_law_433 : decode cL_law 433 = .ok (.aload_n 1, 1) := by decide +kernel
theorem dL_law_434 : decode cL_law 434 = .ok (.aload_n 0, 1) := by decide +kernel
theorem dL_law_435 : decode cL_law 435 = .ok (.iload 4, 2) := by decide +kernel
theorem dL_law_437 : decode cL_law 437 = .ok (.iconst 1, 1) := by decide +kernel
theorem dL_law_438 : decode cL_law 438 = .ok (.iadd, 1) := by decide +kernel
theorem dL_law_439 : decode cL_law 439 = .ok (.iaload, 1) := by decide +kernel
theorem dL_law_440 : decode cL_law 440 = .ok (.aload_n 0, 1) := by decide +kernel
theorem dL_law_441 : decode cL_law 441 = .ok (.iload 4, 2) := by decide +kernel
theorem dL_law_443 : decode cL_law 443 = .ok (.iconst 2, 1) := by decide +kernel
theorem dL_law_444 : decode cL_law 444 = .ok (.iadd, 1) := by decide +kernel
theorem dL_law_445 : decode cL_law 445 = .ok (.iaload, 1) := by decide +kernel
theorem dL_law_446 : decode cL_law 446 = .ok (.invokevirtual 64, 3) := by decide +kernel
theorem dL_law_449 : decode cL_law 449 = .ok (.pop, 1) := by decide +kernel
theorem dL_law_450 : decode cL_law 450 = .ok (.aload_n 2, 1) := by decide +kernel
theorem dL_law_451 : decode cL_law 451 = .ok (.aload_n 0, 1) := by decide +kernel
theorem dL_law_452 : decode cL_law 452 = .ok (.iload 4, 2) := by decide +kernel
theorem dL_law_454 : decode cL_law 454 = .ok (.iconst 1, 1) := by decide +kernel
theorem dL_law_455 : decode cL_law 455 = .ok (.iadd, 1) := by decide +kernel
theorem dL_law_456 : decode cL_law 456 = .ok (.iaload, 1) := by decide +kernel
theorem dL_law_457 : decode cL_law 457 = .ok (.aload_n 0, 1) := by decide +kernel
theorem dL_law_458 : decode cL_law 458 = .ok (.iload 4, 2) := by decide +kernel
theorem dL_law_460 : decode cL_law 460 = .ok (.iconst 2, 1) := by decide +kernel
theorem dL_law_461 : decode cL_law 461 = .ok (.iadd, 1) := by decide +kernel
theorem dL_law_462 : decode cL_law 462 = .ok (.iaload, 1) := by decide +kernel
theorem dL_law_463 : decode cL_law 463 = .ok (.invokevirtual 67, 3) := by decide +kernel
theorem dL_law_466 : decode cL_law 466 = .ok (.pop, 1) := by decide +kernel
theorem dL_law_467 : decode cL_law 467 = .ok (.goto 3, 3) := by decide +kernel
theorem dL_law_470 : decode cL_law 470 = .ok (.iinc 4 5, 3) := by decide +kernel
theorem dL_law_473 : decode cL_law 473 = .ok (.goto (-450), 3) := by decide +kernel
theorem dL_law_476 : decode cL_law 476 = .ok (.iconst 1, 1) := by decide +kernel
theorem dL_law_477 : decode cL_law 477 = .ok (.ireturn, 1) := by decide +kernel
end
section
/-! The shape of all that the law makes: the class's 95 cells, the reference's 21, the law's own. -/
def rmN (r : Nat) : Room := { frames := r, cells := 0, slots := 0, locals := 30 * r }
abbrev rr (k : Nat) : Option (Option Nat) := some (some k)
def shI (n : Nat) : xS := .inr (1, n, none)
def shLine (k : Nat) : xS := .inl (2, [rr (k + 1), none, none, none, none, none, rr (k + 2), rr (k + 4), rr (k + 6), rr (k + 7), rr (k + 8), none])
def shReply (k : Nat) : xS := .inl (4, [rr (k + 1), none])
def shLines (k : Nat) : List xS := [shLine k, shI 60, shReply (k + 2), shI 13, shReply (k + 4), shI 13, shI 20, shI 20, shI 20]
def shC : List xS := [.inl (5, [rr 1, rr 56, rr 92, rr 94, none]), .inr (4, 6, some [some 2, some 11, some 20, some 29, some 38, some 47])] ++ shLines 2 ++ shLines 11 ++ shLines 20 ++ shLines 29 ++ shLines 38 ++ shLines 47
  ++ [.inl (0, [rr 57, rr 58, rr 59, rr 60, rr 91]), shI 30, shI 30, shI 30, .inr (5, 30, some ((List.range 30).map fun i => some (61 + i)))] ++ List.replicate 30 (shI 30) ++ [shI 30, .inl (1, [rr 93, none]), shI 5000, .inl (3, [none, none, none, none, none])]
def shMo : List xS := [.inl (6, [none, rr 96, rr 97, rr 98, rr 99, rr 100, rr 101, rr 102, rr 103, rr 104, rr 105, rr 106, rr 107, rr 108, rr 109, rr 110, rr 111, rr 112, rr 113, rr 114, none, rr 115, none, none, none, none, none, none, none, none]),
  shI 6, .inr (2, 360, none), .inr (3, 6, none), .inr (3, 6, none), shI 6, shI 6, shI 6, .inr (2, 180, none), shI 6, .inr (2, 180, none), shI 6, shI 120, shI 120, shI 120, shI 30, shI 30, shI 30, shI 30, shI 900, shI 5000]
def shA : List xS := shC ++ shMo ++ [.inr (0, 1, none)]
theorem sA_len : shA.length = 117 := by decide +kernel
theorem s_EW : shA[0]? = some (.inl (5, [rr 1, rr 56, rr 92, rr 94, none])) := by decide +kernel
theorem s_lines : shA[1]? = some (.inr (4, 6, some [some 2, some 11, some 20, some 29, some 38, some 47])) := by decide +kernel
theorem s_Line : ∀ d : Nat, d < 6 → shA[2 + 9 * d]? = some (shLine (2 + 9 * d)) := by
  intro d hd
  rcases (show d = 0 ∨ d = 1 ∨ d = 2 ∨ d = 3 ∨ d = 4 ∨ d = 5 by omega) with rfl | rfl | rfl | rfl | rfl | rfl <;> decide +kernel
theorem s_Lsg : ∀ d : Nat, d < 6 → shA[2 + 9 * d + 1]? = some (shI 60) := by
  intro d hd
  rcases (show d = 0 ∨ d = 1 ∨ d = 2 ∨ d = 3 ∨ d = 4 ∨ d = 5 by omega) with rfl | rfl | rfl | rfl | rfl | rfl <;> decide +kernel
theorem s_Lsh : ∀ d : Nat, d < 6 → shA[2 + 9 * d + 2]? = some (shReply (2 + 9 * d + 2)) ∧ shA[2 + 9 * d + 2 + 1]? = some (shI 13) := by
  intro d hd
  rcases (show d = 0 ∨ d = 1 ∨ d = 2 ∨ d = 3 ∨ d = 4 ∨ d = 5 by omega) with rfl | rfl | rfl | rfl | rfl | rfl <;> exact ⟨by decide +kernel, by decide +kernel⟩
theorem s_Lke : ∀ d : Nat, d < 6 → shA[2 + 9 * d + 4]? = some (shReply (2 + 9 * d + 4)) ∧ shA[2 + 9 * d + 4 + 1]? = some (shI 13) := by
  intro d hd
  rcases (show d = 0 ∨ d = 1 ∨ d = 2 ∨ d = 3 ∨ d = 4 ∨ d = 5 by omega) with rfl | rfl | rfl | rfl | rfl | rfl <;> exact ⟨by decide +kernel, by decide +kernel⟩
theorem s_Lrk : ∀ d : Nat, d < 6 → shA[2 + 9 * d + 6]? = some (shI 20) := by
  intro d hd
  rcases (show d = 0 ∨ d = 1 ∨ d = 2 ∨ d = 3 ∨ d = 4 ∨ d = 5 by omega) with rfl | rfl | rfl | rfl | rfl | rfl <;> decide +kernel
theorem s_Lri : ∀ d : Nat, d < 6 → shA[2 + 9 * d + 7]? = some (shI 20) := by
  intro d hd
  rcases (show d = 0 ∨ d = 1 ∨ d = 2 ∨ d = 3 ∨ d = 4 ∨ d = 5 by omega) with rfl | rfl | rfl | rfl | rfl | rfl <;> decide +kernel
theorem s_Lrp : ∀ d : Nat, d < 6 → shA[2 + 9 * d + 8]? = some (shI 20) := by
  intro d hd
  rcases (show d = 0 ∨ d = 1 ∨ d = 2 ∨ d = 3 ∨ d = 4 ∨ d = 5 by omega) with rfl | rfl | rfl | rfl | rfl | rfl <;> decide +kernel
theorem s_Ho : shA[56]? = some (.inl (0, [rr 57, rr 58, rr 59, rr 60, rr 91])) := by decide +kernel
theorem s_debts : shA[57]? = some (shI 30) := by decide +kernel
theorem s_borr : shA[58]? = some (shI 30) := by decide +kernel
theorem s_rene : shA[59]? = some (shI 30) := by decide +kernel
theorem s_queues : shA[60]? = some (.inr (5, 30, some ((List.range 30).map fun i => some (61 + i)))) := by decide +kernel
theorem s_qrow : ∀ i : Nat, i < 30 → shA[61 + i]? = some (shI 30) := by
  intro i hi
  rcases (show i = 0 ∨ i = 1 ∨ i = 2 ∨ i = 3 ∨ i = 4 ∨ i = 5 ∨ i = 6 ∨ i = 7 ∨ i = 8 ∨ i = 9 ∨ i = 10 ∨ i = 11 ∨ i = 12 ∨ i = 13 ∨ i = 14 ∨ i = 15 ∨ i = 16 ∨ i = 17 ∨ i = 18 ∨ i = 19 ∨ i = 20 ∨ i = 21 ∨ i = 22 ∨ i = 23 ∨ i = 24 ∨ i = 25 ∨ i = 26 ∨ i = 27 ∨ i = 28 ∨ i = 29 by omega) with rfl | rfl | rfl | rfl | rfl | rfl | rfl | rfl | rfl | rfl | rfl | rfl | rfl | rfl | rfl | rfl | rfl | rfl | rfl | rfl | rfl | rfl | rfl | rfl | rfl | rfl | rfl | rfl | rfl | rfl <;> decide +kernel
theorem s_qlen : shA[91]? = some (shI 30) := by decide +kernel
theorem s_Jo : shA[92]? = some (.inl (1, [rr 93, none])) := by decide +kernel
theorem s_parts : shA[93]? = some (shI 5000) := by decide +kernel
theorem s_Me : shA[94]? = some (.inl (3, [none, none, none, none, none])) := by decide +kernel
abbrev flMo : List (Option (Option Nat)) := [none, rr 96, rr 97, rr 98, rr 99, rr 100, rr 101, rr 102, rr 103, rr 104, rr 105, rr 106, rr 107, rr 108, rr 109, rr 110, rr 111, rr 112, rr 113, rr 114, none, rr 115, none, none, none, none, none, none, none, none]
theorem s_Mo : shA[95]? = some (.inl (6, flMo)) := by decide +kernel
theorem s_M1 : shA[96]? = some (shI 6) := by decide +kernel
theorem s_M2 : shA[97]? = some (.inr (2, 360, none)) := by decide +kernel
theorem s_M3 : shA[98]? = some (.inr (3, 6, none)) := by decide +kernel
theorem s_M4 : shA[99]? = some (.inr (3, 6, none)) := by decide +kernel
theorem s_M5 : shA[100]? = some (shI 6) := by decide +kernel
theorem s_M6 : shA[101]? = some (shI 6) := by decide +kernel
theorem s_M7 : shA[102]? = some (shI 6) := by decide +kernel
theorem s_M8 : shA[103]? = some (.inr (2, 180, none)) := by decide +kernel
theorem s_M9 : shA[104]? = some (shI 6) := by decide +kernel
theorem s_M10 : shA[105]? = some (.inr (2, 180, none)) := by decide +kernel
theorem s_M11 : shA[106]? = some (shI 6) := by decide +kernel
theorem s_M12 : shA[107]? = some (shI 120) := by decide +kernel
theorem s_M13 : shA[108]? = some (shI 120) := by decide +kernel
theorem s_M14 : shA[109]? = some (shI 120) := by decide +kernel
theorem s_M15 : shA[110]? = some (shI 30) := by decide +kernel
theorem s_M16 : shA[111]? = some (shI 30) := by decide +kernel
theorem s_M17 : shA[112]? = some (shI 30) := by decide +kernel
theorem s_M18 : shA[113]? = some (shI 30) := by decide +kernel
theorem s_M19 : shA[114]? = some (shI 900) := by decide +kernel
theorem s_M21 : shA[115]? = some (shI 5000) := by decide +kernel
theorem s_out : shA[116]? = some (.inr (0, 1, none)) := by decide +kernel
/-- the method's end: the shape stays -/
abbrev Fx (μ : xM) (Q : Option Value → xM → Prop) : Option Value → List xS → xM → Prop := fun r sh' μ' => sh' = shA ∧ Q r μ'
end
section
/-! what is given while objects are made -/
theorem aoA_moved {t : FieldType} {u U : State} (hvm : u.vm.Alike U.vm) (h : (Cond.arrayOver (.array t)).before #[] u = true) : (Cond.arrayOver (.array t)).before #[] U = true := by
  obtain ⟨comp, c, k, h1, h2, h3, h4, h5⟩ := arrayOverA_spec h
  obtain ⟨k', hk', he⟩ := hvm.2.2 _ _ h3
  have hi : (U.vm.classes.findIdx? fun (x : Class) => match x.kind with | .array component _ => component == comp | _ => false) = some c := by
    refine Eq.trans ?_ h2
    refine (va_idx_bare U.vm comp).symm.trans (Eq.trans ?_ (va_idx_bare u.vm comp))
    first | rw [hvm.bare_eq] | rw [← hvm.bare_eq]
  have hkind : k'.kind = .array comp (.array t) := by rw [he]; exact h4
  have f1 : U.vm.findClass (FieldType.array t).toString = some comp := by rw [hvm.findClass]; exact h1
  have f2 : U.vm.findClass ("[" ++ (FieldType.array t).toString) = some c := by rw [hvm.findClass]; exact h5
  unfold Cond.before Cond.holds
  simp only [Cond.value]
  rw [f1, Option.bind_some]
  refine (congrArg (fun o : Option Nat => (o.bind (fun c => (U.vm.classes[c]?).map fun (k : Class) => match k.kind with | .array _ ty => decide (ty = FieldType.array t) && decide (U.vm.findClass ("[" ++ (FieldType.array t).toString) = some c) | _ => false) == some true)) hi).trans ?_
  simp [hk', hkind, f2]
def ExA (U : State) : Prop := va_AO "ExchangeWire$Line" U ∧ (Cond.arrayOver (.array .int)).before #[] U = true
theorem ExA_st {X : xD} {fr : Bool} {n : Nat} : xEs X fr n ExA := fun _ _ hW _ _ h => ⟨va_AO.moved hW.alike h.1, aoA_moved hW.alike h.2⟩
def mn0 (μ : xM) (n : Nat) : xM := fun a => if a < n then μ a else fun _ => 0
def mnG (n N : Nat) : List (Option Nat) := (List.range N).map fun i => some (n + 1 + i)
end
section
/-! the constructors -/
section CT
variable {l : Launch} {R : Room} {X : xD} {Ex : State → Prop} {K : xK} {n0 : Nat} {Z : List Frame → Array Value → State → State → Prop} {pc : Nat} {L : List (Option Value)} {st : List Value} {sh sh' : List xS} {μ : xM} {cs ss : Nat}
theorem sx_newaL {at' : ArrayType} {ti N n1 : Nat} {n : Int32} {ty : FieldType} (hlen : sh.length = n1) (hd : decode K.2.1 pc = .ok (.newarray at', 2)) (harr : Cond.arrayClass (newarray.typeOf at') ∈ xws) (hty : newarray.typeOf at' = ty) (ht : xty[ti]? = some ty) (hdv : defaultValue ty = if ti = 0 then .long 0 else .int 0) (hn : ¬ n < 0) (hN : n.toNatClampNeg = N) (hb : N * componentBytes ty ≤ 536870912) (hsh : sh ++ [.inr (ti, N, none)] = sh') (h1 : cs + 1 ≤ R.cells) (h2 : ss + N ≤ R.slots) (hra : ∀ (U : State) (cA : ClassId), va_RA U cA ty → U.vm.findClass ("[" ++ ty.toString) = some cA)
    (kk : ∀ μ' : xM, μ' = va_up μ n1 (fun _ => 0) → sx l R X Ex true K n0 Z (pc + 2) L (.ref (X.2 + n1) :: st) sh' μ' (cs + 1) (ss + N)) : sx l R X Ex true K n0 Z pc L (.int n :: st) sh μ cs ss := by
  subst hlen
  exact sx_newa hd harr hty ht hdv hn hN hb hsh h1 h2 hra (kk _ rfl)
theorem sx_newL {C : String} {T : u_T} {N ci i n1 : Nat} {fl : List (Option (Option Nat))} (hlen : sh.length = n1) (hd : decode K.2.1 pc = .ok (.new i, 3)) (hc : classes[ci]? = some (C, T, N)) (hcl : Cond.classLink K.1 i C ∈ xws) (hinst : Cond.instantiable C N ∈ xws) (hini : Cond.initialized C ∈ xws) (hfs : ∀ (b j : Nat), j < N → ∀ t, parseFieldDescriptor (T j).2.2.1 = some t → defaultValue t = vp_V (xfs b (fun _ => 0) fl 0) j) (hsh : sh ++ [.inl (ci, fl)] = sh') (h1 : cs + 1 ≤ R.cells) (h2 : ss + N ≤ R.slots)
    (kk : ∀ μ' : xM, μ' = va_up μ n1 (fun _ => 0) → sx l R X Ex true K n0 Z (pc + 3) L (.ref (X.2 + n1) :: st) sh' μ' (cs + 1) (ss + N)) : sx l R X Ex true K n0 Z pc L st sh μ cs ss := by
  subst hlen
  exact sx_new hd hc hcl hinst hini hfs hsh h1 h2 (kk _ rfl)
theorem sx_putrFm {C : String} {T : u_T} {N ci i j k r : Nat} {fl : List (Option (Option Nat))} {ty : FieldType} (hd : decode K.2.1 pc = .ok (.putfield i, 3)) (hc : classes[ci]? = some (C, T, N)) (hs : sh[k]? = some (.inl (ci, fl))) (hjl : j < fl.length) (hjn : j < N) (hw : Cond.fieldLink K.1 i (T j).1 (T j).2.1 (T j).2.2.1 ∈ xws) (hf : (T j).2.2.2 = true) (hi : K.2.2.2.2 = true) (hT : (T j).1 = K.1) (hy : parseFieldDescriptor (T j).2.2.1 = some ty) (hn : narrow ty (.ref (X.2 + r)) = .ref (X.2 + r)) (hv : fits ty (.ref (X.2 + r)) = true) (hsh : sh.set k (.inl (ci, fl.set j (some (some r)))) = sh')
    (kk : ∀ μ' : xM, μ' = xup μ k j 0 → sx l R X Ex true K n0 Z (pc + 3) L st sh' μ' cs ss) : sx l R X Ex true K n0 Z pc L (.ref (X.2 + r) :: .ref (X.2 + k) :: st) sh μ cs ss :=
  sx_putrF hd hc hs hjl hjn hw hf hi hT hy hn hv hsh (kk _ rfl)
end CT
theorem xg_k {sh tail : List xS} {k : Nat} {F : xS} (h : k < sh.length) : (sh.set k F ++ tail)[k]? = some F := by
  rw [List.getElem?_append_left (by rw [List.length_set]; exact h), List.getElem?_set_self h]
theorem xg_t {sh tail : List xS} {k : Nat} {F s : xS} (j : Nat) (h : tail[j]? = some s) : (sh.set k F ++ tail)[sh.length + j]? = some s := by
  rw [List.getElem?_append_right (by rw [List.length_set]; omega), List.length_set, show sh.length + j - sh.length = j by omega]
  exact h
theorem xs_k {sh tail : List xS} {k : Nat} {F F' : xS} (h : k < sh.length) : (sh.set k F ++ tail).set k F' = sh.set k F' ++ tail := by
  rw [List.set_append_left _ _ (by rw [List.length_set]; exact h), List.set_set]
theorem xs_t {sh tail : List xS} {k : Nat} {F G : xS} (j : Nat) : (sh.set k F ++ tail).set (sh.length + j) G = sh.set k F ++ tail.set j G := by
  rw [List.set_append_right _ _ (by rw [List.length_set]; omega), List.length_set, show sh.length + j - sh.length = j by omega]
theorem xl_n {sh tail : List xS} {k : Nat} {F : xS} : (sh.set k F ++ tail).length = sh.length + tail.length := by rw [List.length_append, List.length_set]
theorem w_oi : Cond.instanceMethod Lib.objectInit ∈ xws := xw 60 (by decide +kernel)
theorem w_oc : Cond.code Lib.objectInit ⟨#[0xb1]⟩ 1 none ∈ xws := xwc 61 rfl rfl
theorem w_ai : Cond.arrayClass .int ∈ xws := xw 85 (by decide +kernel)
theorem w_ab : Cond.arrayClass .byte ∈ xws := xw 442 (by decide +kernel)
theorem w_az : Cond.arrayClass .boolean ∈ xws := xw 672 (by decide +kernel)
theorem w_al : Cond.arrayClass .long ∈ xws := xw 800 (by decide +kernel)
abbrev fl0_0 : List (Option (Option Nat)) := [some none, some none, some none, some none, some none]
theorem nf_0 : ∀ (b j : Nat), j < 5 → ∀ t, parseFieldDescriptor (TX0 j).2.2.1 = some t → defaultValue t = vp_V (xfs b (fun _ => 0) fl0_0 0) j := by
  intro b j hj t ht
  have e := Option.some.inj ((tyX0_ok j hj).symm.trans ht)
  subst e
  rcases (show j = 0 ∨ j = 1 ∨ j = 2 ∨ j = 3 ∨ j = 4 by omega) with rfl | rfl | rfl | rfl | rfl <;> rfl
theorem in_0 : Cond.instantiable "ExchangeWire$House" 5 ∈ xws := xw 136 (by decide +kernel)
theorem ii_0 : Cond.initialized "ExchangeWire$House" ∈ xws := xw 39 (by decide +kernel)
abbrev fl0_1 : List (Option (Option Nat)) := [some none, none]
theorem nf_1 : ∀ (b j : Nat), j < 2 → ∀ t, parseFieldDescriptor (TX1 j).2.2.1 = some t → defaultValue t = vp_V (xfs b (fun _ => 0) fl0_1 0) j := by
  intro b j hj t ht
  have e := Option.some.inj ((tyX1_ok j hj).symm.trans ht)
  subst e
  rcases (show j = 0 ∨ j = 1 by omega) with rfl | rfl <;> rfl
theorem in_1 : Cond.instantiable "ExchangeWire$Journal" 2 ∈ xws := xw 164 (by decide +kernel)
theorem ii_1 : Cond.initialized "ExchangeWire$Journal" ∈ xws := xw 40 (by decide +kernel)
abbrev fl0_2 : List (Option (Option Nat)) := [some none, none, none, none, none, none, some none, some none, some none, some none, some none, none]
theorem nf_2 : ∀ (b j : Nat), j < 12 → ∀ t, parseFieldDescriptor (TX2 j).2.2.1 = some t → defaultValue t = vp_V (xfs b (fun _ => 0) fl0_2 0) j := by
  intro b j hj t ht
  have e := Option.some.inj ((tyX2_ok j hj).symm.trans ht)
  subst e
  rcases (show j = 0 ∨ j = 1 ∨ j = 2 ∨ j = 3 ∨ j = 4 ∨ j = 5 ∨ j = 6 ∨ j = 7 ∨ j = 8 ∨ j = 9 ∨ j = 10 ∨ j = 11 by omega) with rfl | rfl | rfl | rfl | rfl | rfl | rfl | rfl | rfl | rfl | rfl | rfl <;> rfl
theorem in_2 : Cond.instantiable "ExchangeWire$Line" 12 ∈ xws := xw 64 (by decide +kernel)
theorem ii_2 : Cond.initialized "ExchangeWire$Line" ∈ xws := xw 37 (by decide +kernel)
abbrev fl0_3 : List (Option (Option Nat)) := [none, none, none, none, none]
theorem nf_3 : ∀ (b j : Nat), j < 5 → ∀ t, parseFieldDescriptor (TX3 j).2.2.1 = some t → defaultValue t = vp_V (xfs b (fun _ => 0) fl0_3 0) j := by
  intro b j hj t ht
  have e := Option.some.inj ((tyX3_ok j hj).symm.trans ht)
  subst e
  rcases (show j = 0 ∨ j = 1 ∨ j = 2 ∨ j = 3 ∨ j = 4 by omega) with rfl | rfl | rfl | rfl | rfl <;> rfl
theorem in_3 : Cond.instantiable "ExchangeWire$Message" 5 ∈ xws := xw 178 (by decide +kernel)
theorem ii_3 : Cond.initialized "ExchangeWire$Message" ∈ xws := xw 41 (by decide +kernel)
abbrev fl0_4 : List (Option (Option Nat)) := [some none, none]
theorem nf_4 : ∀ (b j : Nat), j < 2 → ∀ t, parseFieldDescriptor (TX4 j).2.2.1 = some t → defaultValue t = vp_V (xfs b (fun _ => 0) fl0_4 0) j := by
  intro b j hj t ht
  have e := Option.some.inj ((tyX4_ok j hj).symm.trans ht)
  subst e
  rcases (show j = 0 ∨ j = 1 by omega) with rfl | rfl <;> rfl
theorem in_4 : Cond.instantiable "ExchangeWire$Reply" 2 ∈ xws := xw 70 (by decide +kernel)
theorem ii_4 : Cond.initialized "ExchangeWire$Reply" ∈ xws := xw 38 (by decide +kernel)
abbrev fl0_5 : List (Option (Option Nat)) := [some none, some none, some none, some none, none]
theorem nf_5 : ∀ (b j : Nat), j < 5 → ∀ t, parseFieldDescriptor (TX5 j).2.2.1 = some t → defaultValue t = vp_V (xfs b (fun _ => 0) fl0_5 0) j := by
  intro b j hj t ht
  have e := Option.some.inj ((tyX5_ok j hj).symm.trans ht)
  subst e
  rcases (show j = 0 ∨ j = 1 ∨ j = 2 ∨ j = 3 ∨ j = 4 by omega) with rfl | rfl | rfl | rfl | rfl <;> rfl
theorem in_5 : Cond.instantiable "ExchangeWire" 5 ∈ xws := xw 55 (by decide +kernel)
theorem ii_5 : Cond.initialized "ExchangeWire" ∈ xws := xw 36 (by decide +kernel)
abbrev fl0_6 : List (Option (Option Nat)) := [none, some none, some none, some none, some none, some none, some none, some none, some none, some none, some none, some none, some none, some none, some none, some none, some none, some none, some none, some none, none, some none, none, none, none, none, none, none, none, none]
theorem nf_6 : ∀ (b j : Nat), j < 30 → ∀ t, parseFieldDescriptor (TX6 j).2.2.1 = some t → defaultValue t = vp_V (xfs b (fun _ => 0) fl0_6 0) j := by
  intro b j hj t ht
  have e := Option.some.inj ((tyX6_ok j hj).symm.trans ht)
  subst e
  rcases (show j = 0 ∨ j = 1 ∨ j = 2 ∨ j = 3 ∨ j = 4 ∨ j = 5 ∨ j = 6 ∨ j = 7 ∨ j = 8 ∨ j = 9 ∨ j = 10 ∨ j = 11 ∨ j = 12 ∨ j = 13 ∨ j = 14 ∨ j = 15 ∨ j = 16 ∨ j = 17 ∨ j = 18 ∨ j = 19 ∨ j = 20 ∨ j = 21 ∨ j = 22 ∨ j = 23 ∨ j = 24 ∨ j = 25 ∨ j = 26 ∨ j = 27 ∨ j = 28 ∨ j = 29 by omega) with rfl | rfl | rfl | rfl | rfl | rfl | rfl | rfl | rfl | rfl | rfl | rfl | rfl | rfl | rfl | rfl | rfl | rfl | rfl | rfl | rfl | rfl | rfl | rfl | rfl | rfl | rfl | rfl | rfl | rfl <;> rfl
theorem in_6 : Cond.instantiable "ExchangeWireModel" 30 ∈ xws := xw 576 (by decide +kernel)
theorem ii_6 : Cond.initialized "ExchangeWireModel" ∈ xws := xw 42 (by decide +kernel)
set_option maxHeartbeats 1000000 in
set_option maxRecDepth 20000 in
theorem c_Reply_init (X : xD) (sh : List xS) (μ : xM) (k : Nat) (hs : sh[k]? = some (.inl (4, fl0_4)))  (S : List xS) : Ct X ExA true yX4_init kX4_init ({ frames := 1, cells := 1, slots := 13, locals := 30 } : Room) [.ref (X.2 + k)] sh μ (fun r sh' μ' => r = none ∧ sh.set k (.inl (4, [rr sh.length, none])) ++ [shI 13] = sh' ∧ (∀ a, a < sh.length → a ≠ k → μ' a = μ a) ∧ μ' k 1 = 0) := by
  have hk : k < sh.length := (List.getElem?_eq_some_iff.mp hs).1
  refine Ct.of (L0 := [some (.ref (X.2 + k))]) (by decide) rfl (fun _ => rfl) (by simp [Value.category]) (Nat.le_of_ble_eq_true rfl) rfl (fun l => ?_)
  rw [show sx l ({ frames := 1, cells := 1, slots := 13, locals := 30 } : Room) X ExA true kX4_init sh.length (xZ X true sh.length (fun r sh' μ' => r = none ∧ sh.set k (.inl (4, [rr sh.length, none])) ++ [shI 13] = sh' ∧ (∀ a, a < sh.length → a ≠ k → μ' a = μ a) ∧ μ' k 1 = 0) ({ frames := 1, cells := 1, slots := 13, locals := 30 } : Room).cells ({ frames := 1, cells := 1, slots := 13, locals := 30 } : Room).slots) 0 [some (.ref (X.2 + k))] [] sh μ 0 0 = sx l ({ frames := 1, cells := 1, slots := 13, locals := 30 } : Room) X ExA true kX4_init sh.length (xZ X true sh.length (fun r sh' μ' => r = none ∧ sh.set k (.inl (4, [rr sh.length, none])) ++ [shI 13] = sh' ∧ (∀ a, a < sh.length → a ≠ k → μ' a = μ a) ∧ μ' k 1 = 0) ({ frames := 1, cells := 1, slots := 13, locals := 30 } : Room).cells ({ frames := 1, cells := 1, slots := 13, locals := 30 } : Room).slots) 0 [some (.ref (X.2 + k))] [] (sh.set k (.inl (4, fl0_4)) ++ []) μ 0 0 by rw [List.append_nil, xsame hs]]
  refine sx_aload_n (pc := 0) dX4_init_0 rfl rfl ?_
  refine sx_objInit (pc := 1) dX4_init_1 lm_X4_3 w_oi w_oc (Nat.le_of_ble_eq_true rfl) (Nat.le_of_ble_eq_true rfl) ?_
  refine sx_aload_n (pc := 4) dX4_init_4 rfl rfl ?_
  refine sx_bipush (pc := 5) (v := 13) dX4_init_5 (by decide) ?_
  refine sx_newaL (pc := 7) (ti := 1) (N := 13) (n1 := sh.length) (sh' := sh.set k (.inl (4, [some none, none])) ++ [shI 13]) xl_n dX4_init_7 w_ai rfl rfl rfl (by decide) (by decide) (by decide) (List.append_assoc _ _ _) (Nat.le_of_ble_eq_true rfl) (Nat.le_of_ble_eq_true rfl) (fun _ _ h => h) (fun μ1 hμ1 => ?_)
  refine sx_putrFm (pc := 9) (ci := 4) (j := 0) (r := sh.length) (sh' := sh.set k (.inl (4, [rr (sh.length), none])) ++ [shI 13]) dX4_init_9 rfl (xg_k hk) (Nat.le_of_ble_eq_true rfl) (by decide) lf_X4_11 rfl rfl rfl (tyX4_ok 0 (by decide)) rfl rfl (xs_k hk) (fun μ2 hμ2 => ?_)
  refine sx_aload_n (pc := 12) dX4_init_12 rfl rfl ?_
  refine sx_iconst (pc := 13) (v := 0) dX4_init_13 (by decide) ?_
  refine sx_puti (pc := 14) (ci := 4) (j := 1) (ty := .int) dX4_init_14 rfl (xg_k hk) rfl (by decide) lf_X4_15 rfl (by decide +kernel) rfl rfl (fun μ3 hμ3 => ?_)
  exact sx_vret (pc := 17) dX4_init_17 rfl (Nat.le_of_ble_eq_true rfl) (Nat.le_of_ble_eq_true rfl) (by subst hμ3; subst hμ2; subst hμ1; exact ⟨rfl, rfl, fun a h1 h2 => by funext j; simp [xup_at, va_up, h2, Nat.ne_of_lt h1], by simp [xup_at, va_up]⟩)
set_option maxHeartbeats 1000000 in
set_option maxRecDepth 20000 in
theorem c_Journal_init (X : xD) (sh : List xS) (μ : xM) (k : Nat) (hs : sh[k]? = some (.inl (1, fl0_1)))  (S : List xS) : Ct X ExA true yX1_init kX1_init ({ frames := 1, cells := 1, slots := 5000, locals := 30 } : Room) [.ref (X.2 + k)] sh μ (fun r sh' μ' => r = none ∧ sh.set k (.inl (1, [rr sh.length, none])) ++ [shI 5000] = sh' ∧ (∀ a, a < sh.length → a ≠ k → μ' a = μ a) ∧ μ' k 1 = 0) := by
  have hk : k < sh.length := (List.getElem?_eq_some_iff.mp hs).1
  refine Ct.of (L0 := [some (.ref (X.2 + k))]) (by decide) rfl (fun _ => rfl) (by simp [Value.category]) (Nat.le_of_ble_eq_true rfl) rfl (fun l => ?_)
  rw [show sx l ({ frames := 1, cells := 1, slots := 5000, locals := 30 } : Room) X ExA true kX1_init sh.length (xZ X true sh.length (fun r sh' μ' => r = none ∧ sh.set k (.inl (1, [rr sh.length, none])) ++ [shI 5000] = sh' ∧ (∀ a, a < sh.length → a ≠ k → μ' a = μ a) ∧ μ' k 1 = 0) ({ frames := 1, cells := 1, slots := 5000, locals := 30 } : Room).cells ({ frames := 1, cells := 1, slots := 5000, locals := 30 } : Room).slots) 0 [some (.ref (X.2 + k))] [] sh μ 0 0 = sx l ({ frames := 1, cells := 1, slots := 5000, locals := 30 } : Room) X ExA true kX1_init sh.length (xZ X true sh.length (fun r sh' μ' => r = none ∧ sh.set k (.inl (1, [rr sh.length, none])) ++ [shI 5000] = sh' ∧ (∀ a, a < sh.length → a ≠ k → μ' a = μ a) ∧ μ' k 1 = 0) ({ frames := 1, cells := 1, slots := 5000, locals := 30 } : Room).cells ({ frames := 1, cells := 1, slots := 5000, locals := 30 } : Room).slots) 0 [some (.ref (X.2 + k))] [] (sh.set k (.inl (1, fl0_1)) ++ []) μ 0 0 by rw [List.append_nil, xsame hs]]
  refine sx_aload_n (pc := 0) dX1_init_0 rfl rfl ?_
  refine sx_objInit (pc := 1) dX1_init_1 lm_X1_3 w_oi w_oc (Nat.le_of_ble_eq_true rfl) (Nat.le_of_ble_eq_true rfl) ?_
  refine sx_aload_n (pc := 4) dX1_init_4 rfl rfl ?_
  refine sx_sipush (pc := 5) (v := 5000) dX1_init_5 (by decide) ?_
  refine sx_newaL (pc := 8) (ti := 1) (N := 5000) (n1 := sh.length) (sh' := sh.set k (.inl (1, [some none, none])) ++ [shI 5000]) xl_n dX1_init_8 w_ai rfl rfl rfl (by decide) (by decide) (by decide) (List.append_assoc _ _ _) (Nat.le_of_ble_eq_true rfl) (Nat.le_of_ble_eq_true rfl) (fun _ _ h => h) (fun μ1 hμ1 => ?_)
  refine sx_putrFm (pc := 10) (ci := 1) (j := 0) (r := sh.length) (sh' := sh.set k (.inl (1, [rr (sh.length), none])) ++ [shI 5000]) dX1_init_10 rfl (xg_k hk) (Nat.le_of_ble_eq_true rfl) (by decide) lf_X1_11 rfl rfl rfl (tyX1_ok 0 (by decide)) rfl rfl (xs_k hk) (fun μ2 hμ2 => ?_)
  refine sx_aload_n (pc := 13) dX1_init_13 rfl rfl ?_
  refine sx_iconst (pc := 14) (v := 0) dX1_init_14 (by decide) ?_
  refine sx_puti (pc := 15) (ci := 1) (j := 1) (ty := .int) dX1_init_15 rfl (xg_k hk) rfl (by decide) lf_X1_15 rfl (by decide +kernel) rfl rfl (fun μ3 hμ3 => ?_)
  exact sx_vret (pc := 18) dX1_init_18 rfl (Nat.le_of_ble_eq_true rfl) (Nat.le_of_ble_eq_true rfl) (by subst hμ3; subst hμ2; subst hμ1; exact ⟨rfl, rfl, fun a h1 h2 => by funext j; simp [xup_at, va_up, h2, Nat.ne_of_lt h1], by simp [xup_at, va_up]⟩)
set_option maxHeartbeats 1000000 in
set_option maxRecDepth 20000 in
theorem c_Message_init (X : xD) (sh : List xS) (μ : xM) (k : Nat) (hs : sh[k]? = some (.inl (3, fl0_3)))  (S : List xS) : Ct X ExA true yX3_init kX3_init ({ frames := 1, cells := 0, slots := 0, locals := 30 } : Room) [.ref (X.2 + k)] sh μ (fun r sh' μ' => r = none ∧ sh.set k (.inl (3, [none, none, none, none, none])) ++ [] = sh' ∧ (∀ a, a < sh.length → a ≠ k → μ' a = μ a)) := by
  have hk : k < sh.length := (List.getElem?_eq_some_iff.mp hs).1
  refine Ct.of (L0 := [some (.ref (X.2 + k))]) (by decide) rfl (fun _ => rfl) (by simp [Value.category]) (Nat.le_of_ble_eq_true rfl) rfl (fun l => ?_)
  rw [show sx l ({ frames := 1, cells := 0, slots := 0, locals := 30 } : Room) X ExA true kX3_init sh.length (xZ X true sh.length (fun r sh' μ' => r = none ∧ sh.set k (.inl (3, [none, none, none, none, none])) ++ [] = sh' ∧ (∀ a, a < sh.length → a ≠ k → μ' a = μ a)) ({ frames := 1, cells := 0, slots := 0, locals := 30 } : Room).cells ({ frames := 1, cells := 0, slots := 0, locals := 30 } : Room).slots) 0 [some (.ref (X.2 + k))] [] sh μ 0 0 = sx l ({ frames := 1, cells := 0, slots := 0, locals := 30 } : Room) X ExA true kX3_init sh.length (xZ X true sh.length (fun r sh' μ' => r = none ∧ sh.set k (.inl (3, [none, none, none, none, none])) ++ [] = sh' ∧ (∀ a, a < sh.length → a ≠ k → μ' a = μ a)) ({ frames := 1, cells := 0, slots := 0, locals := 30 } : Room).cells ({ frames := 1, cells := 0, slots := 0, locals := 30 } : Room).slots) 0 [some (.ref (X.2 + k))] [] (sh.set k (.inl (3, fl0_3)) ++ []) μ 0 0 by rw [List.append_nil, xsame hs]]
  refine sx_aload_n (pc := 0) dX3_init_0 rfl rfl ?_
  refine sx_objInit (pc := 1) dX3_init_1 lm_X3_3 w_oi w_oc (Nat.le_of_ble_eq_true rfl) (Nat.le_of_ble_eq_true rfl) ?_
  refine sx_aload_n (pc := 4) dX3_init_4 rfl rfl ?_
  refine sx_iconst (pc := 5) (v := 0) dX3_init_5 (by decide) ?_
  refine sx_puti (pc := 6) (ci := 3) (j := 0) (ty := .int) dX3_init_6 rfl (xg_k hk) rfl (by decide) lf_X3_9 rfl (by decide +kernel) rfl rfl (fun μ1 hμ1 => ?_)
  refine sx_aload_n (pc := 9) dX3_init_9 rfl rfl ?_
  refine sx_iconst (pc := 10) (v := (-1)) dX3_init_10 (by decide) ?_
  refine sx_puti (pc := 11) (ci := 3) (j := 1) (ty := .int) dX3_init_11 rfl (xg_k hk) rfl (by decide) lf_X3_15 rfl (by decide +kernel) rfl rfl (fun μ2 hμ2 => ?_)
  refine sx_aload_n (pc := 14) dX3_init_14 rfl rfl ?_
  refine sx_iconst (pc := 15) (v := (-1)) dX3_init_15 (by decide) ?_
  refine sx_puti (pc := 16) (ci := 3) (j := 2) (ty := .int) dX3_init_16 rfl (xg_k hk) rfl (by decide) lf_X3_18 rfl (by decide +kernel) rfl rfl (fun μ3 hμ3 => ?_)
  refine sx_aload_n (pc := 19) dX3_init_19 rfl rfl ?_
  refine sx_iconst (pc := 20) (v := (-1)) dX3_init_20 (by decide) ?_
  refine sx_puti (pc := 21) (ci := 3) (j := 3) (ty := .int) dX3_init_21 rfl (xg_k hk) rfl (by decide) lf_X3_21 rfl (by decide +kernel) rfl rfl (fun μ4 hμ4 => ?_)
  refine sx_aload_n (pc := 24) dX3_init_24 rfl rfl ?_
  refine sx_iconst (pc := 25) (v := (-1)) dX3_init_25 (by decide) ?_
  refine sx_puti (pc := 26) (ci := 3) (j := 4) (ty := .int) dX3_init_26 rfl (xg_k hk) rfl (by decide) lf_X3_24 rfl (by decide +kernel) rfl rfl (fun μ5 hμ5 => ?_)
  exact sx_vret (pc := 29) dX3_init_29 rfl (Nat.le_of_ble_eq_true rfl) (Nat.le_of_ble_eq_true rfl) (by subst hμ5; subst hμ4; subst hμ3; subst hμ2; subst hμ1; exact ⟨rfl, rfl, fun a h1 h2 => by funext j; simp [xup_at, h2]⟩)
end
section
set_option maxHeartbeats 1000000 in
set_option maxRecDepth 20000 in
theorem c_Line_init (X : xD) (sh : List xS) (μ : xM) (k : Nat) (hs : sh[k]? = some (.inl (2, fl0_2)))  (S : List xS) : Ct X ExA true yX2_init kX2_init ({ frames := 2, cells := 8, slots := 151, locals := 80 } : Room) [.ref (X.2 + k)] sh μ (fun r sh' μ' => r = none ∧ sh.set k (.inl (2, [rr sh.length, none, none, none, none, none, rr (sh.length + 1), rr (sh.length + 3), rr (sh.length + 5), rr (sh.length + 6), rr (sh.length + 7), none])) ++ [shI 60, .inl (4, [rr (sh.length + 2), none]), shI 13, .inl (4, [rr (sh.length + 4), none]), shI 13, shI 20, shI 20, shI 20] = sh' ∧ (∀ a, a < sh.length → a ≠ k → μ' a = μ a) ∧ μ' k 1 = 0 ∧ μ' k 2 = 0 ∧ μ' k 3 = 0 ∧ μ' k 4 = (-1) ∧ μ' k 5 = 0 ∧ μ' k 11 = 0 ∧ μ' (sh.length + 1) 1 = 0 ∧ μ' (sh.length + 3) 1 = 0) := by
  have hk : k < sh.length := (List.getElem?_eq_some_iff.mp hs).1
  refine Ct.of (L0 := [some (.ref (X.2 + k))]) (by decide) rfl (fun _ => rfl) (by simp [Value.category]) (Nat.le_of_ble_eq_true rfl) rfl (fun l => ?_)
  rw [show sx l ({ frames := 2, cells := 8, slots := 151, locals := 80 } : Room) X ExA true kX2_init sh.length (xZ X true sh.length (fun r sh' μ' => r = none ∧ sh.set k (.inl (2, [rr sh.length, none, none, none, none, none, rr (sh.length + 1), rr (sh.length + 3), rr (sh.length + 5), rr (sh.length + 6), rr (sh.length + 7), none])) ++ [shI 60, .inl (4, [rr (sh.length + 2), none]), shI 13, .inl (4, [rr (sh.length + 4), none]), shI 13, shI 20, shI 20, shI 20] = sh' ∧ (∀ a, a < sh.length → a ≠ k → μ' a = μ a) ∧ μ' k 1 = 0 ∧ μ' k 2 = 0 ∧ μ' k 3 = 0 ∧ μ' k 4 = (-1) ∧ μ' k 5 = 0 ∧ μ' k 11 = 0 ∧ μ' (sh.length + 1) 1 = 0 ∧ μ' (sh.length + 3) 1 = 0) ({ frames := 2, cells := 8, slots := 151, locals := 80 } : Room).cells ({ frames := 2, cells := 8, slots := 151, locals := 80 } : Room).slots) 0 [some (.ref (X.2 + k))] [] sh μ 0 0 = sx l ({ frames := 2, cells := 8, slots := 151, locals := 80 } : Room) X ExA true kX2_init sh.length (xZ X true sh.length (fun r sh' μ' => r = none ∧ sh.set k (.inl (2, [rr sh.length, none, none, none, none, none, rr (sh.length + 1), rr (sh.length + 3), rr (sh.length + 5), rr (sh.length + 6), rr (sh.length + 7), none])) ++ [shI 60, .inl (4, [rr (sh.length + 2), none]), shI 13, .inl (4, [rr (sh.length + 4), none]), shI 13, shI 20, shI 20, shI 20] = sh' ∧ (∀ a, a < sh.length → a ≠ k → μ' a = μ a) ∧ μ' k 1 = 0 ∧ μ' k 2 = 0 ∧ μ' k 3 = 0 ∧ μ' k 4 = (-1) ∧ μ' k 5 = 0 ∧ μ' k 11 = 0 ∧ μ' (sh.length + 1) 1 = 0 ∧ μ' (sh.length + 3) 1 = 0) ({ frames := 2, cells := 8, slots := 151, locals := 80 } : Room).cells ({ frames := 2, cells := 8, slots := 151, locals := 80 } : Room).slots) 0 [some (.ref (X.2 + k))] [] (sh.set k (.inl (2, fl0_2)) ++ []) μ 0 0 by rw [List.append_nil, xsame hs]]
  refine sx_aload_n (pc := 0) dX2_init_0 rfl rfl ?_
  refine sx_objInit (pc := 1) dX2_init_1 lm_X2_3 w_oi w_oc (Nat.le_of_ble_eq_true rfl) (Nat.le_of_ble_eq_true rfl) ?_
  refine sx_aload_n (pc := 4) dX2_init_4 rfl rfl ?_
  refine sx_bipush (pc := 5) (v := 60) dX2_init_5 (by decide) ?_
  refine sx_newaL (pc := 7) (ti := 1) (N := 60) (n1 := sh.length) (sh' := sh.set k (.inl (2, [some none, none, none, none, none, none, some none, some none, some none, some none, some none, none])) ++ [shI 60]) xl_n dX2_init_7 w_ai rfl rfl rfl (by decide) (by decide) (by decide) (List.append_assoc _ _ _) (Nat.le_of_ble_eq_true rfl) (Nat.le_of_ble_eq_true rfl) (fun _ _ h => h) (fun μ1 hμ1 => ?_)
  refine sx_putrFm (pc := 9) (ci := 2) (j := 0) (r := sh.length) (sh' := sh.set k (.inl (2, [rr (sh.length), none, none, none, none, none, some none, some none, some none, some none, some none, none])) ++ [shI 60]) dX2_init_9 rfl (xg_k hk) (Nat.le_of_ble_eq_true rfl) (by decide) lf_X2_9 rfl rfl rfl (tyX2_ok 0 (by decide)) rfl rfl (xs_k hk) (fun μ2 hμ2 => ?_)
  refine sx_aload_n (pc := 12) dX2_init_12 rfl rfl ?_
  refine sx_iconst (pc := 13) (v := 0) dX2_init_13 (by decide) ?_
  refine sx_puti (pc := 14) (ci := 2) (j := 1) (ty := .int) dX2_init_14 rfl (xg_k hk) rfl (by decide) lf_X2_15 rfl (by decide +kernel) rfl rfl (fun μ3 hμ3 => ?_)
  refine sx_aload_n (pc := 17) dX2_init_17 rfl rfl ?_
  refine sx_iconst (pc := 18) (v := 0) dX2_init_18 (by decide) ?_
  refine sx_puti (pc := 19) (ci := 2) (j := 2) (ty := .boolean) dX2_init_19 rfl (xg_k hk) rfl (by decide) lf_X2_19 rfl (by decide +kernel) rfl rfl (fun μ4 hμ4 => ?_)
  refine sx_aload_n (pc := 22) dX2_init_22 rfl rfl ?_
  refine sx_iconst (pc := 23) (v := 0) dX2_init_23 (by decide) ?_
  refine sx_puti (pc := 24) (ci := 2) (j := 3) (ty := .boolean) dX2_init_24 rfl (xg_k hk) rfl (by decide) lf_X2_23 rfl (by decide +kernel) rfl rfl (fun μ5 hμ5 => ?_)
  refine sx_aload_n (pc := 27) dX2_init_27 rfl rfl ?_
  refine sx_iconst (pc := 28) (v := (-1)) dX2_init_28 (by decide) ?_
  refine sx_puti (pc := 29) (ci := 2) (j := 4) (ty := .int) dX2_init_29 rfl (xg_k hk) rfl (by decide) lf_X2_26 rfl (by decide +kernel) rfl rfl (fun μ6 hμ6 => ?_)
  refine sx_aload_n (pc := 32) dX2_init_32 rfl rfl ?_
  refine sx_iconst (pc := 33) (v := 0) dX2_init_33 (by decide) ?_
  refine sx_puti (pc := 34) (ci := 2) (j := 5) (ty := .int) dX2_init_34 rfl (xg_k hk) rfl (by decide) lf_X2_29 rfl (by decide +kernel) rfl rfl (fun μ7 hμ7 => ?_)
  refine sx_aload_n (pc := 37) dX2_init_37 rfl rfl ?_
  refine sx_newL (pc := 38) (ci := 4) (fl := fl0_4) (n1 := sh.length + 1) (sh' := sh.set k (.inl (2, [rr (sh.length), none, none, none, none, none, some none, some none, some none, some none, some none, none])) ++ [shI 60, .inl (4, fl0_4)]) xl_n dX2_init_38 rfl lc_X2_32 in_4 ii_4 nf_4 (List.append_assoc _ _ _) (Nat.le_of_ble_eq_true rfl) (Nat.le_of_ble_eq_true rfl) (fun μ8 hμ8 => ?_)
  refine sx_dup (pc := 41) dX2_init_41 rfl ?_
  refine sx_callIN (host := "ExchangeWire") (pc := 42) (As := []) (k := sh.length + 1) rfl dX2_init_42 (c_Reply_init X _ μ8 (sh.length + 1) (xg_t 1 rfl) []) mX4_init (by decide +kernel) rfl ⟨(Nat.le_of_ble_eq_true rfl), (Nat.le_of_ble_eq_true rfl)⟩ ⟨(Nat.le_of_ble_eq_true rfl), (Nat.le_of_ble_eq_true rfl)⟩ (Nat.le_of_ble_eq_true rfl) ExA_st (fun r_42 sh_42 μ9 h_42 => ?_)
  obtain ⟨rfl, e_42, k_42, z_42⟩ := h_42
  have e2_42 : sh.set k (.inl (2, [rr (sh.length), none, none, none, none, none, some none, some none, some none, some none, some none, none])) ++ [shI 60, .inl (4, [rr (sh.length + 2), none]), shI 13] = sh_42 := by rw [← e_42, xs_t 1, xl_n, List.append_assoc]; rfl
  subst e2_42
  have q_42 : ∀ a, a < sh.length + 1 → μ9 a = μ8 a := fun a ha => k_42 a (by rw [xl_n]; exact Nat.lt_of_lt_of_le ha (Nat.add_le_add_left (Nat.le_of_ble_eq_true rfl) _)) (by omega)
  refine sx_putrFm (pc := 45) (ci := 2) (j := 6) (r := sh.length + 1) (sh' := sh.set k (.inl (2, [rr (sh.length), none, none, none, none, none, rr (sh.length + 1), some none, some none, some none, some none, none])) ++ [shI 60, .inl (4, [rr (sh.length + 2), none]), shI 13]) dX2_init_45 rfl (xg_k hk) (Nat.le_of_ble_eq_true rfl) (by decide) lf_X2_35 rfl rfl rfl (tyX2_ok 6 (by decide)) rfl rfl (xs_k hk) (fun μ10 hμ10 => ?_)
  refine sx_aload_n (pc := 48) dX2_init_48 rfl rfl ?_
  refine sx_newL (pc := 49) (ci := 4) (fl := fl0_4) (n1 := sh.length + 3) (sh' := sh.set k (.inl (2, [rr (sh.length), none, none, none, none, none, rr (sh.length + 1), some none, some none, some none, some none, none])) ++ [shI 60, .inl (4, [rr (sh.length + 2), none]), shI 13, .inl (4, fl0_4)]) xl_n dX2_init_49 rfl lc_X2_32 in_4 ii_4 nf_4 (List.append_assoc _ _ _) (Nat.le_of_ble_eq_true rfl) (Nat.le_of_ble_eq_true rfl) (fun μ11 hμ11 => ?_)
  refine sx_dup (pc := 52) dX2_init_52 rfl ?_
  refine sx_callIN (host := "ExchangeWire") (pc := 53) (As := []) (k := sh.length + 3) rfl dX2_init_53 (c_Reply_init X _ μ11 (sh.length + 3) (xg_t 3 rfl) []) mX4_init (by decide +kernel) rfl ⟨(Nat.le_of_ble_eq_true rfl), (Nat.le_of_ble_eq_true rfl)⟩ ⟨(Nat.le_of_ble_eq_true rfl), (Nat.le_of_ble_eq_true rfl)⟩ (Nat.le_of_ble_eq_true rfl) ExA_st (fun r_53 sh_53 μ12 h_53 => ?_)
  obtain ⟨rfl, e_53, k_53, z_53⟩ := h_53
  have e2_53 : sh.set k (.inl (2, [rr (sh.length), none, none, none, none, none, rr (sh.length + 1), some none, some none, some none, some none, none])) ++ [shI 60, .inl (4, [rr (sh.length + 2), none]), shI 13, .inl (4, [rr (sh.length + 4), none]), shI 13] = sh_53 := by rw [← e_53, xs_t 3, xl_n, List.append_assoc]; rfl
  subst e2_53
  have q_53 : ∀ a, a < sh.length + 3 → μ12 a = μ11 a := fun a ha => k_53 a (by rw [xl_n]; exact Nat.lt_of_lt_of_le ha (Nat.add_le_add_left (Nat.le_of_ble_eq_true rfl) _)) (by omega)
  refine sx_putrFm (pc := 56) (ci := 2) (j := 7) (r := sh.length + 3) (sh' := sh.set k (.inl (2, [rr (sh.length), none, none, none, none, none, rr (sh.length + 1), rr (sh.length + 3), some none, some none, some none, none])) ++ [shI 60, .inl (4, [rr (sh.length + 2), none]), shI 13, .inl (4, [rr (sh.length + 4), none]), shI 13]) dX2_init_56 rfl (xg_k hk) (Nat.le_of_ble_eq_true rfl) (by decide) lf_X2_39 rfl rfl rfl (tyX2_ok 7 (by decide)) rfl rfl (xs_k hk) (fun μ13 hμ13 => ?_)
  refine sx_aload_n (pc := 59) dX2_init_59 rfl rfl ?_
  refine sx_bipush (pc := 60) (v := 20) dX2_init_60 (by decide) ?_
  refine sx_newaL (pc := 62) (ti := 1) (N := 20) (n1 := sh.length + 5) (sh' := sh.set k (.inl (2, [rr (sh.length), none, none, none, none, none, rr (sh.length + 1), rr (sh.length + 3), some none, some none, some none, none])) ++ [shI 60, .inl (4, [rr (sh.length + 2), none]), shI 13, .inl (4, [rr (sh.length + 4), none]), shI 13, shI 20]) xl_n dX2_init_62 w_ai rfl rfl rfl (by decide) (by decide) (by decide) (List.append_assoc _ _ _) (Nat.le_of_ble_eq_true rfl) (Nat.le_of_ble_eq_true rfl) (fun _ _ h => h) (fun μ14 hμ14 => ?_)
  refine sx_putrFm (pc := 64) (ci := 2) (j := 8) (r := sh.length + 5) (sh' := sh.set k (.inl (2, [rr (sh.length), none, none, none, none, none, rr (sh.length + 1), rr (sh.length + 3), rr (sh.length + 5), some none, some none, none])) ++ [shI 60, .inl (4, [rr (sh.length + 2), none]), shI 13, .inl (4, [rr (sh.length + 4), none]), shI 13, shI 20]) dX2_init_64 rfl (xg_k hk) (Nat.le_of_ble_eq_true rfl) (by decide) lf_X2_42 rfl rfl rfl (tyX2_ok 8 (by decide)) rfl rfl (xs_k hk) (fun μ15 hμ15 => ?_)
  refine sx_aload_n (pc := 67) dX2_init_67 rfl rfl ?_
  refine sx_bipush (pc := 68) (v := 20) dX2_init_68 (by decide) ?_
  refine sx_newaL (pc := 70) (ti := 1) (N := 20) (n1 := sh.length + 6) (sh' := sh.set k (.inl (2, [rr (sh.length), none, none, none, none, none, rr (sh.length + 1), rr (sh.length + 3), rr (sh.length + 5), some none, some none, none])) ++ [shI 60, .inl (4, [rr (sh.length + 2), none]), shI 13, .inl (4, [rr (sh.length + 4), none]), shI 13, shI 20, shI 20]) xl_n dX2_init_70 w_ai rfl rfl rfl (by decide) (by decide) (by decide) (List.append_assoc _ _ _) (Nat.le_of_ble_eq_true rfl) (Nat.le_of_ble_eq_true rfl) (fun _ _ h => h) (fun μ16 hμ16 => ?_)
  refine sx_putrFm (pc := 72) (ci := 2) (j := 9) (r := sh.length + 6) (sh' := sh.set k (.inl (2, [rr (sh.length), none, none, none, none, none, rr (sh.length + 1), rr (sh.length + 3), rr (sh.length + 5), rr (sh.length + 6), some none, none])) ++ [shI 60, .inl (4, [rr (sh.length + 2), none]), shI 13, .inl (4, [rr (sh.length + 4), none]), shI 13, shI 20, shI 20]) dX2_init_72 rfl (xg_k hk) (Nat.le_of_ble_eq_true rfl) (by decide) lf_X2_45 rfl rfl rfl (tyX2_ok 9 (by decide)) rfl rfl (xs_k hk) (fun μ17 hμ17 => ?_)
  refine sx_aload_n (pc := 75) dX2_init_75 rfl rfl ?_
  refine sx_bipush (pc := 76) (v := 20) dX2_init_76 (by decide) ?_
  refine sx_newaL (pc := 78) (ti := 1) (N := 20) (n1 := sh.length + 7) (sh' := sh.set k (.inl (2, [rr (sh.length), none, none, none, none, none, rr (sh.length + 1), rr (sh.length + 3), rr (sh.length + 5), rr (sh.length + 6), some none, none])) ++ [shI 60, .inl (4, [rr (sh.length + 2), none]), shI 13, .inl (4, [rr (sh.length + 4), none]), shI 13, shI 20, shI 20, shI 20]) xl_n dX2_init_78 w_ai rfl rfl rfl (by decide) (by decide) (by decide) (List.append_assoc _ _ _) (Nat.le_of_ble_eq_true rfl) (Nat.le_of_ble_eq_true rfl) (fun _ _ h => h) (fun μ18 hμ18 => ?_)
  refine sx_putrFm (pc := 80) (ci := 2) (j := 10) (r := sh.length + 7) (sh' := sh.set k (.inl (2, [rr (sh.length), none, none, none, none, none, rr (sh.length + 1), rr (sh.length + 3), rr (sh.length + 5), rr (sh.length + 6), rr (sh.length + 7), none])) ++ [shI 60, .inl (4, [rr (sh.length + 2), none]), shI 13, .inl (4, [rr (sh.length + 4), none]), shI 13, shI 20, shI 20, shI 20]) dX2_init_80 rfl (xg_k hk) (Nat.le_of_ble_eq_true rfl) (by decide) lf_X2_48 rfl rfl rfl (tyX2_ok 10 (by decide)) rfl rfl (xs_k hk) (fun μ19 hμ19 => ?_)
  refine sx_aload_n (pc := 83) dX2_init_83 rfl rfl ?_
  refine sx_iconst (pc := 84) (v := 0) dX2_init_84 (by decide) ?_
  refine sx_puti (pc := 85) (ci := 2) (j := 11) (ty := .int) dX2_init_85 rfl (xg_k hk) rfl (by decide) lf_X2_51 rfl (by decide +kernel) rfl rfl (fun μ20 hμ20 => ?_)
  exact sx_vret (pc := 88) dX2_init_88 rfl (Nat.le_of_ble_eq_true rfl) (Nat.le_of_ble_eq_true rfl) (by subst hμ20; subst hμ19; subst hμ18; subst hμ17; subst hμ16; subst hμ15; subst hμ14; subst hμ13; subst hμ11; subst hμ10; subst hμ8; subst hμ7; subst hμ6; subst hμ5; subst hμ4; subst hμ3; subst hμ2; subst hμ1; exact ⟨rfl, rfl, fun a h1 h2 => by funext j; simp [xup_at, va_up, h2, q_42 a (by omega), q_53 a (by omega), Nat.ne_of_lt h1, show a ≠ sh.length + 1 by omega, show a ≠ sh.length + 3 by omega, show a ≠ sh.length + 5 by omega, show a ≠ sh.length + 6 by omega, show a ≠ sh.length + 7 by omega], by simp [xup_at, va_up, q_42 k (by omega), q_53 k (by omega), Nat.ne_of_lt hk, show k ≠ sh.length + 1 by omega, show k ≠ sh.length + 3 by omega, show k ≠ sh.length + 5 by omega, show k ≠ sh.length + 6 by omega, show k ≠ sh.length + 7 by omega], by simp [xup_at, va_up, q_42 k (by omega), q_53 k (by omega), Nat.ne_of_lt hk, show k ≠ sh.length + 1 by omega, show k ≠ sh.length + 3 by omega, show k ≠ sh.length + 5 by omega, show k ≠ sh.length + 6 by omega, show k ≠ sh.length + 7 by omega], by simp [xup_at, va_up, q_42 k (by omega), q_53 k (by omega), Nat.ne_of_lt hk, show k ≠ sh.length + 1 by omega, show k ≠ sh.length + 3 by omega, show k ≠ sh.length + 5 by omega, show k ≠ sh.length + 6 by omega, show k ≠ sh.length + 7 by omega], by simp [xup_at, va_up, q_42 k (by omega), q_53 k (by omega), Nat.ne_of_lt hk, show k ≠ sh.length + 1 by omega, show k ≠ sh.length + 3 by omega, show k ≠ sh.length + 5 by omega, show k ≠ sh.length + 6 by omega, show k ≠ sh.length + 7 by omega], by simp [xup_at, va_up, q_42 k (by omega), q_53 k (by omega), Nat.ne_of_lt hk, show k ≠ sh.length + 1 by omega, show k ≠ sh.length + 3 by omega, show k ≠ sh.length + 5 by omega, show k ≠ sh.length + 6 by omega, show k ≠ sh.length + 7 by omega], by simp [xup_at, va_up, q_42 k (by omega), q_53 k (by omega), Nat.ne_of_lt hk, show k ≠ sh.length + 1 by omega, show k ≠ sh.length + 3 by omega, show k ≠ sh.length + 5 by omega, show k ≠ sh.length + 6 by omega, show k ≠ sh.length + 7 by omega], by simp [xup_at, va_up, q_53 (sh.length + 1) (by omega), z_42, show sh.length + 1 ≠ k by omega], by simp [xup_at, va_up, z_53, show sh.length + 3 ≠ k by omega]⟩)
set_option maxHeartbeats 1000000 in
set_option maxRecDepth 20000 in
theorem l_Model {X : xD} {l : Launch} {Z : List Frame → Array Value → State → State → Prop} {sh : List xS} {k : Nat} {μ0 : xM} (hk : k < sh.length)
    (hZ : ∀ (μ : xM) (i : Int32), (∀ j, j < 6 → μ (sh.length + 4) j = (-1)) → (∀ a, a ≠ sh.length + 4 → μ a = μ0 a) → sx l ({ frames := 1, cells := 20, slots := 7148, locals := 30 } : Room) X ExA true kX6_init sh.length Z 190 [some (.ref (X.2 + k)), some (.int i)] [] (sh.set k (.inl (6, [none, rr (sh.length), rr (sh.length + 1), rr (sh.length + 2), rr (sh.length + 3), rr (sh.length + 4), rr (sh.length + 5), rr (sh.length + 6), rr (sh.length + 7), rr (sh.length + 8), rr (sh.length + 9), rr (sh.length + 10), rr (sh.length + 11), rr (sh.length + 12), rr (sh.length + 13), rr (sh.length + 14), rr (sh.length + 15), rr (sh.length + 16), rr (sh.length + 17), rr (sh.length + 18), none, rr (sh.length + 19), none, none, none, none, none, none, none, none])) ++ [shI 6, .inr (2, 360, none), .inr (3, 6, none), .inr (3, 6, none), shI 6, shI 6, shI 6, .inr (2, 180, none), shI 6, .inr (2, 180, none), shI 6, shI 120, shI 120, shI 120, shI 30, shI 30, shI 30, shI 30, shI 900, shI 5000]) μ 20 7148) :
    ∀ (m j : Nat) (μ : xM), 6 - j ≤ m → j ≤ 6 → (∀ b, b < j → μ (sh.length + 4) b = (-1)) → (∀ a, a ≠ sh.length + 4 → μ a = μ0 a) → sx l ({ frames := 1, cells := 20, slots := 7148, locals := 30 } : Room) X ExA true kX6_init sh.length Z 171 [some (.ref (X.2 + k)), some (.int (nI j))] [] (sh.set k (.inl (6, [none, rr (sh.length), rr (sh.length + 1), rr (sh.length + 2), rr (sh.length + 3), rr (sh.length + 4), rr (sh.length + 5), rr (sh.length + 6), rr (sh.length + 7), rr (sh.length + 8), rr (sh.length + 9), rr (sh.length + 10), rr (sh.length + 11), rr (sh.length + 12), rr (sh.length + 13), rr (sh.length + 14), rr (sh.length + 15), rr (sh.length + 16), rr (sh.length + 17), rr (sh.length + 18), none, rr (sh.length + 19), none, none, none, none, none, none, none, none])) ++ [shI 6, .inr (2, 360, none), .inr (3, 6, none), .inr (3, 6, none), shI 6, shI 6, shI 6, .inr (2, 180, none), shI 6, .inr (2, 180, none), shI 6, shI 120, shI 120, shI 120, shI 30, shI 30, shI 30, shI 30, shI 900, shI 5000]) μ 20 7148 := by
  intro m
  induction m with
  | zero =>
    intro j μ hm hj h1 h2
    have hjn : j = 6 := by omega
    subst hjn
    refine sx_iload_n (pc := 171) dX6_init_171 rfl rfl ?_
    refine sx_bipush (pc := 172) (v := 6) dX6_init_172 (by decide) ?_
    exact sx_icmp_ge (pc := 174) (tgt := 190) dX6_init_174 (by decide) (fun _ => hZ μ _ h1 h2) (fun q => absurd (by decide) q)
  | succ m ih =>
    intro j μ hm hj h1 h2
    refine sx_iload_n (pc := 171) dX6_init_171 rfl rfl ?_
    refine sx_bipush (pc := 172) (v := 6) dX6_init_172 (by decide) ?_
    refine sx_icmp_ge (pc := 174) (tgt := 190) dX6_init_174 (by decide) (fun q => ?_) (fun q => ?_)
    · have hj6 : j = 6 := by
        by_cases hlt : j < 6
        · exact absurd q (nI_ge hlt (by decide))
        · omega
      subst hj6
      exact hZ μ _ h1 h2
    · have hlt : j < 6 := Nat.lt_of_not_le fun z => q (nI_le z (by omega))
      refine sx_aload_n (pc := 177) dX6_init_177 rfl rfl ?_
      refine sx_getr (pc := 178) (ci := 6) (j := 5) (r := sh.length + 4) dX6_init_178 rfl (xg_k hk) rfl (by decide) lf_X6_24 ?_
      refine sx_iload_n (pc := 181) dX6_init_181 rfl rfl ?_
      refine sx_iconst (pc := 182) (v := (-1)) dX6_init_182 (by decide) ?_
      refine sx_iast (pc := 183) (ti := 1) (n := 6) dX6_init_183 (xg_t 4 rfl) (by decide) rfl (vp_in_nI hlt (by decide)) (fun μ1 hμ1 => ?_)
      refine sx_iinc (pc := 184) (v := nI (j + 1)) (L' := [some (.ref (X.2 + k)), some (.int (nI (j + 1)))]) dX6_init_184 rfl (nI_1 j) (by decide) rfl ?_
      refine sx_goto (pc := 187) (tgt := 171) dX6_init_187 (by decide) ?_
      refine ih (j + 1) μ1 (by omega) (by omega) (fun b hb => ?_) (fun a ha => ?_)
      · rw [hμ1, xup_at, nI_clamp (by omega)]
        by_cases e : b = j
        · rw [if_pos ⟨rfl, e⟩]
        · rw [if_neg (fun z => e z.2)]
          exact h1 b (by omega)
      · rw [hμ1, ← h2 a ha]
        funext b
        rw [xup_at, if_neg (fun z => ha z.1)]
set_option maxHeartbeats 1000000 in
set_option maxRecDepth 20000 in
theorem c_Model_init (X : xD) (sh : List xS) (μ : xM) (k : Nat) (hs : sh[k]? = some (.inl (6, fl0_6))) (hz : ∀ j, μ k j = 0) (S : List xS) : Ct X ExA true yX6_init kX6_init ({ frames := 1, cells := 20, slots := 7148, locals := 30 } : Room) [.ref (X.2 + k)] sh μ (fun r sh' μ' => r = none ∧ sh.set k (.inl (6, [none, rr (sh.length), rr (sh.length + 1), rr (sh.length + 2), rr (sh.length + 3), rr (sh.length + 4), rr (sh.length + 5), rr (sh.length + 6), rr (sh.length + 7), rr (sh.length + 8), rr (sh.length + 9), rr (sh.length + 10), rr (sh.length + 11), rr (sh.length + 12), rr (sh.length + 13), rr (sh.length + 14), rr (sh.length + 15), rr (sh.length + 16), rr (sh.length + 17), rr (sh.length + 18), none, rr (sh.length + 19), none, none, none, none, none, none, none, none])) ++ [shI 6, .inr (2, 360, none), .inr (3, 6, none), .inr (3, 6, none), shI 6, shI 6, shI 6, .inr (2, 180, none), shI 6, .inr (2, 180, none), shI 6, shI 120, shI 120, shI 120, shI 30, shI 30, shI 30, shI 30, shI 900, shI 5000] = sh' ∧ (∀ a, a < sh.length → a ≠ k → μ' a = μ a) ∧ μ' k 0 = 0 ∧ μ' k 20 = 0 ∧ μ' k 22 = 0 ∧ (∀ a, sh.length ≤ a → a < sh.length + 20 → a ≠ sh.length + 4 → ∀ j, μ' a j = 0) ∧ ∀ j, j < 6 → μ' (sh.length + 4) j = (-1)) := by
  have hk : k < sh.length := (List.getElem?_eq_some_iff.mp hs).1
  refine Ct.of (L0 := [some (.ref (X.2 + k)), none]) (by decide) rfl (fun _ => rfl) (by simp [Value.category]) (Nat.le_of_ble_eq_true rfl) rfl (fun l => ?_)
  rw [show sx l ({ frames := 1, cells := 20, slots := 7148, locals := 30 } : Room) X ExA true kX6_init sh.length (xZ X true sh.length (fun r sh' μ' => r = none ∧ sh.set k (.inl (6, [none, rr (sh.length), rr (sh.length + 1), rr (sh.length + 2), rr (sh.length + 3), rr (sh.length + 4), rr (sh.length + 5), rr (sh.length + 6), rr (sh.length + 7), rr (sh.length + 8), rr (sh.length + 9), rr (sh.length + 10), rr (sh.length + 11), rr (sh.length + 12), rr (sh.length + 13), rr (sh.length + 14), rr (sh.length + 15), rr (sh.length + 16), rr (sh.length + 17), rr (sh.length + 18), none, rr (sh.length + 19), none, none, none, none, none, none, none, none])) ++ [shI 6, .inr (2, 360, none), .inr (3, 6, none), .inr (3, 6, none), shI 6, shI 6, shI 6, .inr (2, 180, none), shI 6, .inr (2, 180, none), shI 6, shI 120, shI 120, shI 120, shI 30, shI 30, shI 30, shI 30, shI 900, shI 5000] = sh' ∧ (∀ a, a < sh.length → a ≠ k → μ' a = μ a) ∧ μ' k 0 = 0 ∧ μ' k 20 = 0 ∧ μ' k 22 = 0 ∧ (∀ a, sh.length ≤ a → a < sh.length + 20 → a ≠ sh.length + 4 → ∀ j, μ' a j = 0) ∧ ∀ j, j < 6 → μ' (sh.length + 4) j = (-1)) ({ frames := 1, cells := 20, slots := 7148, locals := 30 } : Room).cells ({ frames := 1, cells := 20, slots := 7148, locals := 30 } : Room).slots) 0 [some (.ref (X.2 + k)), none] [] sh μ 0 0 = sx l ({ frames := 1, cells := 20, slots := 7148, locals := 30 } : Room) X ExA true kX6_init sh.length (xZ X true sh.length (fun r sh' μ' => r = none ∧ sh.set k (.inl (6, [none, rr (sh.length), rr (sh.length + 1), rr (sh.length + 2), rr (sh.length + 3), rr (sh.length + 4), rr (sh.length + 5), rr (sh.length + 6), rr (sh.length + 7), rr (sh.length + 8), rr (sh.length + 9), rr (sh.length + 10), rr (sh.length + 11), rr (sh.length + 12), rr (sh.length + 13), rr (sh.length + 14), rr (sh.length + 15), rr (sh.length + 16), rr (sh.length + 17), rr (sh.length + 18), none, rr (sh.length + 19), none, none, none, none, none, none, none, none])) ++ [shI 6, .inr (2, 360, none), .inr (3, 6, none), .inr (3, 6, none), shI 6, shI 6, shI 6, .inr (2, 180, none), shI 6, .inr (2, 180, none), shI 6, shI 120, shI 120, shI 120, shI 30, shI 30, shI 30, shI 30, shI 900, shI 5000] = sh' ∧ (∀ a, a < sh.length → a ≠ k → μ' a = μ a) ∧ μ' k 0 = 0 ∧ μ' k 20 = 0 ∧ μ' k 22 = 0 ∧ (∀ a, sh.length ≤ a → a < sh.length + 20 → a ≠ sh.length + 4 → ∀ j, μ' a j = 0) ∧ ∀ j, j < 6 → μ' (sh.length + 4) j = (-1)) ({ frames := 1, cells := 20, slots := 7148, locals := 30 } : Room).cells ({ frames := 1, cells := 20, slots := 7148, locals := 30 } : Room).slots) 0 [some (.ref (X.2 + k)), none] [] (sh.set k (.inl (6, fl0_6)) ++ []) μ 0 0 by rw [List.append_nil, xsame hs]]
  refine sx_aload_n (pc := 0) dX6_init_0 rfl rfl ?_
  refine sx_objInit (pc := 1) dX6_init_1 lm_X6_1 w_oi w_oc (Nat.le_of_ble_eq_true rfl) (Nat.le_of_ble_eq_true rfl) ?_
  refine sx_aload_n (pc := 4) dX6_init_4 rfl rfl ?_
  refine sx_bipush (pc := 5) (v := 6) dX6_init_5 (by decide) ?_
  refine sx_newaL (pc := 7) (ti := 1) (N := 6) (n1 := sh.length) (sh' := sh.set k (.inl (6, [none, some none, some none, some none, some none, some none, some none, some none, some none, some none, some none, some none, some none, some none, some none, some none, some none, some none, some none, some none, none, some none, none, none, none, none, none, none, none, none])) ++ [shI 6]) xl_n dX6_init_7 w_ai rfl rfl rfl (by decide) (by decide) (by decide) (List.append_assoc _ _ _) (Nat.le_of_ble_eq_true rfl) (Nat.le_of_ble_eq_true rfl) (fun _ _ h => h) (fun μ1 hμ1 => ?_)
  refine sx_putrFm (pc := 9) (ci := 6) (j := 1) (r := sh.length) (sh' := sh.set k (.inl (6, [none, rr (sh.length), some none, some none, some none, some none, some none, some none, some none, some none, some none, some none, some none, some none, some none, some none, some none, some none, some none, some none, none, some none, none, none, none, none, none, none, none, none])) ++ [shI 6]) dX6_init_9 rfl (xg_k hk) (Nat.le_of_ble_eq_true rfl) (by decide) lf_X6_7 rfl rfl rfl (tyX6_ok 1 (by decide)) rfl rfl (xs_k hk) (fun μ2 hμ2 => ?_)
  refine sx_aload_n (pc := 12) dX6_init_12 rfl rfl ?_
  refine sx_sipush (pc := 13) (v := 360) dX6_init_13 (by decide) ?_
  refine sx_newaL (pc := 16) (ti := 2) (N := 360) (n1 := sh.length + 1) (sh' := sh.set k (.inl (6, [none, rr (sh.length), some none, some none, some none, some none, some none, some none, some none, some none, some none, some none, some none, some none, some none, some none, some none, some none, some none, some none, none, some none, none, none, none, none, none, none, none, none])) ++ [shI 6, .inr (2, 360, none)]) xl_n dX6_init_16 w_ab rfl rfl rfl (by decide) (by decide) (by decide) (List.append_assoc _ _ _) (Nat.le_of_ble_eq_true rfl) (Nat.le_of_ble_eq_true rfl) (fun _ _ h => h) (fun μ3 hμ3 => ?_)
  refine sx_putrFm (pc := 18) (ci := 6) (j := 2) (r := sh.length + 1) (sh' := sh.set k (.inl (6, [none, rr (sh.length), rr (sh.length + 1), some none, some none, some none, some none, some none, some none, some none, some none, some none, some none, some none, some none, some none, some none, some none, some none, some none, none, some none, none, none, none, none, none, none, none, none])) ++ [shI 6, .inr (2, 360, none)]) dX6_init_18 rfl (xg_k hk) (Nat.le_of_ble_eq_true rfl) (by decide) lf_X6_13 rfl rfl rfl (tyX6_ok 2 (by decide)) rfl rfl (xs_k hk) (fun μ4 hμ4 => ?_)
  refine sx_aload_n (pc := 21) dX6_init_21 rfl rfl ?_
  refine sx_bipush (pc := 22) (v := 6) dX6_init_22 (by decide) ?_
  refine sx_newaL (pc := 24) (ti := 3) (N := 6) (n1 := sh.length + 2) (sh' := sh.set k (.inl (6, [none, rr (sh.length), rr (sh.length + 1), some none, some none, some none, some none, some none, some none, some none, some none, some none, some none, some none, some none, some none, some none, some none, some none, some none, none, some none, none, none, none, none, none, none, none, none])) ++ [shI 6, .inr (2, 360, none), .inr (3, 6, none)]) xl_n dX6_init_24 w_az rfl rfl rfl (by decide) (by decide) (by decide) (List.append_assoc _ _ _) (Nat.le_of_ble_eq_true rfl) (Nat.le_of_ble_eq_true rfl) (fun _ _ h => h) (fun μ5 hμ5 => ?_)
  refine sx_putrFm (pc := 26) (ci := 6) (j := 3) (r := sh.length + 2) (sh' := sh.set k (.inl (6, [none, rr (sh.length), rr (sh.length + 1), rr (sh.length + 2), some none, some none, some none, some none, some none, some none, some none, some none, some none, some none, some none, some none, some none, some none, some none, some none, none, some none, none, none, none, none, none, none, none, none])) ++ [shI 6, .inr (2, 360, none), .inr (3, 6, none)]) dX6_init_26 rfl (xg_k hk) (Nat.le_of_ble_eq_true rfl) (by decide) lf_X6_17 rfl rfl rfl (tyX6_ok 3 (by decide)) rfl rfl (xs_k hk) (fun μ6 hμ6 => ?_)
  refine sx_aload_n (pc := 29) dX6_init_29 rfl rfl ?_
  refine sx_bipush (pc := 30) (v := 6) dX6_init_30 (by decide) ?_
  refine sx_newaL (pc := 32) (ti := 3) (N := 6) (n1 := sh.length + 3) (sh' := sh.set k (.inl (6, [none, rr (sh.length), rr (sh.length + 1), rr (sh.length + 2), some none, some none, some none, some none, some none, some none, some none, some none, some none, some none, some none, some none, some none, some none, some none, some none, none, some none, none, none, none, none, none, none, none, none])) ++ [shI 6, .inr (2, 360, none), .inr (3, 6, none), .inr (3, 6, none)]) xl_n dX6_init_32 w_az rfl rfl rfl (by decide) (by decide) (by decide) (List.append_assoc _ _ _) (Nat.le_of_ble_eq_true rfl) (Nat.le_of_ble_eq_true rfl) (fun _ _ h => h) (fun μ7 hμ7 => ?_)
  refine sx_putrFm (pc := 34) (ci := 6) (j := 4) (r := sh.length + 3) (sh' := sh.set k (.inl (6, [none, rr (sh.length), rr (sh.length + 1), rr (sh.length + 2), rr (sh.length + 3), some none, some none, some none, some none, some none, some none, some none, some none, some none, some none, some none, some none, some none, some none, some none, none, some none, none, none, none, none, none, none, none, none])) ++ [shI 6, .inr (2, 360, none), .inr (3, 6, none), .inr (3, 6, none)]) dX6_init_34 rfl (xg_k hk) (Nat.le_of_ble_eq_true rfl) (by decide) lf_X6_21 rfl rfl rfl (tyX6_ok 4 (by decide)) rfl rfl (xs_k hk) (fun μ8 hμ8 => ?_)
  refine sx_aload_n (pc := 37) dX6_init_37 rfl rfl ?_
  refine sx_bipush (pc := 38) (v := 6) dX6_init_38 (by decide) ?_
  refine sx_newaL (pc := 40) (ti := 1) (N := 6) (n1 := sh.length + 4) (sh' := sh.set k (.inl (6, [none, rr (sh.length), rr (sh.length + 1), rr (sh.length + 2), rr (sh.length + 3), some none, some none, some none, some none, some none, some none, some none, some none, some none, some none, some none, some none, some none, some none, some none, none, some none, none, none, none, none, none, none, none, none])) ++ [shI 6, .inr (2, 360, none), .inr (3, 6, none), .inr (3, 6, none), shI 6]) xl_n dX6_init_40 w_ai rfl rfl rfl (by decide) (by decide) (by decide) (List.append_assoc _ _ _) (Nat.le_of_ble_eq_true rfl) (Nat.le_of_ble_eq_true rfl) (fun _ _ h => h) (fun μ9 hμ9 => ?_)
  refine sx_putrFm (pc := 42) (ci := 6) (j := 5) (r := sh.length + 4) (sh' := sh.set k (.inl (6, [none, rr (sh.length), rr (sh.length + 1), rr (sh.length + 2), rr (sh.length + 3), rr (sh.length + 4), some none, some none, some none, some none, some none, some none, some none, some none, some none, some none, some none, some none, some none, some none, none, some none, none, none, none, none, none, none, none, none])) ++ [shI 6, .inr (2, 360, none), .inr (3, 6, none), .inr (3, 6, none), shI 6]) dX6_init_42 rfl (xg_k hk) (Nat.le_of_ble_eq_true rfl) (by decide) lf_X6_24 rfl rfl rfl (tyX6_ok 5 (by decide)) rfl rfl (xs_k hk) (fun μ10 hμ10 => ?_)
  refine sx_aload_n (pc := 45) dX6_init_45 rfl rfl ?_
  refine sx_bipush (pc := 46) (v := 6) dX6_init_46 (by decide) ?_
  refine sx_newaL (pc := 48) (ti := 1) (N := 6) (n1 := sh.length + 5) (sh' := sh.set k (.inl (6, [none, rr (sh.length), rr (sh.length + 1), rr (sh.length + 2), rr (sh.length + 3), rr (sh.length + 4), some none, some none, some none, some none, some none, some none, some none, some none, some none, some none, some none, some none, some none, some none, none, some none, none, none, none, none, none, none, none, none])) ++ [shI 6, .inr (2, 360, none), .inr (3, 6, none), .inr (3, 6, none), shI 6, shI 6]) xl_n dX6_init_48 w_ai rfl rfl rfl (by decide) (by decide) (by decide) (List.append_assoc _ _ _) (Nat.le_of_ble_eq_true rfl) (Nat.le_of_ble_eq_true rfl) (fun _ _ h => h) (fun μ11 hμ11 => ?_)
  refine sx_putrFm (pc := 50) (ci := 6) (j := 6) (r := sh.length + 5) (sh' := sh.set k (.inl (6, [none, rr (sh.length), rr (sh.length + 1), rr (sh.length + 2), rr (sh.length + 3), rr (sh.length + 4), rr (sh.length + 5), some none, some none, some none, some none, some none, some none, some none, some none, some none, some none, some none, some none, some none, none, some none, none, none, none, none, none, none, none, none])) ++ [shI 6, .inr (2, 360, none), .inr (3, 6, none), .inr (3, 6, none), shI 6, shI 6]) dX6_init_50 rfl (xg_k hk) (Nat.le_of_ble_eq_true rfl) (by decide) lf_X6_27 rfl rfl rfl (tyX6_ok 6 (by decide)) rfl rfl (xs_k hk) (fun μ12 hμ12 => ?_)
  refine sx_aload_n (pc := 53) dX6_init_53 rfl rfl ?_
  refine sx_bipush (pc := 54) (v := 6) dX6_init_54 (by decide) ?_
  refine sx_newaL (pc := 56) (ti := 1) (N := 6) (n1 := sh.length + 6) (sh' := sh.set k (.inl (6, [none, rr (sh.length), rr (sh.length + 1), rr (sh.length + 2), rr (sh.length + 3), rr (sh.length + 4), rr (sh.length + 5), some none, some none, some none, some none, some none, some none, some none, some none, some none, some none, some none, some none, some none, none, some none, none, none, none, none, none, none, none, none])) ++ [shI 6, .inr (2, 360, none), .inr (3, 6, none), .inr (3, 6, none), shI 6, shI 6, shI 6]) xl_n dX6_init_56 w_ai rfl rfl rfl (by decide) (by decide) (by decide) (List.append_assoc _ _ _) (Nat.le_of_ble_eq_true rfl) (Nat.le_of_ble_eq_true rfl) (fun _ _ h => h) (fun μ13 hμ13 => ?_)
  refine sx_putrFm (pc := 58) (ci := 6) (j := 7) (r := sh.length + 6) (sh' := sh.set k (.inl (6, [none, rr (sh.length), rr (sh.length + 1), rr (sh.length + 2), rr (sh.length + 3), rr (sh.length + 4), rr (sh.length + 5), rr (sh.length + 6), some none, some none, some none, some none, some none, some none, some none, some none, some none, some none, some none, some none, none, some none, none, none, none, none, none, none, none, none])) ++ [shI 6, .inr (2, 360, none), .inr (3, 6, none), .inr (3, 6, none), shI 6, shI 6, shI 6]) dX6_init_58 rfl (xg_k hk) (Nat.le_of_ble_eq_true rfl) (by decide) lf_X6_30 rfl rfl rfl (tyX6_ok 7 (by decide)) rfl rfl (xs_k hk) (fun μ14 hμ14 => ?_)
  refine sx_aload_n (pc := 61) dX6_init_61 rfl rfl ?_
  refine sx_sipush (pc := 62) (v := 180) dX6_init_62 (by decide) ?_
  refine sx_newaL (pc := 65) (ti := 2) (N := 180) (n1 := sh.length + 7) (sh' := sh.set k (.inl (6, [none, rr (sh.length), rr (sh.length + 1), rr (sh.length + 2), rr (sh.length + 3), rr (sh.length + 4), rr (sh.length + 5), rr (sh.length + 6), some none, some none, some none, some none, some none, some none, some none, some none, some none, some none, some none, some none, none, some none, none, none, none, none, none, none, none, none])) ++ [shI 6, .inr (2, 360, none), .inr (3, 6, none), .inr (3, 6, none), shI 6, shI 6, shI 6, .inr (2, 180, none)]) xl_n dX6_init_65 w_ab rfl rfl rfl (by decide) (by decide) (by decide) (List.append_assoc _ _ _) (Nat.le_of_ble_eq_true rfl) (Nat.le_of_ble_eq_true rfl) (fun _ _ h => h) (fun μ15 hμ15 => ?_)
  refine sx_putrFm (pc := 67) (ci := 6) (j := 8) (r := sh.length + 7) (sh' := sh.set k (.inl (6, [none, rr (sh.length), rr (sh.length + 1), rr (sh.length + 2), rr (sh.length + 3), rr (sh.length + 4), rr (sh.length + 5), rr (sh.length + 6), rr (sh.length + 7), some none, some none, some none, some none, some none, some none, some none, some none, some none, some none, some none, none, some none, none, none, none, none, none, none, none, none])) ++ [shI 6, .inr (2, 360, none), .inr (3, 6, none), .inr (3, 6, none), shI 6, shI 6, shI 6, .inr (2, 180, none)]) dX6_init_67 rfl (xg_k hk) (Nat.le_of_ble_eq_true rfl) (by decide) lf_X6_33 rfl rfl rfl (tyX6_ok 8 (by decide)) rfl rfl (xs_k hk) (fun μ16 hμ16 => ?_)
  refine sx_aload_n (pc := 70) dX6_init_70 rfl rfl ?_
  refine sx_bipush (pc := 71) (v := 6) dX6_init_71 (by decide) ?_
  refine sx_newaL (pc := 73) (ti := 1) (N := 6) (n1 := sh.length + 8) (sh' := sh.set k (.inl (6, [none, rr (sh.length), rr (sh.length + 1), rr (sh.length + 2), rr (sh.length + 3), rr (sh.length + 4), rr (sh.length + 5), rr (sh.length + 6), rr (sh.length + 7), some none, some none, some none, some none, some none, some none, some none, some none, some none, some none, some none, none, some none, none, none, none, none, none, none, none, none])) ++ [shI 6, .inr (2, 360, none), .inr (3, 6, none), .inr (3, 6, none), shI 6, shI 6, shI 6, .inr (2, 180, none), shI 6]) xl_n dX6_init_73 w_ai rfl rfl rfl (by decide) (by decide) (by decide) (List.append_assoc _ _ _) (Nat.le_of_ble_eq_true rfl) (Nat.le_of_ble_eq_true rfl) (fun _ _ h => h) (fun μ17 hμ17 => ?_)
  refine sx_putrFm (pc := 75) (ci := 6) (j := 9) (r := sh.length + 8) (sh' := sh.set k (.inl (6, [none, rr (sh.length), rr (sh.length + 1), rr (sh.length + 2), rr (sh.length + 3), rr (sh.length + 4), rr (sh.length + 5), rr (sh.length + 6), rr (sh.length + 7), rr (sh.length + 8), some none, some none, some none, some none, some none, some none, some none, some none, some none, some none, none, some none, none, none, none, none, none, none, none, none])) ++ [shI 6, .inr (2, 360, none), .inr (3, 6, none), .inr (3, 6, none), shI 6, shI 6, shI 6, .inr (2, 180, none), shI 6]) dX6_init_75 rfl (xg_k hk) (Nat.le_of_ble_eq_true rfl) (by decide) lf_X6_36 rfl rfl rfl (tyX6_ok 9 (by decide)) rfl rfl (xs_k hk) (fun μ18 hμ18 => ?_)
  refine sx_aload_n (pc := 78) dX6_init_78 rfl rfl ?_
  refine sx_sipush (pc := 79) (v := 180) dX6_init_79 (by decide) ?_
  refine sx_newaL (pc := 82) (ti := 2) (N := 180) (n1 := sh.length + 9) (sh' := sh.set k (.inl (6, [none, rr (sh.length), rr (sh.length + 1), rr (sh.length + 2), rr (sh.length + 3), rr (sh.length + 4), rr (sh.length + 5), rr (sh.length + 6), rr (sh.length + 7), rr (sh.length + 8), some none, some none, some none, some none, some none, some none, some none, some none, some none, some none, none, some none, none, none, none, none, none, none, none, none])) ++ [shI 6, .inr (2, 360, none), .inr (3, 6, none), .inr (3, 6, none), shI 6, shI 6, shI 6, .inr (2, 180, none), shI 6, .inr (2, 180, none)]) xl_n dX6_init_82 w_ab rfl rfl rfl (by decide) (by decide) (by decide) (List.append_assoc _ _ _) (Nat.le_of_ble_eq_true rfl) (Nat.le_of_ble_eq_true rfl) (fun _ _ h => h) (fun μ19 hμ19 => ?_)
  refine sx_putrFm (pc := 84) (ci := 6) (j := 10) (r := sh.length + 9) (sh' := sh.set k (.inl (6, [none, rr (sh.length), rr (sh.length + 1), rr (sh.length + 2), rr (sh.length + 3), rr (sh.length + 4), rr (sh.length + 5), rr (sh.length + 6), rr (sh.length + 7), rr (sh.length + 8), rr (sh.length + 9), some none, some none, some none, some none, some none, some none, some none, some none, some none, none, some none, none, none, none, none, none, none, none, none])) ++ [shI 6, .inr (2, 360, none), .inr (3, 6, none), .inr (3, 6, none), shI 6, shI 6, shI 6, .inr (2, 180, none), shI 6, .inr (2, 180, none)]) dX6_init_84 rfl (xg_k hk) (Nat.le_of_ble_eq_true rfl) (by decide) lf_X6_39 rfl rfl rfl (tyX6_ok 10 (by decide)) rfl rfl (xs_k hk) (fun μ20 hμ20 => ?_)
  refine sx_aload_n (pc := 87) dX6_init_87 rfl rfl ?_
  refine sx_bipush (pc := 88) (v := 6) dX6_init_88 (by decide) ?_
  refine sx_newaL (pc := 90) (ti := 1) (N := 6) (n1 := sh.length + 10) (sh' := sh.set k (.inl (6, [none, rr (sh.length), rr (sh.length + 1), rr (sh.length + 2), rr (sh.length + 3), rr (sh.length + 4), rr (sh.length + 5), rr (sh.length + 6), rr (sh.length + 7), rr (sh.length + 8), rr (sh.length + 9), some none, some none, some none, some none, some none, some none, some none, some none, some none, none, some none, none, none, none, none, none, none, none, none])) ++ [shI 6, .inr (2, 360, none), .inr (3, 6, none), .inr (3, 6, none), shI 6, shI 6, shI 6, .inr (2, 180, none), shI 6, .inr (2, 180, none), shI 6]) xl_n dX6_init_90 w_ai rfl rfl rfl (by decide) (by decide) (by decide) (List.append_assoc _ _ _) (Nat.le_of_ble_eq_true rfl) (Nat.le_of_ble_eq_true rfl) (fun _ _ h => h) (fun μ21 hμ21 => ?_)
  refine sx_putrFm (pc := 92) (ci := 6) (j := 11) (r := sh.length + 10) (sh' := sh.set k (.inl (6, [none, rr (sh.length), rr (sh.length + 1), rr (sh.length + 2), rr (sh.length + 3), rr (sh.length + 4), rr (sh.length + 5), rr (sh.length + 6), rr (sh.length + 7), rr (sh.length + 8), rr (sh.length + 9), rr (sh.length + 10), some none, some none, some none, some none, some none, some none, some none, some none, none, some none, none, none, none, none, none, none, none, none])) ++ [shI 6, .inr (2, 360, none), .inr (3, 6, none), .inr (3, 6, none), shI 6, shI 6, shI 6, .inr (2, 180, none), shI 6, .inr (2, 180, none), shI 6]) dX6_init_92 rfl (xg_k hk) (Nat.le_of_ble_eq_true rfl) (by decide) lf_X6_42 rfl rfl rfl (tyX6_ok 11 (by decide)) rfl rfl (xs_k hk) (fun μ22 hμ22 => ?_)
  refine sx_aload_n (pc := 95) dX6_init_95 rfl rfl ?_
  refine sx_bipush (pc := 96) (v := 120) dX6_init_96 (by decide) ?_
  refine sx_newaL (pc := 98) (ti := 1) (N := 120) (n1 := sh.length + 11) (sh' := sh.set k (.inl (6, [none, rr (sh.length), rr (sh.length + 1), rr (sh.length + 2), rr (sh.length + 3), rr (sh.length + 4), rr (sh.length + 5), rr (sh.length + 6), rr (sh.length + 7), rr (sh.length + 8), rr (sh.length + 9), rr (sh.length + 10), some none, some none, some none, some none, some none, some none, some none, some none, none, some none, none, none, none, none, none, none, none, none])) ++ [shI 6, .inr (2, 360, none), .inr (3, 6, none), .inr (3, 6, none), shI 6, shI 6, shI 6, .inr (2, 180, none), shI 6, .inr (2, 180, none), shI 6, shI 120]) xl_n dX6_init_98 w_ai rfl rfl rfl (by decide) (by decide) (by decide) (List.append_assoc _ _ _) (Nat.le_of_ble_eq_true rfl) (Nat.le_of_ble_eq_true rfl) (fun _ _ h => h) (fun μ23 hμ23 => ?_)
  refine sx_putrFm (pc := 100) (ci := 6) (j := 12) (r := sh.length + 11) (sh' := sh.set k (.inl (6, [none, rr (sh.length), rr (sh.length + 1), rr (sh.length + 2), rr (sh.length + 3), rr (sh.length + 4), rr (sh.length + 5), rr (sh.length + 6), rr (sh.length + 7), rr (sh.length + 8), rr (sh.length + 9), rr (sh.length + 10), rr (sh.length + 11), some none, some none, some none, some none, some none, some none, some none, none, some none, none, none, none, none, none, none, none, none])) ++ [shI 6, .inr (2, 360, none), .inr (3, 6, none), .inr (3, 6, none), shI 6, shI 6, shI 6, .inr (2, 180, none), shI 6, .inr (2, 180, none), shI 6, shI 120]) dX6_init_100 rfl (xg_k hk) (Nat.le_of_ble_eq_true rfl) (by decide) lf_X6_45 rfl rfl rfl (tyX6_ok 12 (by decide)) rfl rfl (xs_k hk) (fun μ24 hμ24 => ?_)
  refine sx_aload_n (pc := 103) dX6_init_103 rfl rfl ?_
  refine sx_bipush (pc := 104) (v := 120) dX6_init_104 (by decide) ?_
  refine sx_newaL (pc := 106) (ti := 1) (N := 120) (n1 := sh.length + 12) (sh' := sh.set k (.inl (6, [none, rr (sh.length), rr (sh.length + 1), rr (sh.length + 2), rr (sh.length + 3), rr (sh.length + 4), rr (sh.length + 5), rr (sh.length + 6), rr (sh.length + 7), rr (sh.length + 8), rr (sh.length + 9), rr (sh.length + 10), rr (sh.length + 11), some none, some none, some none, some none, some none, some none, some none, none, some none, none, none, none, none, none, none, none, none])) ++ [shI 6, .inr (2, 360, none), .inr (3, 6, none), .inr (3, 6, none), shI 6, shI 6, shI 6, .inr (2, 180, none), shI 6, .inr (2, 180, none), shI 6, shI 120, shI 120]) xl_n dX6_init_106 w_ai rfl rfl rfl (by decide) (by decide) (by decide) (List.append_assoc _ _ _) (Nat.le_of_ble_eq_true rfl) (Nat.le_of_ble_eq_true rfl) (fun _ _ h => h) (fun μ25 hμ25 => ?_)
  refine sx_putrFm (pc := 108) (ci := 6) (j := 13) (r := sh.length + 12) (sh' := sh.set k (.inl (6, [none, rr (sh.length), rr (sh.length + 1), rr (sh.length + 2), rr (sh.length + 3), rr (sh.length + 4), rr (sh.length + 5), rr (sh.length + 6), rr (sh.length + 7), rr (sh.length + 8), rr (sh.length + 9), rr (sh.length + 10), rr (sh.length + 11), rr (sh.length + 12), some none, some none, some none, some none, some none, some none, none, some none, none, none, none, none, none, none, none, none])) ++ [shI 6, .inr (2, 360, none), .inr (3, 6, none), .inr (3, 6, none), shI 6, shI 6, shI 6, .inr (2, 180, none), shI 6, .inr (2, 180, none), shI 6, shI 120, shI 120]) dX6_init_108 rfl (xg_k hk) (Nat.le_of_ble_eq_true rfl) (by decide) lf_X6_48 rfl rfl rfl (tyX6_ok 13 (by decide)) rfl rfl (xs_k hk) (fun μ26 hμ26 => ?_)
  refine sx_aload_n (pc := 111) dX6_init_111 rfl rfl ?_
  refine sx_bipush (pc := 112) (v := 120) dX6_init_112 (by decide) ?_
  refine sx_newaL (pc := 114) (ti := 1) (N := 120) (n1 := sh.length + 13) (sh' := sh.set k (.inl (6, [none, rr (sh.length), rr (sh.length + 1), rr (sh.length + 2), rr (sh.length + 3), rr (sh.length + 4), rr (sh.length + 5), rr (sh.length + 6), rr (sh.length + 7), rr (sh.length + 8), rr (sh.length + 9), rr (sh.length + 10), rr (sh.length + 11), rr (sh.length + 12), some none, some none, some none, some none, some none, some none, none, some none, none, none, none, none, none, none, none, none])) ++ [shI 6, .inr (2, 360, none), .inr (3, 6, none), .inr (3, 6, none), shI 6, shI 6, shI 6, .inr (2, 180, none), shI 6, .inr (2, 180, none), shI 6, shI 120, shI 120, shI 120]) xl_n dX6_init_114 w_ai rfl rfl rfl (by decide) (by decide) (by decide) (List.append_assoc _ _ _) (Nat.le_of_ble_eq_true rfl) (Nat.le_of_ble_eq_true rfl) (fun _ _ h => h) (fun μ27 hμ27 => ?_)
  refine sx_putrFm (pc := 116) (ci := 6) (j := 14) (r := sh.length + 13) (sh' := sh.set k (.inl (6, [none, rr (sh.length), rr (sh.length + 1), rr (sh.length + 2), rr (sh.length + 3), rr (sh.length + 4), rr (sh.length + 5), rr (sh.length + 6), rr (sh.length + 7), rr (sh.length + 8), rr (sh.length + 9), rr (sh.length + 10), rr (sh.length + 11), rr (sh.length + 12), rr (sh.length + 13), some none, some none, some none, some none, some none, none, some none, none, none, none, none, none, none, none, none])) ++ [shI 6, .inr (2, 360, none), .inr (3, 6, none), .inr (3, 6, none), shI 6, shI 6, shI 6, .inr (2, 180, none), shI 6, .inr (2, 180, none), shI 6, shI 120, shI 120, shI 120]) dX6_init_116 rfl (xg_k hk) (Nat.le_of_ble_eq_true rfl) (by decide) lf_X6_51 rfl rfl rfl (tyX6_ok 14 (by decide)) rfl rfl (xs_k hk) (fun μ28 hμ28 => ?_)
  refine sx_aload_n (pc := 119) dX6_init_119 rfl rfl ?_
  refine sx_bipush (pc := 120) (v := 30) dX6_init_120 (by decide) ?_
  refine sx_newaL (pc := 122) (ti := 1) (N := 30) (n1 := sh.length + 14) (sh' := sh.set k (.inl (6, [none, rr (sh.length), rr (sh.length + 1), rr (sh.length + 2), rr (sh.length + 3), rr (sh.length + 4), rr (sh.length + 5), rr (sh.length + 6), rr (sh.length + 7), rr (sh.length + 8), rr (sh.length + 9), rr (sh.length + 10), rr (sh.length + 11), rr (sh.length + 12), rr (sh.length + 13), some none, some none, some none, some none, some none, none, some none, none, none, none, none, none, none, none, none])) ++ [shI 6, .inr (2, 360, none), .inr (3, 6, none), .inr (3, 6, none), shI 6, shI 6, shI 6, .inr (2, 180, none), shI 6, .inr (2, 180, none), shI 6, shI 120, shI 120, shI 120, shI 30]) xl_n dX6_init_122 w_ai rfl rfl rfl (by decide) (by decide) (by decide) (List.append_assoc _ _ _) (Nat.le_of_ble_eq_true rfl) (Nat.le_of_ble_eq_true rfl) (fun _ _ h => h) (fun μ29 hμ29 => ?_)
  refine sx_putrFm (pc := 124) (ci := 6) (j := 15) (r := sh.length + 14) (sh' := sh.set k (.inl (6, [none, rr (sh.length), rr (sh.length + 1), rr (sh.length + 2), rr (sh.length + 3), rr (sh.length + 4), rr (sh.length + 5), rr (sh.length + 6), rr (sh.length + 7), rr (sh.length + 8), rr (sh.length + 9), rr (sh.length + 10), rr (sh.length + 11), rr (sh.length + 12), rr (sh.length + 13), rr (sh.length + 14), some none, some none, some none, some none, none, some none, none, none, none, none, none, none, none, none])) ++ [shI 6, .inr (2, 360, none), .inr (3, 6, none), .inr (3, 6, none), shI 6, shI 6, shI 6, .inr (2, 180, none), shI 6, .inr (2, 180, none), shI 6, shI 120, shI 120, shI 120, shI 30]) dX6_init_124 rfl (xg_k hk) (Nat.le_of_ble_eq_true rfl) (by decide) lf_X6_54 rfl rfl rfl (tyX6_ok 15 (by decide)) rfl rfl (xs_k hk) (fun μ30 hμ30 => ?_)
  refine sx_aload_n (pc := 127) dX6_init_127 rfl rfl ?_
  refine sx_bipush (pc := 128) (v := 30) dX6_init_128 (by decide) ?_
  refine sx_newaL (pc := 130) (ti := 1) (N := 30) (n1 := sh.length + 15) (sh' := sh.set k (.inl (6, [none, rr (sh.length), rr (sh.length + 1), rr (sh.length + 2), rr (sh.length + 3), rr (sh.length + 4), rr (sh.length + 5), rr (sh.length + 6), rr (sh.length + 7), rr (sh.length + 8), rr (sh.length + 9), rr (sh.length + 10), rr (sh.length + 11), rr (sh.length + 12), rr (sh.length + 13), rr (sh.length + 14), some none, some none, some none, some none, none, some none, none, none, none, none, none, none, none, none])) ++ [shI 6, .inr (2, 360, none), .inr (3, 6, none), .inr (3, 6, none), shI 6, shI 6, shI 6, .inr (2, 180, none), shI 6, .inr (2, 180, none), shI 6, shI 120, shI 120, shI 120, shI 30, shI 30]) xl_n dX6_init_130 w_ai rfl rfl rfl (by decide) (by decide) (by decide) (List.append_assoc _ _ _) (Nat.le_of_ble_eq_true rfl) (Nat.le_of_ble_eq_true rfl) (fun _ _ h => h) (fun μ31 hμ31 => ?_)
  refine sx_putrFm (pc := 132) (ci := 6) (j := 16) (r := sh.length + 15) (sh' := sh.set k (.inl (6, [none, rr (sh.length), rr (sh.length + 1), rr (sh.length + 2), rr (sh.length + 3), rr (sh.length + 4), rr (sh.length + 5), rr (sh.length + 6), rr (sh.length + 7), rr (sh.length + 8), rr (sh.length + 9), rr (sh.length + 10), rr (sh.length + 11), rr (sh.length + 12), rr (sh.length + 13), rr (sh.length + 14), rr (sh.length + 15), some none, some none, some none, none, some none, none, none, none, none, none, none, none, none])) ++ [shI 6, .inr (2, 360, none), .inr (3, 6, none), .inr (3, 6, none), shI 6, shI 6, shI 6, .inr (2, 180, none), shI 6, .inr (2, 180, none), shI 6, shI 120, shI 120, shI 120, shI 30, shI 30]) dX6_init_132 rfl (xg_k hk) (Nat.le_of_ble_eq_true rfl) (by decide) lf_X6_57 rfl rfl rfl (tyX6_ok 16 (by decide)) rfl rfl (xs_k hk) (fun μ32 hμ32 => ?_)
  refine sx_aload_n (pc := 135) dX6_init_135 rfl rfl ?_
  refine sx_bipush (pc := 136) (v := 30) dX6_init_136 (by decide) ?_
  refine sx_newaL (pc := 138) (ti := 1) (N := 30) (n1 := sh.length + 16) (sh' := sh.set k (.inl (6, [none, rr (sh.length), rr (sh.length + 1), rr (sh.length + 2), rr (sh.length + 3), rr (sh.length + 4), rr (sh.length + 5), rr (sh.length + 6), rr (sh.length + 7), rr (sh.length + 8), rr (sh.length + 9), rr (sh.length + 10), rr (sh.length + 11), rr (sh.length + 12), rr (sh.length + 13), rr (sh.length + 14), rr (sh.length + 15), some none, some none, some none, none, some none, none, none, none, none, none, none, none, none])) ++ [shI 6, .inr (2, 360, none), .inr (3, 6, none), .inr (3, 6, none), shI 6, shI 6, shI 6, .inr (2, 180, none), shI 6, .inr (2, 180, none), shI 6, shI 120, shI 120, shI 120, shI 30, shI 30, shI 30]) xl_n dX6_init_138 w_ai rfl rfl rfl (by decide) (by decide) (by decide) (List.append_assoc _ _ _) (Nat.le_of_ble_eq_true rfl) (Nat.le_of_ble_eq_true rfl) (fun _ _ h => h) (fun μ33 hμ33 => ?_)
  refine sx_putrFm (pc := 140) (ci := 6) (j := 17) (r := sh.length + 16) (sh' := sh.set k (.inl (6, [none, rr (sh.length), rr (sh.length + 1), rr (sh.length + 2), rr (sh.length + 3), rr (sh.length + 4), rr (sh.length + 5), rr (sh.length + 6), rr (sh.length + 7), rr (sh.length + 8), rr (sh.length + 9), rr (sh.length + 10), rr (sh.length + 11), rr (sh.length + 12), rr (sh.length + 13), rr (sh.length + 14), rr (sh.length + 15), rr (sh.length + 16), some none, some none, none, some none, none, none, none, none, none, none, none, none])) ++ [shI 6, .inr (2, 360, none), .inr (3, 6, none), .inr (3, 6, none), shI 6, shI 6, shI 6, .inr (2, 180, none), shI 6, .inr (2, 180, none), shI 6, shI 120, shI 120, shI 120, shI 30, shI 30, shI 30]) dX6_init_140 rfl (xg_k hk) (Nat.le_of_ble_eq_true rfl) (by decide) lf_X6_60 rfl rfl rfl (tyX6_ok 17 (by decide)) rfl rfl (xs_k hk) (fun μ34 hμ34 => ?_)
  refine sx_aload_n (pc := 143) dX6_init_143 rfl rfl ?_
  refine sx_bipush (pc := 144) (v := 30) dX6_init_144 (by decide) ?_
  refine sx_newaL (pc := 146) (ti := 1) (N := 30) (n1 := sh.length + 17) (sh' := sh.set k (.inl (6, [none, rr (sh.length), rr (sh.length + 1), rr (sh.length + 2), rr (sh.length + 3), rr (sh.length + 4), rr (sh.length + 5), rr (sh.length + 6), rr (sh.length + 7), rr (sh.length + 8), rr (sh.length + 9), rr (sh.length + 10), rr (sh.length + 11), rr (sh.length + 12), rr (sh.length + 13), rr (sh.length + 14), rr (sh.length + 15), rr (sh.length + 16), some none, some none, none, some none, none, none, none, none, none, none, none, none])) ++ [shI 6, .inr (2, 360, none), .inr (3, 6, none), .inr (3, 6, none), shI 6, shI 6, shI 6, .inr (2, 180, none), shI 6, .inr (2, 180, none), shI 6, shI 120, shI 120, shI 120, shI 30, shI 30, shI 30, shI 30]) xl_n dX6_init_146 w_ai rfl rfl rfl (by decide) (by decide) (by decide) (List.append_assoc _ _ _) (Nat.le_of_ble_eq_true rfl) (Nat.le_of_ble_eq_true rfl) (fun _ _ h => h) (fun μ35 hμ35 => ?_)
  refine sx_putrFm (pc := 148) (ci := 6) (j := 18) (r := sh.length + 17) (sh' := sh.set k (.inl (6, [none, rr (sh.length), rr (sh.length + 1), rr (sh.length + 2), rr (sh.length + 3), rr (sh.length + 4), rr (sh.length + 5), rr (sh.length + 6), rr (sh.length + 7), rr (sh.length + 8), rr (sh.length + 9), rr (sh.length + 10), rr (sh.length + 11), rr (sh.length + 12), rr (sh.length + 13), rr (sh.length + 14), rr (sh.length + 15), rr (sh.length + 16), rr (sh.length + 17), some none, none, some none, none, none, none, none, none, none, none, none])) ++ [shI 6, .inr (2, 360, none), .inr (3, 6, none), .inr (3, 6, none), shI 6, shI 6, shI 6, .inr (2, 180, none), shI 6, .inr (2, 180, none), shI 6, shI 120, shI 120, shI 120, shI 30, shI 30, shI 30, shI 30]) dX6_init_148 rfl (xg_k hk) (Nat.le_of_ble_eq_true rfl) (by decide) lf_X6_63 rfl rfl rfl (tyX6_ok 18 (by decide)) rfl rfl (xs_k hk) (fun μ36 hμ36 => ?_)
  refine sx_aload_n (pc := 151) dX6_init_151 rfl rfl ?_
  refine sx_sipush (pc := 152) (v := 900) dX6_init_152 (by decide) ?_
  refine sx_newaL (pc := 155) (ti := 1) (N := 900) (n1 := sh.length + 18) (sh' := sh.set k (.inl (6, [none, rr (sh.length), rr (sh.length + 1), rr (sh.length + 2), rr (sh.length + 3), rr (sh.length + 4), rr (sh.length + 5), rr (sh.length + 6), rr (sh.length + 7), rr (sh.length + 8), rr (sh.length + 9), rr (sh.length + 10), rr (sh.length + 11), rr (sh.length + 12), rr (sh.length + 13), rr (sh.length + 14), rr (sh.length + 15), rr (sh.length + 16), rr (sh.length + 17), some none, none, some none, none, none, none, none, none, none, none, none])) ++ [shI 6, .inr (2, 360, none), .inr (3, 6, none), .inr (3, 6, none), shI 6, shI 6, shI 6, .inr (2, 180, none), shI 6, .inr (2, 180, none), shI 6, shI 120, shI 120, shI 120, shI 30, shI 30, shI 30, shI 30, shI 900]) xl_n dX6_init_155 w_ai rfl rfl rfl (by decide) (by decide) (by decide) (List.append_assoc _ _ _) (Nat.le_of_ble_eq_true rfl) (Nat.le_of_ble_eq_true rfl) (fun _ _ h => h) (fun μ37 hμ37 => ?_)
  refine sx_putrFm (pc := 157) (ci := 6) (j := 19) (r := sh.length + 18) (sh' := sh.set k (.inl (6, [none, rr (sh.length), rr (sh.length + 1), rr (sh.length + 2), rr (sh.length + 3), rr (sh.length + 4), rr (sh.length + 5), rr (sh.length + 6), rr (sh.length + 7), rr (sh.length + 8), rr (sh.length + 9), rr (sh.length + 10), rr (sh.length + 11), rr (sh.length + 12), rr (sh.length + 13), rr (sh.length + 14), rr (sh.length + 15), rr (sh.length + 16), rr (sh.length + 17), rr (sh.length + 18), none, some none, none, none, none, none, none, none, none, none])) ++ [shI 6, .inr (2, 360, none), .inr (3, 6, none), .inr (3, 6, none), shI 6, shI 6, shI 6, .inr (2, 180, none), shI 6, .inr (2, 180, none), shI 6, shI 120, shI 120, shI 120, shI 30, shI 30, shI 30, shI 30, shI 900]) dX6_init_157 rfl (xg_k hk) (Nat.le_of_ble_eq_true rfl) (by decide) lf_X6_66 rfl rfl rfl (tyX6_ok 19 (by decide)) rfl rfl (xs_k hk) (fun μ38 hμ38 => ?_)
  refine sx_aload_n (pc := 160) dX6_init_160 rfl rfl ?_
  refine sx_sipush (pc := 161) (v := 5000) dX6_init_161 (by decide) ?_
  refine sx_newaL (pc := 164) (ti := 1) (N := 5000) (n1 := sh.length + 19) (sh' := sh.set k (.inl (6, [none, rr (sh.length), rr (sh.length + 1), rr (sh.length + 2), rr (sh.length + 3), rr (sh.length + 4), rr (sh.length + 5), rr (sh.length + 6), rr (sh.length + 7), rr (sh.length + 8), rr (sh.length + 9), rr (sh.length + 10), rr (sh.length + 11), rr (sh.length + 12), rr (sh.length + 13), rr (sh.length + 14), rr (sh.length + 15), rr (sh.length + 16), rr (sh.length + 17), rr (sh.length + 18), none, some none, none, none, none, none, none, none, none, none])) ++ [shI 6, .inr (2, 360, none), .inr (3, 6, none), .inr (3, 6, none), shI 6, shI 6, shI 6, .inr (2, 180, none), shI 6, .inr (2, 180, none), shI 6, shI 120, shI 120, shI 120, shI 30, shI 30, shI 30, shI 30, shI 900, shI 5000]) xl_n dX6_init_164 w_ai rfl rfl rfl (by decide) (by decide) (by decide) (List.append_assoc _ _ _) (Nat.le_of_ble_eq_true rfl) (Nat.le_of_ble_eq_true rfl) (fun _ _ h => h) (fun μ39 hμ39 => ?_)
  refine sx_putrFm (pc := 166) (ci := 6) (j := 21) (r := sh.length + 19) (sh' := sh.set k (.inl (6, [none, rr (sh.length), rr (sh.length + 1), rr (sh.length + 2), rr (sh.length + 3), rr (sh.length + 4), rr (sh.length + 5), rr (sh.length + 6), rr (sh.length + 7), rr (sh.length + 8), rr (sh.length + 9), rr (sh.length + 10), rr (sh.length + 11), rr (sh.length + 12), rr (sh.length + 13), rr (sh.length + 14), rr (sh.length + 15), rr (sh.length + 16), rr (sh.length + 17), rr (sh.length + 18), none, rr (sh.length + 19), none, none, none, none, none, none, none, none])) ++ [shI 6, .inr (2, 360, none), .inr (3, 6, none), .inr (3, 6, none), shI 6, shI 6, shI 6, .inr (2, 180, none), shI 6, .inr (2, 180, none), shI 6, shI 120, shI 120, shI 120, shI 30, shI 30, shI 30, shI 30, shI 900, shI 5000]) dX6_init_166 rfl (xg_k hk) (Nat.le_of_ble_eq_true rfl) (by decide) lf_X6_69 rfl rfl rfl (tyX6_ok 21 (by decide)) rfl rfl (xs_k hk) (fun μ40 hμ40 => ?_)
  refine sx_iconst (pc := 169) (v := 0) dX6_init_169 (by decide) ?_
  refine sx_istore_n (pc := 170) (L' := [some (.ref (X.2 + k)), some (.int (nI 0))]) dX6_init_170 rfl (by decide) rfl ?_
  have hA : ∀ a, sh.length ≤ a → a < sh.length + 20 → ∀ j, μ40 a j = 0 := by
    intro a h1 h2 j
    have hne : a ≠ k := by omega
    obtain ⟨i, rfl⟩ : ∃ i, a = sh.length + i := ⟨a - sh.length, by omega⟩
    subst hμ40; subst hμ39; subst hμ38; subst hμ37; subst hμ36; subst hμ35; subst hμ34; subst hμ33; subst hμ32; subst hμ31; subst hμ30; subst hμ29; subst hμ28; subst hμ27; subst hμ26; subst hμ25; subst hμ24; subst hμ23; subst hμ22; subst hμ21; subst hμ20; subst hμ19; subst hμ18; subst hμ17; subst hμ16; subst hμ15; subst hμ14; subst hμ13; subst hμ12; subst hμ11; subst hμ10; subst hμ9; subst hμ8; subst hμ7; subst hμ6; subst hμ5; subst hμ4; subst hμ3; subst hμ2; subst hμ1
    rcases (show i = 0 ∨ i = 1 ∨ i = 2 ∨ i = 3 ∨ i = 4 ∨ i = 5 ∨ i = 6 ∨ i = 7 ∨ i = 8 ∨ i = 9 ∨ i = 10 ∨ i = 11 ∨ i = 12 ∨ i = 13 ∨ i = 14 ∨ i = 15 ∨ i = 16 ∨ i = 17 ∨ i = 18 ∨ i = 19 by omega) with rfl | rfl | rfl | rfl | rfl | rfl | rfl | rfl | rfl | rfl | rfl | rfl | rfl | rfl | rfl | rfl | rfl | rfl | rfl | rfl <;> simp [xup_at, va_up, hne] <;> simp_all
  have hB : ∀ a, a < sh.length → a ≠ k → μ40 a = μ a := by
    intro a h1 h2
    subst hμ40; subst hμ39; subst hμ38; subst hμ37; subst hμ36; subst hμ35; subst hμ34; subst hμ33; subst hμ32; subst hμ31; subst hμ30; subst hμ29; subst hμ28; subst hμ27; subst hμ26; subst hμ25; subst hμ24; subst hμ23; subst hμ22; subst hμ21; subst hμ20; subst hμ19; subst hμ18; subst hμ17; subst hμ16; subst hμ15; subst hμ14; subst hμ13; subst hμ12; subst hμ11; subst hμ10; subst hμ9; subst hμ8; subst hμ7; subst hμ6; subst hμ5; subst hμ4; subst hμ3; subst hμ2; subst hμ1
    funext j
    simp [xup_at, va_up, h2, Nat.ne_of_lt h1, show a ≠ sh.length + 1 by omega, show a ≠ sh.length + 2 by omega, show a ≠ sh.length + 3 by omega, show a ≠ sh.length + 4 by omega, show a ≠ sh.length + 5 by omega, show a ≠ sh.length + 6 by omega, show a ≠ sh.length + 7 by omega, show a ≠ sh.length + 8 by omega, show a ≠ sh.length + 9 by omega, show a ≠ sh.length + 10 by omega, show a ≠ sh.length + 11 by omega, show a ≠ sh.length + 12 by omega, show a ≠ sh.length + 13 by omega, show a ≠ sh.length + 14 by omega, show a ≠ sh.length + 15 by omega, show a ≠ sh.length + 16 by omega, show a ≠ sh.length + 17 by omega, show a ≠ sh.length + 18 by omega, show a ≠ sh.length + 19 by omega]
  refine l_Model (μ0 := μ40) hk (fun μ' i g1 g2 => ?_) 6 0 μ40 (by omega) (by omega) (fun b hb => absurd hb (Nat.not_lt_zero _)) (fun _ _ => rfl)
  have hC : ∀ j, μ40 k j = 0 := by
    intro j
    subst hμ40; subst hμ39; subst hμ38; subst hμ37; subst hμ36; subst hμ35; subst hμ34; subst hμ33; subst hμ32; subst hμ31; subst hμ30; subst hμ29; subst hμ28; subst hμ27; subst hμ26; subst hμ25; subst hμ24; subst hμ23; subst hμ22; subst hμ21; subst hμ20; subst hμ19; subst hμ18; subst hμ17; subst hμ16; subst hμ15; subst hμ14; subst hμ13; subst hμ12; subst hμ11; subst hμ10; subst hμ9; subst hμ8; subst hμ7; subst hμ6; subst hμ5; subst hμ4; subst hμ3; subst hμ2; subst hμ1
    simp [xup_at, va_up, hz, Nat.ne_of_lt hk, show k ≠ sh.length + 1 by omega, show k ≠ sh.length + 2 by omega, show k ≠ sh.length + 3 by omega, show k ≠ sh.length + 4 by omega, show k ≠ sh.length + 5 by omega, show k ≠ sh.length + 6 by omega, show k ≠ sh.length + 7 by omega, show k ≠ sh.length + 8 by omega, show k ≠ sh.length + 9 by omega, show k ≠ sh.length + 10 by omega, show k ≠ sh.length + 11 by omega, show k ≠ sh.length + 12 by omega, show k ≠ sh.length + 13 by omega, show k ≠ sh.length + 14 by omega, show k ≠ sh.length + 15 by omega, show k ≠ sh.length + 16 by omega, show k ≠ sh.length + 17 by omega, show k ≠ sh.length + 18 by omega, show k ≠ sh.length + 19 by omega]
  exact sx_vret (pc := 190) dX6_init_190 rfl (Nat.le_of_ble_eq_true rfl) (Nat.le_of_ble_eq_true rfl) ⟨rfl, rfl, fun a h1 h2 => (g2 a (by omega)).trans (hB a h1 h2), by rw [g2 k (by omega)]; exact hC _, by rw [g2 k (by omega)]; exact hC _, by rw [g2 k (by omega)]; exact hC _, fun a h1 h2 h3 j => by rw [g2 a h3]; exact hA a h1 h2 j, g1⟩
end
section
/-! new int[n][k] -/
theorem mn_outer (c : ClassId) (N h0 : Nat) : ∀ i : Nat, Jvm.Free.Multi.outerC c N h0 i = arrV c N (fun j => va_rf (if j < i then some (h0 + 1 + j) else none))
  | 0 => by
    show ({ cls := c, slots := Array.replicate N .null, vm := .none } : Cell) = _
    rw [arrV_new]
    refine congrArg (arrV c N) (funext fun j => ?_)
    simp [va_rf]
  | i + 1 => by
    show (Jvm.Free.Multi.outerC c N h0 i).setSlot i (.ref (h0 + 1 + i)) = _
    rw [mn_outer c N h0 i, arrV_store]
    refine congrArg (arrV c N) (funext fun j => ?_)
    by_cases e : j = i
    · subst e
      simp [updV, va_rf]
    · by_cases h : j < i
      · simp [updV, e, h, Nat.lt_succ_of_lt h]
      · simp [updV, e, h, show ¬ j < i + 1 by omega]
section SXG
variable {l : Launch} {R : Room} {X : xD} {Ex : State → Prop} {K : xK} {n0 : Nat} {Z : List Frame → Array Value → State → State → Prop} {pc : Nat} {L : List (Option Value)} {st : List Value} {sh sh' : List xS} {μ : xM} {cs ss : Nat}
theorem sx_mna {i N M : Nat} {n k : Int32} (hd : decode K.2.1 pc = .ok (.multianewarray i 2, 4)) (hcl : Cond.classLink K.1 i ("[" ++ (FieldType.array .int).toString) ∈ xws) (harr : Cond.arrayClass .int ∈ xws) (ho : ∀ s : State, Ex s → (Cond.arrayOver (.array .int)).before #[] s = true) (hn : ¬ n < 0) (hk : ¬ k < 0) (hN : n.toNatClampNeg = N) (hM : k.toNatClampNeg = M) (hb1 : N * 4 ≤ 536870912) (hb2 : M * componentBytes .int ≤ 536870912) (hb3 : M ≤ 536870912) (h1 : cs + (1 + N) ≤ R.cells) (h2 : ss + (N + N * M) ≤ R.slots)
    (hsh : sh ++ (.inr (5, N, some (mnG sh.length N)) :: List.replicate N (.inr (1, M, none))) = sh')
    (kk : sx l R X Ex true K n0 Z (pc + 4) L (.ref (X.2 + sh.length) :: st) sh' (mn0 μ sh.length) (cs + 1 + N) (ss + N + N * M)) : sx l R X Ex true K n0 Z pc L (.int k :: .int n :: st) sh μ cs ss := by
  intro p e s m args below meth c H locs ls hC hH hL
  subst hsh
  subst hN
  subst hM
  have hts := hC.2.2.2.2.2.2.1
  obtain ⟨hP, hS, hn0, -, hf⟩ := hH
  have hsz := hf rfl
  have r5 := (hC.2.2.2.2.2.2.2.2.1.2 5 _ (xtys_at (X := X) (i := 5) (t := .array .int) rfl)).2
  have r1 := (hC.2.2.2.2.2.2.2.2.1.2 1 _ (xtys_at (X := X) (i := 1) (t := .int) rfl)).2
  intro T hT Xs
  obtain ⟨vm₁, cA, comp, -, fA, fC, -, -, X', step⟩ := Xs.multianewarray2F hC.1 hC.2.2.2.2.2.1 (hts _ hcl) (show (Cond.arrayOver (.array .int)).before args s = true from ho s hC.2.2.2.2.2.2.2.2.2.1) (hts _ harr) (g := F0 m pc ls (.int k :: .int n :: st)) rfl (by rw [hC.2.1]; exact hd) rfl hn hk hb1 hb2 hb3 rfl rfl h1 h2
  have hcA : X.1.2 5 = cA := Option.some.inj ((show s.vm.findClass _ = some (X.1.2 5) from r5).symm.trans fA)
  have hcC : X.1.2 1 = comp := Option.some.inj ((show s.vm.findClass _ = some (X.1.2 1) from r1).symm.trans fC)
  subst hcA
  subst hcC
  generalize hF : Jvm.Free.Multi.fill (T.setVm vm₁) (X.1.2 5) (X.1.2 1) n.toNatClampNeg k.toNatClampNeg (defaultValue .int) n.toNatClampNeg = F at X' step
  have hTh : (T.setVm vm₁).heap = H := hT
  obtain ⟨f1, f2, -, -⟩ := Jvm.Free.Multi.fill_facts (T.setVm vm₁) (X.1.2 5) (X.1.2 1) n.toNatClampNeg k.toNatClampNeg (defaultValue .int) n.toNatClampNeg
  rw [hF, hTh] at f1 f2
  have hold : ∀ x : Nat, x < H.size → F.heap[x]? = H[x]? := fun x hx => by
    have := Jvm.Free.Multi.fill_old (T.setVm vm₁) (X.1.2 5) (X.1.2 1) n.toNatClampNeg k.toNatClampNeg (defaultValue .int) (a := x) (by rw [hTh]; exact hx) n.toNatClampNeg
    rw [hF, hTh] at this
    exact this
  have hrow : ∀ j : Nat, j < n.toNatClampNeg → F.heap[H.size + 1 + j]? = some (Jvm.Free.Multi.innerC (X.1.2 1) k.toNatClampNeg (defaultValue .int)) := fun j hj => by
    have := Jvm.Free.Multi.fill_inner (T.setVm vm₁) (X.1.2 5) (X.1.2 1) n.toNatClampNeg k.toNatClampNeg (defaultValue .int) n.toNatClampNeg j hj
    rw [hF, hTh] at this
    exact this
  rw [mn_outer] at f2
  have key : va_P X.1.1 classes (xwl X (sh ++ (.inr (5, n.toNatClampNeg, some (mnG sh.length n.toNatClampNeg)) :: List.replicate n.toNatClampNeg (.inr (1, k.toNatClampNeg, none)))) (mn0 μ sh.length)) F.heap := by
    intro q x hx
    obtain ⟨s9, h9, rfl⟩ := xwl_of hx
    by_cases hq : q < sh.length
    · rw [List.getElem?_append_left hq] at h9
      have h8 := hP q _ (xwl_get μ h9)
      have h7 : mn0 μ sh.length q = μ q := by simp [mn0, hq]
      rw [h7]
      exact h8.kept (hold _ h8.lt)
    · rw [List.getElem?_append_right (by omega)] at h9
      have h7 : mn0 μ sh.length q = fun _ => 0 := by simp [mn0, hq]
      rw [h7]
      obtain ⟨j, rfl⟩ : ∃ j, q = sh.length + j := ⟨q - sh.length, by omega⟩
      rw [show sh.length + j - sh.length = j by omega] at h9
      match j, h9 with
      | 0, h9 =>
        cases h9
        show F.heap[X.2 + (sh.length + 0)]? = some (vp_cell _ _)
        rw [show X.2 + (sh.length + 0) = H.size by rw [hsz]; omega, f2, vp_cell_q]
        refine congrArg (fun f => some (arrV (X.1.2 5) n.toNatClampNeg f)) (funext fun j => ?_)
        by_cases hj : j < n.toNatClampNeg
        · have e7 : H.size + 1 + j = X.2 + (sh.length + 1 + j) := by rw [hsz]; omega
          simp [mnG, hj, e7]
        · simp [mnG, hj]
      | j + 1, h9 =>
        have h9 : (List.replicate n.toNatClampNeg (Sum.inr (1, k.toNatClampNeg, none) : xS))[j]? = some s9 := h9
        have hj : j < n.toNatClampNeg := by
          have := (List.getElem?_eq_some_iff.mp h9).1
          simpa using this
        rw [List.getElem?_replicate, if_pos hj] at h9
        cases h9
        show F.heap[X.2 + (sh.length + (j + 1))]? = some (vp_cell _ _)
        rw [show X.2 + (sh.length + (j + 1)) = H.size + 1 + j by rw [hsz]; omega, hrow j hj]
        refine congrArg some (Eq.trans ?_ (vp_cell_i (X.1.2 1) k.toNatClampNeg (fun _ => 0)).symm)
        show Jvm.Free.Multi.innerC (X.1.2 1) k.toNatClampNeg (.int 0) = arrV (X.1.2 1) k.toNatClampNeg (fun _ => .int 0)
        rw [← arrV_new]
        rfl
  obtain ⟨t, a1, b1⟩ := kk p e s m args below meth c F.heap locs ls hC ⟨key, ⟨Nat.le_trans hS.1 (by rw [f1]; omega), fun x q1 q2 => (hold x (Nat.lt_of_lt_of_le q1 hS.1)).trans (hS.2.1 x q1 q2), hS.2.2⟩, by simp; omega, fun h => (by cases h), fun _ => by rw [f1, hsz]; simp; omega⟩ hL F rfl X'
  refine ⟨t, step t ?_, b1⟩
  have e9 : T.heap.size = X.2 + sh.length := by rw [hT, hsz]
  rw [e9]
  exact a1
end SXG
end
section
section CG
variable {l : Launch} {R : Room} {X : xD} {Ex : State → Prop} {K : xK} {n0 : Nat} {Z : List Frame → Array Value → State → State → Prop} {pc : Nat} {L : List (Option Value)} {st : List Value} {sh sh' : List xS} {μ : xM} {cs ss : Nat}
theorem sx_mnaL {i N M n1 : Nat} {n k : Int32} (hlen : sh.length = n1) (hd : decode K.2.1 pc = .ok (.multianewarray i 2, 4)) (hcl : Cond.classLink K.1 i ("[" ++ (FieldType.array .int).toString) ∈ xws) (ho : ∀ s : State, Ex s → (Cond.arrayOver (.array .int)).before #[] s = true) (hn : ¬ n < 0) (hk : ¬ k < 0) (hN : n.toNatClampNeg = N) (hM : k.toNatClampNeg = M) (hb1 : N * 4 ≤ 536870912) (hb2 : M * componentBytes .int ≤ 536870912) (hb3 : M ≤ 536870912) (h1 : cs + (1 + N) ≤ R.cells) (h2 : ss + (N + N * M) ≤ R.slots)
    (hsh : sh ++ (.inr (5, N, some (mnG n1 N)) :: List.replicate N (.inr (1, M, none))) = sh')
    (kk : ∀ μ' : xM, μ' = mn0 μ n1 → sx l R X Ex true K n0 Z (pc + 4) L (.ref (X.2 + n1) :: st) sh' μ' (cs + 1 + N) (ss + N + N * M)) : sx l R X Ex true K n0 Z pc L (.int k :: .int n :: st) sh μ cs ss := by
  subst hlen
  exact sx_mna hd hcl w_ai ho hn hk hN hM hb1 hb2 hb3 h1 h2 hsh (kk _ rfl)
end CG
set_option maxHeartbeats 1000000 in
set_option maxRecDepth 20000 in
theorem l_House {X : xD} {l : Launch} {Z : List Frame → Array Value → State → State → Prop} {sh : List xS} {k : Nat} {μ0 : xM} (hk : k < sh.length)
    (hZ : ∀ (μ : xM) (i : Int32), (∀ j, j < 30 → μ (sh.length + 1) j = (-1)) → (∀ a, a ≠ sh.length + 1 → μ a = μ0 a) → sx l ({ frames := 1, cells := 35, slots := 1050, locals := 30 } : Room) X ExA true kX0_init sh.length Z 69 [some (.ref (X.2 + k)), some (.int i)] [] (sh.set k (.inl (0, [rr (sh.length), rr (sh.length + 1), rr (sh.length + 2), rr (sh.length + 3), rr (sh.length + 34)])) ++ [shI 30, shI 30, shI 30, .inr (5, 30, some (mnG (sh.length + 3) 30)), shI 30, shI 30, shI 30, shI 30, shI 30, shI 30, shI 30, shI 30, shI 30, shI 30, shI 30, shI 30, shI 30, shI 30, shI 30, shI 30, shI 30, shI 30, shI 30, shI 30, shI 30, shI 30, shI 30, shI 30, shI 30, shI 30, shI 30, shI 30, shI 30, shI 30, shI 30]) μ 35 1050) :
    ∀ (m j : Nat) (μ : xM), 30 - j ≤ m → j ≤ 30 → (∀ b, b < j → μ (sh.length + 1) b = (-1)) → (∀ a, a ≠ sh.length + 1 → μ a = μ0 a) → sx l ({ frames := 1, cells := 35, slots := 1050, locals := 30 } : Room) X ExA true kX0_init sh.length Z 50 [some (.ref (X.2 + k)), some (.int (nI j))] [] (sh.set k (.inl (0, [rr (sh.length), rr (sh.length + 1), rr (sh.length + 2), rr (sh.length + 3), rr (sh.length + 34)])) ++ [shI 30, shI 30, shI 30, .inr (5, 30, some (mnG (sh.length + 3) 30)), shI 30, shI 30, shI 30, shI 30, shI 30, shI 30, shI 30, shI 30, shI 30, shI 30, shI 30, shI 30, shI 30, shI 30, shI 30, shI 30, shI 30, shI 30, shI 30, shI 30, shI 30, shI 30, shI 30, shI 30, shI 30, shI 30, shI 30, shI 30, shI 30, shI 30, shI 30]) μ 35 1050 := by
  intro m
  induction m with
  | zero =>
    intro j μ hm hj h1 h2
    have hjn : j = 30 := by omega
    subst hjn
    refine sx_iload_n (pc := 50) dX0_init_50 rfl rfl ?_
    refine sx_bipush (pc := 51) (v := 30) dX0_init_51 (by decide) ?_
    exact sx_icmp_ge (pc := 53) (tgt := 69) dX0_init_53 (by decide) (fun _ => hZ μ _ h1 h2) (fun q => absurd (by decide) q)
  | succ m ih =>
    intro j μ hm hj h1 h2
    refine sx_iload_n (pc := 50) dX0_init_50 rfl rfl ?_
    refine sx_bipush (pc := 51) (v := 30) dX0_init_51 (by decide) ?_
    refine sx_icmp_ge (pc := 53) (tgt := 69) dX0_init_53 (by decide) (fun q => ?_) (fun q => ?_)
    · have hj6 : j = 30 := by
        by_cases hlt : j < 30
        · exact absurd q (nI_ge hlt (by decide))
        · omega
      subst hj6
      exact hZ μ _ h1 h2
    · have hlt : j < 30 := Nat.lt_of_not_le fun z => q (nI_le z (by omega))
      refine sx_aload_n (pc := 56) dX0_init_56 rfl rfl ?_
      refine sx_getr (pc := 57) (ci := 0) (j := 1) (r := sh.length + 1) dX0_init_57 rfl (xg_k hk) rfl (by decide) lf_X0_15 ?_
      refine sx_iload_n (pc := 60) dX0_init_60 rfl rfl ?_
      refine sx_iconst (pc := 61) (v := (-1)) dX0_init_61 (by decide) ?_
      refine sx_iast (pc := 62) (ti := 1) (n := 30) dX0_init_62 (xg_t 1 rfl) (by decide) rfl (vp_in_nI hlt (by decide)) (fun μ1 hμ1 => ?_)
      refine sx_iinc (pc := 63) (v := nI (j + 1)) (L' := [some (.ref (X.2 + k)), some (.int (nI (j + 1)))]) dX0_init_63 rfl (nI_1 j) (by decide) rfl ?_
      refine sx_goto (pc := 66) (tgt := 50) dX0_init_66 (by decide) ?_
      refine ih (j + 1) μ1 (by omega) (by omega) (fun b hb => ?_) (fun a ha => ?_)
      · rw [hμ1, xup_at, nI_clamp (by omega)]
        by_cases e : b = j
        · rw [if_pos ⟨rfl, e⟩]
        · rw [if_neg (fun z => e z.2)]
          exact h1 b (by omega)
      · rw [hμ1, ← h2 a ha]
        funext b
        rw [xup_at, if_neg (fun z => ha z.1)]
set_option maxHeartbeats 1000000 in
set_option maxRecDepth 20000 in
theorem c_House_init (X : xD) (sh : List xS) (μ : xM) (k : Nat) (hs : sh[k]? = some (.inl (0, fl0_0)))  (S : List xS) : Ct X ExA true yX0_init kX0_init ({ frames := 1, cells := 35, slots := 1050, locals := 30 } : Room) [.ref (X.2 + k)] sh μ (fun r sh' μ' => r = none ∧ sh.set k (.inl (0, [rr (sh.length), rr (sh.length + 1), rr (sh.length + 2), rr (sh.length + 3), rr (sh.length + 34)])) ++ [shI 30, shI 30, shI 30, .inr (5, 30, some (mnG (sh.length + 3) 30)), shI 30, shI 30, shI 30, shI 30, shI 30, shI 30, shI 30, shI 30, shI 30, shI 30, shI 30, shI 30, shI 30, shI 30, shI 30, shI 30, shI 30, shI 30, shI 30, shI 30, shI 30, shI 30, shI 30, shI 30, shI 30, shI 30, shI 30, shI 30, shI 30, shI 30, shI 30] = sh' ∧ (∀ a, a < sh.length → a ≠ k → μ' a = μ a) ∧ (∀ a, sh.length ≤ a → a < sh.length + 35 → a ≠ sh.length + 1 → ∀ j, μ' a j = 0) ∧ ∀ j, j < 30 → μ' (sh.length + 1) j = (-1)) := by
  have hk : k < sh.length := (List.getElem?_eq_some_iff.mp hs).1
  refine Ct.of (L0 := [some (.ref (X.2 + k)), none]) (by decide) rfl (fun _ => rfl) (by simp [Value.category]) (Nat.le_of_ble_eq_true rfl) rfl (fun l => ?_)
  rw [show sx l ({ frames := 1, cells := 35, slots := 1050, locals := 30 } : Room) X ExA true kX0_init sh.length (xZ X true sh.length (fun r sh' μ' => r = none ∧ sh.set k (.inl (0, [rr (sh.length), rr (sh.length + 1), rr (sh.length + 2), rr (sh.length + 3), rr (sh.length + 34)])) ++ [shI 30, shI 30, shI 30, .inr (5, 30, some (mnG (sh.length + 3) 30)), shI 30, shI 30, shI 30, shI 30, shI 30, shI 30, shI 30, shI 30, shI 30, shI 30, shI 30, shI 30, shI 30, shI 30, shI 30, shI 30, shI 30, shI 30, shI 30, shI 30, shI 30, shI 30, shI 30, shI 30, shI 30, shI 30, shI 30, shI 30, shI 30, shI 30, shI 30] = sh' ∧ (∀ a, a < sh.length → a ≠ k → μ' a = μ a) ∧ (∀ a, sh.length ≤ a → a < sh.length + 35 → a ≠ sh.length + 1 → ∀ j, μ' a j = 0) ∧ ∀ j, j < 30 → μ' (sh.length + 1) j = (-1)) ({ frames := 1, cells := 35, slots := 1050, locals := 30 } : Room).cells ({ frames := 1, cells := 35, slots := 1050, locals := 30 } : Room).slots) 0 [some (.ref (X.2 + k)), none] [] sh μ 0 0 = sx l ({ frames := 1, cells := 35, slots := 1050, locals := 30 } : Room) X ExA true kX0_init sh.length (xZ X true sh.length (fun r sh' μ' => r = none ∧ sh.set k (.inl (0, [rr (sh.length), rr (sh.length + 1), rr (sh.length + 2), rr (sh.length + 3), rr (sh.length + 34)])) ++ [shI 30, shI 30, shI 30, .inr (5, 30, some (mnG (sh.length + 3) 30)), shI 30, shI 30, shI 30, shI 30, shI 30, shI 30, shI 30, shI 30, shI 30, shI 30, shI 30, shI 30, shI 30, shI 30, shI 30, shI 30, shI 30, shI 30, shI 30, shI 30, shI 30, shI 30, shI 30, shI 30, shI 30, shI 30, shI 30, shI 30, shI 30, shI 30, shI 30] = sh' ∧ (∀ a, a < sh.length → a ≠ k → μ' a = μ a) ∧ (∀ a, sh.length ≤ a → a < sh.length + 35 → a ≠ sh.length + 1 → ∀ j, μ' a j = 0) ∧ ∀ j, j < 30 → μ' (sh.length + 1) j = (-1)) ({ frames := 1, cells := 35, slots := 1050, locals := 30 } : Room).cells ({ frames := 1, cells := 35, slots := 1050, locals := 30 } : Room).slots) 0 [some (.ref (X.2 + k)), none] [] (sh.set k (.inl (0, fl0_0)) ++ []) μ 0 0 by rw [List.append_nil, xsame hs]]
  refine sx_aload_n (pc := 0) dX0_init_0 rfl rfl ?_
  refine sx_objInit (pc := 1) dX0_init_1 lm_X0_3 w_oi w_oc (Nat.le_of_ble_eq_true rfl) (Nat.le_of_ble_eq_true rfl) ?_
  refine sx_aload_n (pc := 4) dX0_init_4 rfl rfl ?_
  refine sx_bipush (pc := 5) (v := 30) dX0_init_5 (by decide) ?_
  refine sx_newaL (pc := 7) (ti := 1) (N := 30) (n1 := sh.length) (sh' := sh.set k (.inl (0, [some none, some none, some none, some none, some none])) ++ [shI 30]) xl_n dX0_init_7 w_ai rfl rfl rfl (by decide) (by decide) (by decide) (List.append_assoc _ _ _) (Nat.le_of_ble_eq_true rfl) (Nat.le_of_ble_eq_true rfl) (fun _ _ h => h) (fun μ1 hμ1 => ?_)
  refine sx_putrFm (pc := 9) (ci := 0) (j := 0) (r := sh.length) (sh' := sh.set k (.inl (0, [rr (sh.length), some none, some none, some none, some none])) ++ [shI 30]) dX0_init_9 rfl (xg_k hk) (Nat.le_of_ble_eq_true rfl) (by decide) lf_X0_9 rfl rfl rfl (tyX0_ok 0 (by decide)) rfl rfl (xs_k hk) (fun μ2 hμ2 => ?_)
  refine sx_aload_n (pc := 12) dX0_init_12 rfl rfl ?_
  refine sx_bipush (pc := 13) (v := 30) dX0_init_13 (by decide) ?_
  refine sx_newaL (pc := 15) (ti := 1) (N := 30) (n1 := sh.length + 1) (sh' := sh.set k (.inl (0, [rr (sh.length), some none, some none, some none, some none])) ++ [shI 30, shI 30]) xl_n dX0_init_15 w_ai rfl rfl rfl (by decide) (by decide) (by decide) (List.append_assoc _ _ _) (Nat.le_of_ble_eq_true rfl) (Nat.le_of_ble_eq_true rfl) (fun _ _ h => h) (fun μ3 hμ3 => ?_)
  refine sx_putrFm (pc := 17) (ci := 0) (j := 1) (r := sh.length + 1) (sh' := sh.set k (.inl (0, [rr (sh.length), rr (sh.length + 1), some none, some none, some none])) ++ [shI 30, shI 30]) dX0_init_17 rfl (xg_k hk) (Nat.le_of_ble_eq_true rfl) (by decide) lf_X0_15 rfl rfl rfl (tyX0_ok 1 (by decide)) rfl rfl (xs_k hk) (fun μ4 hμ4 => ?_)
  refine sx_aload_n (pc := 20) dX0_init_20 rfl rfl ?_
  refine sx_bipush (pc := 21) (v := 30) dX0_init_21 (by decide) ?_
  refine sx_newaL (pc := 23) (ti := 1) (N := 30) (n1 := sh.length + 2) (sh' := sh.set k (.inl (0, [rr (sh.length), rr (sh.length + 1), some none, some none, some none])) ++ [shI 30, shI 30, shI 30]) xl_n dX0_init_23 w_ai rfl rfl rfl (by decide) (by decide) (by decide) (List.append_assoc _ _ _) (Nat.le_of_ble_eq_true rfl) (Nat.le_of_ble_eq_true rfl) (fun _ _ h => h) (fun μ5 hμ5 => ?_)
  refine sx_putrFm (pc := 25) (ci := 0) (j := 2) (r := sh.length + 2) (sh' := sh.set k (.inl (0, [rr (sh.length), rr (sh.length + 1), rr (sh.length + 2), some none, some none])) ++ [shI 30, shI 30, shI 30]) dX0_init_25 rfl (xg_k hk) (Nat.le_of_ble_eq_true rfl) (by decide) lf_X0_18 rfl rfl rfl (tyX0_ok 2 (by decide)) rfl rfl (xs_k hk) (fun μ6 hμ6 => ?_)
  refine sx_aload_n (pc := 28) dX0_init_28 rfl rfl ?_
  refine sx_bipush (pc := 29) (v := 30) dX0_init_29 (by decide) ?_
  refine sx_bipush (pc := 31) (v := 30) dX0_init_31 (by decide) ?_
  refine sx_mnaL (pc := 33) (N := 30) (M := 30) (n1 := sh.length + 3) (sh' := sh.set k (.inl (0, [rr (sh.length), rr (sh.length + 1), rr (sh.length + 2), some none, some none])) ++ [shI 30, shI 30, shI 30, .inr (5, 30, some (mnG (sh.length + 3) 30)), shI 30, shI 30, shI 30, shI 30, shI 30, shI 30, shI 30, shI 30, shI 30, shI 30, shI 30, shI 30, shI 30, shI 30, shI 30, shI 30, shI 30, shI 30, shI 30, shI 30, shI 30, shI 30, shI 30, shI 30, shI 30, shI 30, shI 30, shI 30, shI 30, shI 30]) xl_n dX0_init_33 lc_X0_21 (fun _ h => h.2) (by decide) (by decide) (by decide) (by decide) (by decide) (by decide) (by decide) (Nat.le_of_ble_eq_true rfl) (Nat.le_of_ble_eq_true rfl) (List.append_assoc _ _ _) (fun μ7 hμ7 => ?_)
  refine sx_putrFm (pc := 37) (ci := 0) (j := 3) (r := sh.length + 3) (sh' := sh.set k (.inl (0, [rr (sh.length), rr (sh.length + 1), rr (sh.length + 2), rr (sh.length + 3), some none])) ++ [shI 30, shI 30, shI 30, .inr (5, 30, some (mnG (sh.length + 3) 30)), shI 30, shI 30, shI 30, shI 30, shI 30, shI 30, shI 30, shI 30, shI 30, shI 30, shI 30, shI 30, shI 30, shI 30, shI 30, shI 30, shI 30, shI 30, shI 30, shI 30, shI 30, shI 30, shI 30, shI 30, shI 30, shI 30, shI 30, shI 30, shI 30, shI 30]) dX0_init_37 rfl (xg_k hk) (Nat.le_of_ble_eq_true rfl) (by decide) lf_X0_23 rfl rfl rfl (tyX0_ok 3 (by decide)) rfl rfl (xs_k hk) (fun μ8 hμ8 => ?_)
  refine sx_aload_n (pc := 40) dX0_init_40 rfl rfl ?_
  refine sx_bipush (pc := 41) (v := 30) dX0_init_41 (by decide) ?_
  refine sx_newaL (pc := 43) (ti := 1) (N := 30) (n1 := sh.length + 34) (sh' := sh.set k (.inl (0, [rr (sh.length), rr (sh.length + 1), rr (sh.length + 2), rr (sh.length + 3), some none])) ++ [shI 30, shI 30, shI 30, .inr (5, 30, some (mnG (sh.length + 3) 30)), shI 30, shI 30, shI 30, shI 30, shI 30, shI 30, shI 30, shI 30, shI 30, shI 30, shI 30, shI 30, shI 30, shI 30, shI 30, shI 30, shI 30, shI 30, shI 30, shI 30, shI 30, shI 30, shI 30, shI 30, shI 30, shI 30, shI 30, shI 30, shI 30, shI 30, shI 30]) xl_n dX0_init_43 w_ai rfl rfl rfl (by decide) (by decide) (by decide) (List.append_assoc _ _ _) (Nat.le_of_ble_eq_true rfl) (Nat.le_of_ble_eq_true rfl) (fun _ _ h => h) (fun μ9 hμ9 => ?_)
  refine sx_putrFm (pc := 45) (ci := 0) (j := 4) (r := sh.length + 34) (sh' := sh.set k (.inl (0, [rr (sh.length), rr (sh.length + 1), rr (sh.length + 2), rr (sh.length + 3), rr (sh.length + 34)])) ++ [shI 30, shI 30, shI 30, .inr (5, 30, some (mnG (sh.length + 3) 30)), shI 30, shI 30, shI 30, shI 30, shI 30, shI 30, shI 30, shI 30, shI 30, shI 30, shI 30, shI 30, shI 30, shI 30, shI 30, shI 30, shI 30, shI 30, shI 30, shI 30, shI 30, shI 30, shI 30, shI 30, shI 30, shI 30, shI 30, shI 30, shI 30, shI 30, shI 30]) dX0_init_45 rfl (xg_k hk) (Nat.le_of_ble_eq_true rfl) (by decide) lf_X0_26 rfl rfl rfl (tyX0_ok 4 (by decide)) rfl rfl (xs_k hk) (fun μ10 hμ10 => ?_)
  refine sx_iconst (pc := 48) (v := 0) dX0_init_48 (by decide) ?_
  refine sx_istore_n (pc := 49) (L' := [some (.ref (X.2 + k)), some (.int (nI 0))]) dX0_init_49 rfl (by decide) rfl ?_
  have hA : ∀ a, sh.length ≤ a → a < sh.length + 35 → ∀ j, μ10 a j = 0 := by
    intro a h1 h2 j
    have hne : a ≠ k := by omega
    subst hμ10; subst hμ9; subst hμ8; subst hμ7; subst hμ6; subst hμ5; subst hμ4; subst hμ3; subst hμ2; subst hμ1
    by_cases h3 : a < sh.length + 3
    · rcases (show a = sh.length ∨ a = sh.length + 1 ∨ a = sh.length + 2 by omega) with e | e | e
      · simp [xup_at, va_up, mn0, e, show sh.length ≠ k by omega]
      · simp [xup_at, va_up, mn0, e, show sh.length + 1 ≠ k by omega]
      · simp [xup_at, va_up, mn0, e, show sh.length + 2 ≠ k by omega]
    · by_cases e : a = sh.length + 34
      · simp [xup_at, va_up, e, show sh.length + 34 ≠ k by omega]
      · simp [xup_at, va_up, mn0, hne, h3, e]
  have hB : ∀ a, a < sh.length → a ≠ k → μ10 a = μ a := by
    intro a h1 h2
    subst hμ10; subst hμ9; subst hμ8; subst hμ7; subst hμ6; subst hμ5; subst hμ4; subst hμ3; subst hμ2; subst hμ1
    funext j
    simp [xup_at, va_up, mn0, h2, Nat.ne_of_lt h1, show a ≠ sh.length + 1 by omega, show a ≠ sh.length + 2 by omega, show a ≠ sh.length + 34 by omega, show a < sh.length + 3 by omega]
  refine l_House (μ0 := μ10) hk (fun μ' i g1 g2 => ?_) 30 0 μ10 (by omega) (by omega) (fun b hb => absurd hb (Nat.not_lt_zero _)) (fun _ _ => rfl)
  exact sx_vret (pc := 69) dX0_init_69 rfl (Nat.le_of_ble_eq_true rfl) (Nat.le_of_ble_eq_true rfl) ⟨rfl, rfl, fun a h1 h2 => (g2 a (by omega)).trans (hB a h1 h2), fun a h1 h2 h3 j => by rw [g2 a h3]; exact hA a h1 h2 j, g1⟩
end
section
section CE
variable {l : Launch} {R : Room} {X : xD} {Ex : State → Prop} {K : xK} {n0 : Nat} {Z : List Frame → Array Value → State → State → Prop} {pc : Nat} {L : List (Option Value)} {st : List Value} {sh sh' : List xS} {μ : xM} {cs ss : Nat}
theorem sx_anewaL {C : String} {i ti N n1 : Nat} {n : Int32} (hlen : sh.length = n1) (hd : decode K.2.1 pc = .ok (.anewarray i, 3)) (hcl : Cond.classLink K.1 i C ∈ xws) (ho : ∀ s : State, Ex s → va_AO C s) (ht : xty[ti]? = some (.object C)) (hn : ¬ n < 0) (hN : n.toNatClampNeg = N) (hb : N * 4 ≤ 536870912) (hsh : sh ++ [.inr (ti, N, some [])] = sh') (h1 : cs + 1 ≤ R.cells) (h2 : ss + N ≤ R.slots)
    (kk : ∀ μ' : xM, μ' = va_up μ n1 (fun _ => 0) → sx l R X Ex true K n0 Z (pc + 3) L (.ref (X.2 + n1) :: st) sh' μ' (cs + 1) (ss + N)) : sx l R X Ex true K n0 Z pc L (.int n :: st) sh μ cs ss := by
  subst hlen
  exact sx_anewa hd hcl ho ht hn hN hb hsh h1 h2 (kk _ rfl)
end CE
def gl (i : Nat) : List (Option Nat) := (List.range i).map fun d => some (2 + 9 * d)
def tl (i : Nat) : List xS := .inr (4, 6, some (gl i)) :: (List.range i).flatMap fun d => shLines (2 + 9 * d)
def SE (F : xS) (i : Nat) : List xS := F :: tl i
theorem six {P : Nat → Prop} {i : Nat} (h : i < 6) (h0 : P 0) (h1 : P 1) (h2 : P 2) (h3 : P 3) (h4 : P 4) (h5 : P 5) : P i := by
  rcases (show i = 0 ∨ i = 1 ∨ i = 2 ∨ i = 3 ∨ i = 4 ∨ i = 5 by omega) with rfl | rfl | rfl | rfl | rfl | rfl <;> assumption
theorem se_len (F : xS) {i : Nat} (h : i < 6) : (SE F i).length = 2 + 9 * i := six (P := fun i => (SE F i).length = 2 + 9 * i) h rfl rfl rfl rfl rfl rfl
theorem se_new (F : xS) {i : Nat} (h : i < 6) : (SE F i ++ [.inl (2, fl0_2)])[2 + 9 * i]? = some (.inl (2, fl0_2)) := six (P := fun i => (SE F i ++ [.inl (2, fl0_2)])[2 + 9 * i]? = some (.inl (2, fl0_2))) h rfl rfl rfl rfl rfl rfl
theorem se_nlen (F : xS) {i : Nat} (h : i < 6) : (SE F i ++ [(.inl (2, fl0_2) : xS)]).length = 3 + 9 * i := six (P := fun i => (SE F i ++ [(.inl (2, fl0_2) : xS)]).length = 3 + 9 * i) h rfl rfl rfl rfl rfl rfl
theorem se_line (F : xS) {i : Nat} (h : i < 6) : SE F i ++ shLines (2 + 9 * i) = (SE F i ++ [(.inl (2, fl0_2) : xS)]).set (2 + 9 * i) (.inl (2, [rr (3 + 9 * i), none, none, none, none, none, rr (3 + 9 * i + 1), rr (3 + 9 * i + 3), rr (3 + 9 * i + 5), rr (3 + 9 * i + 6), rr (3 + 9 * i + 7), none])) ++ [shI 60, .inl (4, [rr (3 + 9 * i + 2), none]), shI 13, .inl (4, [rr (3 + 9 * i + 4), none]), shI 13, shI 20, shI 20, shI 20] :=
  six (P := fun i => SE F i ++ shLines (2 + 9 * i) = (SE F i ++ [(.inl (2, fl0_2) : xS)]).set (2 + 9 * i) (.inl (2, [rr (3 + 9 * i), none, none, none, none, none, rr (3 + 9 * i + 1), rr (3 + 9 * i + 3), rr (3 + 9 * i + 5), rr (3 + 9 * i + 6), rr (3 + 9 * i + 7), none])) ++ [shI 60, .inl (4, [rr (3 + 9 * i + 2), none]), shI 13, .inl (4, [rr (3 + 9 * i + 4), none]), shI 13, shI 20, shI 20, shI 20]) h rfl rfl rfl rfl rfl rfl
theorem se_1 (F : xS) {i : Nat} (h : i < 6) : (SE F i ++ shLines (2 + 9 * i))[1]? = some (.inr (4, 6, some (gl i))) := rfl
theorem se_at (F : xS) {i : Nat} (h : i < 6) : (SE F i ++ shLines (2 + 9 * i))[2 + 9 * i]? = some (shLine (2 + 9 * i)) := six (P := fun i => (SE F i ++ shLines (2 + 9 * i))[2 + 9 * i]? = some (shLine (2 + 9 * i))) h rfl rfl rfl rfl rfl rfl
theorem se_put (F : xS) {i : Nat} (h : i < 6) : (SE F i ++ shLines (2 + 9 * i)).set 1 (.inr (4, 6, some (gl i ++ [some (2 + 9 * i)]))) = SE F (i + 1) := six (P := fun i => (SE F i ++ shLines (2 + 9 * i)).set 1 (.inr (4, 6, some (gl i ++ [some (2 + 9 * i)]))) = SE F (i + 1)) h rfl rfl rfl rfl rfl rfl
def LFx (μ : xM) (d : Nat) : Prop := μ (2 + 9 * d) 1 = 0 ∧ μ (2 + 9 * d) 2 = 0 ∧ μ (2 + 9 * d) 3 = 0 ∧ μ (2 + 9 * d) 4 = (-1) ∧ μ (2 + 9 * d) 5 = 0 ∧ μ (2 + 9 * d) 11 = 0 ∧ μ (2 + 9 * d + 2) 1 = 0 ∧ μ (2 + 9 * d + 4) 1 = 0
theorem LFx.to {μ μ' : xM} {d : Nat} (h : LFx μ d) (e : ∀ a, 2 + 9 * d ≤ a → a < 2 + 9 * d + 9 → μ' a = μ a) : LFx μ' d := by
  unfold LFx at h ⊢
  rw [e (2 + 9 * d) (by omega) (by omega), e (2 + 9 * d + 2) (by omega) (by omega), e (2 + 9 * d + 4) (by omega) (by omega)]
  exact h
set_option maxHeartbeats 1000000 in
set_option maxRecDepth 20000 in
theorem l_EW {X : xD} {l : Launch} {Z : List Frame → Array Value → State → State → Prop}
    (hZ : ∀ (μ : xM) (i : Int32), (∀ d, d < 6 → LFx μ d) → sx l ({ frames := 3, cells := 94, slots := 7046, locals := 130 } : Room) X ExA true kX5_init 1 Z 40 [some (.ref (X.2 + 0)), some (.int i)] [] (SE (.inl (5, [rr 1, some none, some none, some none, none]) : xS) 6) μ 55 984) :
    ∀ (m i : Nat) (μ : xM), 6 - i ≤ m → i ≤ 6 → (∀ d, d < i → LFx μ d) → sx l ({ frames := 3, cells := 94, slots := 7046, locals := 130 } : Room) X ExA true kX5_init 1 Z 15 [some (.ref (X.2 + 0)), some (.int (nI i))] [] (SE (.inl (5, [rr 1, some none, some none, some none, none]) : xS) i) μ (1 + 9 * i) (6 + 163 * i) := by
  intro m
  induction m with
  | zero =>
    intro i μ hm hj h1
    have hjn : i = 6 := by omega
    subst hjn
    refine sx_iload_n (pc := 15) dX5_init_15 rfl rfl ?_
    refine sx_bipush (pc := 16) (v := 6) dX5_init_16 (by decide) ?_
    exact sx_icmp_ge (pc := 18) (tgt := 40) dX5_init_18 (by decide) (fun _ => hZ μ _ h1) (fun q => absurd (by decide) q)
  | succ m ih =>
    intro i μ hm hj h1
    refine sx_iload_n (pc := 15) dX5_init_15 rfl rfl ?_
    refine sx_bipush (pc := 16) (v := 6) dX5_init_16 (by decide) ?_
    refine sx_icmp_ge (pc := 18) (tgt := 40) dX5_init_18 (by decide) (fun q => ?_) (fun q => ?_)
    · have hj6 : i = 6 := by
        by_cases hlt : i < 6
        · exact absurd q (nI_ge hlt (by decide))
        · omega
      subst hj6
      exact hZ μ _ h1
    · have hi : i < 6 := Nat.lt_of_not_le fun z => q (nI_le z (by omega))
      refine sx_aload_n (pc := 21) dX5_init_21 rfl rfl ?_
      refine sx_getr (pc := 22) (ci := 5) (j := 0) (k := 0) (r := 1) (fl := [rr 1, some none, some none, some none, none]) dX5_init_22 rfl rfl rfl (by decide) lf_X5_11 ?_
      refine sx_iload_n (pc := 25) dX5_init_25 rfl rfl ?_
      refine sx_newL (pc := 26) (ci := 2) (fl := fl0_2) (n1 := 2 + 9 * i) (se_len _ hi) dX5_init_26 rfl lc_X5_9 in_2 ii_2 nf_2 rfl (by show 1 + 9 * i + 1 ≤ 94; omega) (by show 6 + 163 * i + 12 ≤ 7046; omega) (fun μ1 hμ1 => ?_)
      refine sx_dup (pc := 29) dX5_init_29 rfl ?_
      refine sx_callIN (host := "ExchangeWire") (pc := 30) (As := []) (k := 2 + 9 * i) rfl dX5_init_30 (c_Line_init X _ μ1 (2 + 9 * i) (se_new _ hi) []) mX2_init (by decide +kernel) rfl ⟨(Nat.le_of_ble_eq_true rfl), (Nat.le_of_ble_eq_true rfl)⟩ ⟨by show 1 + 9 * i + 1 + 8 ≤ 94; omega, by show 6 + 163 * i + 12 + 151 ≤ 7046; omega⟩ (Nat.le_of_ble_eq_true rfl) ExA_st (fun r_30 sh_30 μ2 h_30 => ?_)
      obtain ⟨rfl, e_30, k_30, z1, z2, z3, z4, z5, z6, z7, z8⟩ := h_30
      rw [se_nlen _ hi] at e_30 k_30 z7 z8
      rw [← se_line _ hi] at e_30
      subst e_30
      refine sx_aast (pc := 33) (k := 1) (r := 2 + 9 * i) (ti := 4) (ci := 2) (g := gl i) dX5_init_33 (se_1 _ hi) rfl rfl (se_at _ hi) (vp_in_nI hi (by decide)) (by rw [nI_clamp (by omega)]; simp [gl]) (se_put _ hi) (fun μ3 hμ3 => ?_)
      refine sx_iinc (pc := 34) (v := nI (i + 1)) (L' := [some (.ref (X.2 + 0)), some (.int (nI (i + 1)))]) dX5_init_34 rfl (nI_1 i) (by decide) rfl ?_
      refine sx_goto (pc := 37) (tgt := 15) dX5_init_37 (by decide) ?_
      have hμ3' : μ3 = μ2 := by
        rw [hμ3]
        funext a
        by_cases e : a = 1 <;> simp [va_up, e]
      subst hμ3'
      refine sx_widen (k := 1 + 9 * (i + 1)) (n := 6 + 163 * (i + 1)) (by show 1 + 9 * i + 1 + 8 ≤ _; omega) (by show 6 + 163 * i + 12 + 151 ≤ _; omega) (ih (i + 1) μ3 (by omega) (by omega) (fun d hd => ?_))
      by_cases e : d = i
      · subst e
        exact ⟨z1, z2, z3, z4, z5, z6, by rw [show 2 + 9 * d + 2 = 3 + 9 * d + 1 by omega]; exact z7, by rw [show 2 + 9 * d + 4 = 3 + 9 * d + 3 by omega]; exact z8⟩
      · refine (h1 d (by omega)).to (fun a q1 q2 => ?_)
        rw [k_30 a (by omega) (by omega), hμ1]
        simp [va_up, show a ≠ 2 + 9 * i by omega]
def hC : List xS := [.inl (0, [rr 57, rr 58, rr 59, rr 60, rr 91]), shI 30, shI 30, shI 30, .inr (5, 30, some ((List.range 30).map fun i => some (61 + i)))] ++ List.replicate 30 (shI 30) ++ [shI 30]
abbrev jC : List xS := [.inl (1, [rr 93, none]), shI 5000]
set_option maxHeartbeats 1000000 in
set_option maxRecDepth 20000 in
theorem c_EW_init (X : xD) (μ : xM) : Ct X ExA true yX5_init kX5_init ({ frames := 3, cells := 94, slots := 7046, locals := 130 } : Room) [.ref (X.2 + 0)] [.inl (5, fl0_5)] μ (fun r sh' μ' => r = none ∧ shC = sh' ∧ (∀ d, d < 6 → LFx μ' d) ∧ (∀ a, 57 ≤ a → a < 92 → a ≠ 58 → ∀ j, μ' a j = 0) ∧ (∀ j, j < 30 → μ' 58 j = (-1)) ∧ μ' 92 1 = 0 ∧ μ' 0 4 = 0) := by
  refine Ct.of (L0 := [some (.ref (X.2 + 0)), none]) (by decide) rfl (fun _ => rfl) (by simp [Value.category]) (Nat.le_of_ble_eq_true rfl) rfl (fun l => ?_)
  refine sx_aload_n (pc := 0) dX5_init_0 rfl rfl ?_
  refine sx_objInit (pc := 1) dX5_init_1 lm_X5_1 w_oi w_oc (Nat.le_of_ble_eq_true rfl) (Nat.le_of_ble_eq_true rfl) ?_
  refine sx_aload_n (pc := 4) dX5_init_4 rfl rfl ?_
  refine sx_bipush (pc := 5) (v := 6) dX5_init_5 (by decide) ?_
  refine sx_anewaL (pc := 7) (ti := 4) (N := 6) (n1 := 1) (sh' := [.inl (5, fl0_5), .inr (4, 6, some [])]) rfl dX5_init_7 lc_X5_9 (fun _ h => h.1) rfl (by decide) (by decide) (by decide) rfl (Nat.le_of_ble_eq_true rfl) (Nat.le_of_ble_eq_true rfl) (fun μ1 hμ1 => ?_)
  refine sx_putrFm (pc := 10) (ci := 5) (j := 0) (k := 0) (r := 1) (fl := fl0_5) (sh' := SE (.inl (5, [rr 1, some none, some none, some none, none]) : xS) 0) dX5_init_10 rfl rfl (Nat.le_of_ble_eq_true rfl) (by decide) lf_X5_11 rfl rfl rfl (tyX5_ok 0 (by decide)) rfl rfl rfl (fun μ2 hμ2 => ?_)
  refine sx_iconst (pc := 13) (v := 0) dX5_init_13 (by decide) ?_
  refine sx_istore_n (pc := 14) (L' := [some (.ref (X.2 + 0)), some (.int (nI 0))]) dX5_init_14 rfl (by decide) rfl ?_
  refine l_EW (fun μ' i hl => ?_) 6 0 μ2 (by omega) (by omega) (fun d hd => absurd hd (Nat.not_lt_zero _))
  refine sx_aload_n (pc := 40) dX5_init_40 rfl rfl ?_
  refine sx_newL (pc := 41) (ci := 0) (fl := fl0_0) (n1 := 56) (sh' := SE (.inl (5, [rr 1, some none, some none, some none, none]) : xS) 6 ++ [.inl (0, fl0_0)]) rfl dX5_init_41 rfl lc_X5_16 in_0 ii_0 nf_0 rfl (Nat.le_of_ble_eq_true rfl) (Nat.le_of_ble_eq_true rfl) (fun μ4 hμ4 => ?_)
  refine sx_dup (pc := 44) dX5_init_44 rfl ?_
  refine sx_callI (pc := 45) (As := []) (k := 56) rfl dX5_init_45 (c_House_init X _ μ4 56 rfl []) mX0_init lm_X5_18 rfl ⟨(Nat.le_of_ble_eq_true rfl), (Nat.le_of_ble_eq_true rfl)⟩ ⟨(Nat.le_of_ble_eq_true rfl), (Nat.le_of_ble_eq_true rfl)⟩ (Nat.le_of_ble_eq_true rfl) ExA_st (fun r_45 sh_45 μ5 h_45 => ?_)
  obtain ⟨rfl, e_45, k_45, z_45, b_45⟩ := h_45
  rw [show (SE (.inl (5, [rr 1, some none, some none, some none, none]) : xS) 6 ++ [(.inl (0, fl0_0) : xS)]).length = 57 from rfl] at e_45 k_45 z_45 b_45
  have e2_45 : SE (.inl (5, [rr 1, some none, some none, some none, none]) : xS) 6 ++ hC = sh_45 := by rw [← e_45]; rfl
  subst e2_45
  refine sx_putrFm (pc := 48) (ci := 5) (j := 1) (k := 0) (r := 56) (fl := [rr 1, some none, some none, some none, none]) (sh' := SE (.inl (5, [rr 1, rr 56, some none, some none, none]) : xS) 6 ++ hC) dX5_init_48 rfl rfl (Nat.le_of_ble_eq_true rfl) (by decide) lf_X5_19 rfl rfl rfl (tyX5_ok 1 (by decide)) rfl rfl rfl (fun μ6 hμ6 => ?_)
  refine sx_aload_n (pc := 51) dX5_init_51 rfl rfl ?_
  refine sx_newL (pc := 52) (ci := 1) (fl := fl0_1) (n1 := 92) (sh' := SE (.inl (5, [rr 1, rr 56, some none, some none, none]) : xS) 6 ++ hC ++ [.inl (1, fl0_1)]) rfl dX5_init_52 rfl lc_X5_23 in_1 ii_1 nf_1 rfl (Nat.le_of_ble_eq_true rfl) (Nat.le_of_ble_eq_true rfl) (fun μ7 hμ7 => ?_)
  refine sx_dup (pc := 55) dX5_init_55 rfl ?_
  refine sx_callIN (host := "ExchangeWire") (pc := 56) (As := []) (k := 92) rfl dX5_init_56 (c_Journal_init X _ μ7 92 rfl []) mX1_init (by decide +kernel) rfl ⟨(Nat.le_of_ble_eq_true rfl), (Nat.le_of_ble_eq_true rfl)⟩ ⟨(Nat.le_of_ble_eq_true rfl), (Nat.le_of_ble_eq_true rfl)⟩ (Nat.le_of_ble_eq_true rfl) ExA_st (fun r_56 sh_56 μ8 h_56 => ?_)
  obtain ⟨rfl, e_56, k_56, z_56⟩ := h_56
  rw [show (SE (.inl (5, [rr 1, rr 56, some none, some none, none]) : xS) 6 ++ hC ++ [(.inl (1, fl0_1) : xS)]).length = 93 from rfl] at e_56 k_56
  have e2_56 : SE (.inl (5, [rr 1, rr 56, some none, some none, none]) : xS) 6 ++ hC ++ jC = sh_56 := by rw [← e_56]; rfl
  subst e2_56
  refine sx_putrFm (pc := 59) (ci := 5) (j := 2) (k := 0) (r := 92) (fl := [rr 1, rr 56, some none, some none, none]) (sh' := SE (.inl (5, [rr 1, rr 56, rr 92, some none, none]) : xS) 6 ++ hC ++ jC) dX5_init_59 rfl rfl (Nat.le_of_ble_eq_true rfl) (by decide) lf_X5_26 rfl rfl rfl (tyX5_ok 2 (by decide)) rfl rfl rfl (fun μ9 hμ9 => ?_)
  refine sx_aload_n (pc := 62) dX5_init_62 rfl rfl ?_
  refine sx_newL (pc := 63) (ci := 3) (fl := fl0_3) (n1 := 94) (sh' := SE (.inl (5, [rr 1, rr 56, rr 92, some none, none]) : xS) 6 ++ hC ++ jC ++ [.inl (3, fl0_3)]) rfl dX5_init_63 rfl lc_X5_30 in_3 ii_3 nf_3 rfl (Nat.le_of_ble_eq_true rfl) (Nat.le_of_ble_eq_true rfl) (fun μ10 hμ10 => ?_)
  refine sx_dup (pc := 66) dX5_init_66 rfl ?_
  refine sx_callIN (host := "ExchangeWire") (pc := 67) (As := []) (k := 94) rfl dX5_init_67 (c_Message_init X _ μ10 94 rfl []) mX3_init (by decide +kernel) rfl ⟨(Nat.le_of_ble_eq_true rfl), (Nat.le_of_ble_eq_true rfl)⟩ ⟨(Nat.le_of_ble_eq_true rfl), (Nat.le_of_ble_eq_true rfl)⟩ (Nat.le_of_ble_eq_true rfl) ExA_st (fun r_67 sh_67 μ11 h_67 => ?_)
  obtain ⟨rfl, e_67, k_67⟩ := h_67
  rw [show (SE (.inl (5, [rr 1, rr 56, rr 92, some none, none]) : xS) 6 ++ hC ++ jC ++ [(.inl (3, fl0_3) : xS)]).length = 95 from rfl] at k_67
  have e2_67 : SE (.inl (5, [rr 1, rr 56, rr 92, some none, none]) : xS) 6 ++ hC ++ jC ++ [.inl (3, fl0_3)] = sh_67 := by rw [← e_67]; rfl
  subst e2_67
  refine sx_putrFm (pc := 70) (ci := 5) (j := 3) (k := 0) (r := 94) (fl := [rr 1, rr 56, rr 92, some none, none]) (sh' := shC) dX5_init_70 rfl rfl (Nat.le_of_ble_eq_true rfl) (by decide) lf_X5_33 rfl rfl rfl (tyX5_ok 3 (by decide)) rfl rfl rfl (fun μ12 hμ12 => ?_)
  refine sx_aload_n (pc := 73) dX5_init_73 rfl rfl ?_
  refine sx_iconst (pc := 74) (v := 0) dX5_init_74 (by decide) ?_
  refine sx_puti (pc := 75) (ci := 5) (j := 4) (k := 0) (ty := .int) (fl := [rr 1, rr 56, rr 92, rr 94, none]) dX5_init_75 rfl rfl rfl (by decide) lf_X5_37 rfl (by decide +kernel) rfl rfl (fun μ13 hμ13 => ?_)
  have hx : ∀ a, a ≠ 0 → a < 92 → a ≠ 56 → μ13 a = μ5 a := by
    intro a q1 q2 q3
    rw [hμ13, hμ12]
    funext j
    simp only [xup_at, q1, false_and, if_false]
    rw [k_67 a (by omega) (by omega), hμ10]
    simp only [va_up, show a ≠ 94 by omega, if_false]
    rw [hμ9]
    simp only [xup_at, q1, false_and, if_false]
    rw [k_56 a (by omega) (by omega), hμ7]
    simp only [va_up, show a ≠ 92 by omega, if_false]
    rw [hμ6]
    simp only [xup_at, q1, false_and, if_false]
  refine sx_vret (pc := 78) dX5_init_78 rfl (Nat.le_of_ble_eq_true rfl) (Nat.le_of_ble_eq_true rfl) ⟨rfl, rfl, fun d hd => (hl d hd).to (fun a q1 q2 => ?_), fun a q1 q2 q3 j => ?_, fun j hj => ?_, ?_, by rw [hμ13]; simp [xup_at]⟩
  · rw [hx a (by omega) (by omega) (by omega), k_45 a (by omega) (by omega), hμ4]
    simp [va_up, show a ≠ 56 by omega]
  · rw [hx a (by omega) q2 (by omega)]
    exact z_45 a q1 (by omega) (by omega) j
  · rw [hx 58 (by omega) (by omega) (by omega)]
    exact b_45 j hj
  · rw [hμ13, hμ12]
    simp only [xup_at, show ¬ ((92 : Nat) = 0) by decide, false_and, if_false]
    rw [k_67 92 (by omega) (by omega), hμ10]
    simp only [va_up, show ¬ ((92 : Nat) = 94) by decide, if_false]
    rw [hμ9]
    simp only [xup_at, show ¬ ((92 : Nat) = 0) by decide, false_and, if_false]
    exact z_56
end
section
/-! answer() throws: what is given for it, and its contract where it throws -/
abbrev aioN : String := "java/lang/ArrayIndexOutOfBoundsException"
abbrev aioUp : List String := ["java/lang/IndexOutOfBoundsException", "java/lang/RuntimeException", "java/lang/Exception"]
abbrev aioTx : String := "no such sign of an answer"
def stW : List Cond := [.laysStatic Bundle.tN "UNASSIGNED_STACK" Bundle.steD, .laysStatic Bundle.tN "SUPPRESSED_SENTINEL" Bundle.listD]
def srW : List Cond := [.isRef (.static Bundle.tN "UNASSIGNED_STACK" Bundle.steD), .isRef (.static Bundle.tN "SUPPRESSED_SENTINEL" Bundle.listD)]
def dcL : List String := ["java/lang/IndexOutOfBoundsException", "java/lang/RuntimeException", "java/lang/Exception", "java/lang/Throwable"]
def ExT (b : Nat) (U : State) : Prop := (Cond.stringRef "ExchangeWire" 68 aioTx).before #[] U = true ∧ (va_Nw (.castable aioN aioN) U ∧ ∀ n ∈ dcL, va_Nw (.declares (Bundle.initS n)) U) ∧ (∀ w ∈ stW, w.before #[] U = true) ∧ (∀ w ∈ srW, w.before #[] U = true) ∧ ∃ (c : ClassId) (k : Class) (aS : Nat), U.vm.findClass Bundle.tN = some c ∧ U.vm.classes[c]? = some k ∧ k.statics = some aS ∧ aS < b ∧ aS < U.heap.size
theorem ff_class {s : State} {cls name desc : String} {c i : Nat} {k : Class} {f : Field} (h : s.fieldFound? cls name desc = some (c, k, i, f)) : s.vm.classes[c]? = some k := by
  cases ht : parseFieldDescriptor desc with
  | none => simp [State.fieldFound?, ht] at h
  | some t =>
    simp only [State.fieldFound?, ht, Option.bind_eq_bind, Option.bind_some, Option.bind_eq_some_iff, Option.pure_def, Option.some.injEq, Prod.mk.injEq] at h
    obtain ⟨c0, _, ⟨c', i'⟩, hl, k', hk, f', hf, rfl, rfl, rfl, rfl⟩ := h
    exact hk
theorem ls_kept {s U : State} (hW : s.WarmedH U.vm) {c : ClassId} {k : Class} {aS : Nat} {f d : String} (h1 : s.vm.findClass Bundle.tN = some c) (h2 : s.vm.classes[c]? = some k) (h3 : k.statics = some aS) (hh : U.heap[aS]? = s.heap[aS]?) (h : (Cond.laysStatic Bundle.tN f d).before #[] s = true) : (Cond.laysStatic Bundle.tN f d).before #[] U = true := by
  have g := Cond.holds_shifted (State.Shifted.of_warmed hW) (.laysStatic Bundle.tN f d) [] rfl h
  obtain ⟨c', k', i, fd, a, cell, q1, q2, q3, q4, q5, q6, q7, q8, q9⟩ := Cond.laysStatic_spec g
  have hc : c' = c := by
    have := q1
    rw [show (s.setVm U.vm).vm = U.vm from rfl, hW.alike.findClass, h1] at this
    exact (Option.some.inj this).symm
  subst hc
  obtain ⟨k2, hk2, he⟩ := hW.alike.2.2 _ _ h2
  have hk' : k' = k2 := Option.some.inj ((ff_class q2).symm.trans hk2)
  have ha : a = aS := by
    rw [hk', he] at q4
    exact Option.some.inj (q4.symm.trans h3)
  subst ha
  have q5' : U.heap[a]? = some cell := hh.trans q5
  have q2' : U.fieldFound? Bundle.tN f d = some (c', k', i, fd) := q2
  have q1' : U.vm.findClass Bundle.tN = some c' := q1
  simp [Cond.before, Cond.holds, Cond.value, q1', q2', q3, q4, q5', q6, q7, q8, q9]
theorem sr_kept {s U : State} (hW : s.WarmedH U.vm) {c : ClassId} {k : Class} {aS : Nat} {f d : String} (h1 : s.vm.findClass Bundle.tN = some c) (h2 : s.vm.classes[c]? = some k) (h3 : k.statics = some aS) (hh : U.heap[aS]? = s.heap[aS]?) (hl : (Cond.laysStatic Bundle.tN f d).before #[] s = true) (h : (Cond.isRef (.static Bundle.tN f d)).before #[] s = true) : (Cond.isRef (.static Bundle.tN f d)).before #[] U = true := by
  have g := Cond.holds_shifted (State.Shifted.of_warmed hW) (.laysStatic Bundle.tN f d) [] rfl hl
  obtain ⟨c', k', i, fd, a, cell, q1, q2, q3, q4, q5, q6, q7, q8, q9⟩ := Cond.laysStatic_spec g
  have hc : c' = c := by
    have := q1
    rw [show (s.setVm U.vm).vm = U.vm from rfl, hW.alike.findClass, h1] at this
    exact (Option.some.inj this).symm
  subst hc
  obtain ⟨k2, hk2, he⟩ := hW.alike.2.2 _ _ h2
  have hk' : k' = k2 := Option.some.inj ((ff_class q2).symm.trans hk2)
  have ha : a = aS := by
    rw [hk', he] at q4
    exact Option.some.inj (q4.symm.trans h3)
  subst ha
  have q5' : U.heap[a]? = some cell := hh.trans q5
  have q5s : s.heap[a]? = some cell := q5
  have q2' : U.fieldFound? Bundle.tN f d = some (c', k', i, fd) := q2
  have gr := Cond.holds_shifted (State.Shifted.of_warmed hW) (.isRef (.static Bundle.tN f d)) [] rfl h
  have e : (Term.static Bundle.tN f d).eval #[] U none [] U = (Term.static Bundle.tN f d).eval #[] (s.setVm U.vm) none [] (s.setVm U.vm) := by
    simp [Term.eval, State.fieldNamed?, q2, q2', q3, q4, q5', q5, q5s]
  simp only [Cond.before, Cond.holds, Cond.value] at gr ⊢
  rw [e]
  exact gr
theorem ExT_st {X : xD} {fr : Bool} {n : Nat} : xEs X fr n (ExT X.2) := by
  rintro s U hW hz hk ⟨h1, h2, h3, h4, c, k, aS, g1, g2, g3, g4, g5⟩
  have hh : U.heap[aS]? = s.heap[aS]? := hk aS g5 (fun q => by have := q.1; omega)
  obtain ⟨k2, hk2, he⟩ := hW.alike.2.2 _ _ g2
  refine ⟨Cond.stringRef_warmed hW h1, ⟨va_Nw.warmC hW h2.1, fun n hn => va_Nw.warmD hW (h2.2 n hn)⟩, fun w hw => ?_, fun w hw => ?_, c, k2, aS, by rw [hW.alike.findClass]; exact g1, hk2, by rw [he]; exact g3, g4, by omega⟩
  · have hw' := hw
    simp only [stW, List.mem_cons, List.not_mem_nil, or_false] at hw'
    rcases hw' with rfl | rfl
    · exact ls_kept hW g1 g2 g3 hh (h3 _ hw)
    · exact ls_kept hW g1 g2 g3 hh (h3 _ hw)
  · have hw' := hw
    simp only [srW, List.mem_cons, List.not_mem_nil, or_false] at hw'
    rcases hw' with rfl | rfl
    · exact sr_kept hW g1 g2 g3 hh (h3 _ (by simp [stW])) (h4 _ hw)
    · exact sr_kept hW g1 g2 g3 hh (h3 _ (by simp [stW])) (h4 _ hw)
set_option maxRecDepth 20000 in
theorem oa_split : ∀ w ∈ Bundle.ownAtoms "ExchangeWire" 70 aioN aioUp, w ∈ xws ∨ w ∈ stW ∨ w ∈ srW ∨ w = Cond.castable aioN aioN ∨ w ∈ dcL.map (fun n => Cond.declares (Bundle.initS n)) := by decide +kernel
theorem oa_all {b : Nat} {args : Array Value} {s : State} (hts : ∀ w ∈ xws, w.before args s = true) (hE : ExT b s) : ∀ w ∈ Bundle.ownAtoms "ExchangeWire" 70 aioN aioUp, w.before args s = true := by
  intro w hw
  rcases oa_split w hw with h | h | h | h | h
  · exact hts w h
  · have h1 := hE.2.2.1 w h
    simp only [stW, List.mem_cons, List.not_mem_nil, or_false] at h
    rcases h with rfl | rfl <;> exact h1
  · have h1 := hE.2.2.2.1 w h
    simp only [srW, List.mem_cons, List.not_mem_nil, or_false] at h
    rcases h with rfl | rfl <;> exact h1
  · rw [h]
    exact va_Nw.use rfl hE.2.1.1
  · obtain ⟨n, hn, rfl⟩ := List.mem_map.mp h
    exact va_Nw.use rfl (hE.2.1.2 n hn)
/-- a call that changes nothing, where nothing has changed -/
theorem W_pure {p : Program} {l : Launch} {e : Env} {R : Room} {s : State} {m : MethodId} {args : Array Value} {below : List Frame} {meth : Method} {c : Code} {Q : State → Prop} {X : xD} {pc : Nat} {ls : Array Slot} {st st0 : List Value} {Po : Option Value → List xS → xM → Prop} {aa : Array Value}
    (hr : va_Run p l e R s m args below meth c s.heap [] 0 0 0 0 (F0 m pc ls st0) st (xQ X false 0 Po aa) (xA X.2 0 false)) (kk : ∀ (r : Option Value) (sh' : List xS) (μ' : xM), Po r sh' μ' → W p l e R s m args below meth c s.heap [] 0 0 Q (F0 m (pc + 3) ls (r.toList ++ st))) : W p l e R s m args below meth c s.heap [] 0 0 Q (F0 m pc ls st0) := by
  intro T hT X'
  obtain ⟨v, st₀, t, T', L', h0, X1, hL', e1, e2, ⟨⟨r, sh', μ', hv, hp, -⟩, -⟩, stp⟩ := hr T hT X'
  cases hv
  have hn : L' = [] := by
    cases L' with
    | nil => rfl
    | cons q r =>
      have h := hL' q List.mem_cons_self
      have := h.1
      rcases h.2 with z | z
      · cases z
      · omega
  subst hn
  have hh : T'.heap = s.heap := by rw [X1.home]; rfl
  obtain ⟨t2, a1, b1⟩ := kk _ sh' μ' hp T' hh X1
  exact ⟨t2, stp t2 a1, b1⟩
def QT (X : xD) (μ : xM) : Array Value → State → Outcome → State → Prop := fun _ st o t => ∃ (a : Addr) (ce : Cell), o = .threw a ∧ t.heap[a]? = some ce ∧ ce.vm.isStatics = false ∧ st.vm.findClass aioN = some ce.cls ∧ va_P X.1.1 classes (xwl X shA μ) t.heap ∧ Jvm.Free.FrameEndT st o t [] 1 6
abbrev rmT : Room := { frames := 8, cells := 1, slots := 6, locals := 140 }
end
section
abbrev kJ0_coder_7d493 : xK := (RJ0, cJ0_coder_7d493, 1, (some .byte), false)
set_option maxRecDepth 20000 in
theorem mJ0_coder_7d493 : xcV yJ0_coder_7d493 kJ0_coder_7d493 0 := ⟨⟨xwc 271 rfl rfl, xw 43 (by decide +kernel), by decide +kernel, by decide +kernel, by decide +kernel⟩, xw 269 (by decide +kernel), xw 270 (by decide +kernel)⟩
abbrev kJ0_length_8abf5 : xK := (RJ0, cJ0_length_8abf5, 1, (some .int), false)
set_option maxRecDepth 20000 in
theorem mJ0_length_8abf5 : xcV yJ0_length_8abf5 kJ0_length_8abf5 0 := ⟨⟨xwc 267 rfl rfl, xw 43 (by decide +kernel), by decide +kernel, by decide +kernel, by decide +kernel⟩, xw 265 (by decide +kernel), xw 266 (by decide +kernel)⟩
abbrev kJ0_isLatin1_aae02 : xK := (RJ0, cJ0_isLatin1_aae02, 1, (some .boolean), false)
set_option maxRecDepth 20000 in
theorem mJ0_isLatin1_aae02 : xcV yJ0_isLatin1_aae02 kJ0_isLatin1_aae02 0 := ⟨⟨xwc 281 rfl rfl, xw 43 (by decide +kernel), by decide +kernel, by decide +kernel, by decide +kernel⟩, xw 279 (by decide +kernel), xw 280 (by decide +kernel)⟩
abbrev kJ3_checkIndex_8e157 : xK := (RJ3, cJ3_checkIndex_8e157, 3, (some .int), false)
set_option maxRecDepth 20000 in
theorem mJ3_checkIndex_8e157 : xcS yJ3_checkIndex_8e157 kJ3_checkIndex_8e157 3 := ⟨⟨xwc 292 rfl rfl, xw 45 (by decide +kernel), by decide +kernel, by decide +kernel, by decide +kernel⟩, xw 291 (by decide +kernel)⟩
abbrev kJ0_checkIndex_df160 : xK := (RJ0, cJ0_checkIndex_df160, 2, none, false)
set_option maxRecDepth 20000 in
theorem mJ0_checkIndex_df160 : xcS yJ0_checkIndex_df160 kJ0_checkIndex_df160 2 := ⟨⟨xwc 287 rfl rfl, xw 43 (by decide +kernel), by decide +kernel, by decide +kernel, by decide +kernel⟩, xw 286 (by decide +kernel)⟩
abbrev kJ1_charAt_3b067 : xK := (RJ1, cJ1_charAt_3b067, 2, (some .char), false)
set_option maxRecDepth 20000 in
theorem mJ1_charAt_3b067 : xcS yJ1_charAt_3b067 kJ1_charAt_3b067 2 := ⟨⟨xwc 284 rfl rfl, xw 44 (by decide +kernel), by decide +kernel, by decide +kernel, by decide +kernel⟩, xw 283 (by decide +kernel)⟩
abbrev kJ0_charAt_5068e : xK := (RJ0, cJ0_charAt_5068e, 2, (some .char), false)
set_option maxRecDepth 20000 in
theorem mJ0_charAt_5068e : xcV yJ0_charAt_5068e kJ0_charAt_5068e 1 := ⟨⟨xwc 277 rfl rfl, xw 43 (by decide +kernel), by decide +kernel, by decide +kernel, by decide +kernel⟩, xw 275 (by decide +kernel), xw 276 (by decide +kernel)⟩
theorem lf_J0_38 : Jvm.Cond.fieldLink "java/lang/String" (38 : Nat) "java/lang/String" "COMPACT_STRINGS" "Z" ∈ xws := xw 272 (by decide +kernel)
theorem lf_J0_15 : Jvm.Cond.fieldLink "java/lang/String" (15 : Nat) "java/lang/String" "coder" "B" ∈ xws := xw 803 (by decide +kernel)
theorem lf_J0_9 : Jvm.Cond.fieldLink "java/lang/String" (9 : Nat) "java/lang/String" "value" "[B" ∈ xws := xw 802 (by decide +kernel)
theorem lm_J0_335 : Jvm.Cond.methodLink "java/lang/String" (335 : Nat) ({ cls := "java/lang/String", name := "coder", desc := "()B" } : Jvm.MethodName) ∈ xws := xw 268 (by decide +kernel)
theorem lm_J0_492 : Jvm.Cond.methodLink "java/lang/String" (492 : Nat) ({ cls := "java/lang/String", name := "isLatin1", desc := "()Z" } : Jvm.MethodName) ∈ xws := xw 278 (by decide +kernel)
theorem lm_J0_495 : Jvm.Cond.methodLink "java/lang/String" (495 : Nat) ({ cls := "java/lang/StringLatin1", name := "charAt", desc := "([BI)C" } : Jvm.MethodName) ∈ xws := xw 282 (by decide +kernel)
theorem lf_J0_1053 : Jvm.Cond.fieldLink "java/lang/String" (1053 : Nat) "jdk/internal/util/Preconditions" "SIOOBE_FORMATTER" "Ljava/util/function/BiFunction;" ∈ xws := xw 288 (by decide +kernel)
theorem lm_J0_1059 : Jvm.Cond.methodLink "java/lang/String" (1059 : Nat) ({ cls := "jdk/internal/util/Preconditions", name := "checkIndex", desc := "(IILjava/util/function/BiFunction;)I" } : Jvm.MethodName) ∈ xws := xw 290 (by decide +kernel)
theorem lm_J1_9 : Jvm.Cond.methodLink "java/lang/StringLatin1" (9 : Nat) ({ cls := "java/lang/String", name := "checkIndex", desc := "(II)V" } : Jvm.MethodName) ∈ xws := xw 285 (by decide +kernel)
/-! Strings: the five constants of fieldsOf lie in the old heap; what is given of them stays. -/
def oA (X : xD) : Nat → Prop := fun q => X.2 ≤ q
theorem oS {X : xD} {n0 : Nat} {fr : Bool} {H0 H : Heap} {locs : List Loc} (h : va_S (xA X.2 n0 fr) H0 H locs) : va_S (oA X) H0 H locs := ⟨h.1, fun q h1 h2 => h.2.1 q h1 (fun z => h2 z.1), fun l hl => (h.2.2 l hl).1⟩
abbrev sBF : String := "Ljava/util/function/BiFunction;"
abbrev sPC : String := "jdk/internal/util/Preconditions"
abbrev sST : String := "java/lang/String"
abbrev sME : String := "ExchangeWire$Message"
abbrev sLen : List Nat := [0, 2, 1, 1, 2]
abbrev sByt : List (List Int32) := [[], [97, 98], [98], [97], [97, 99]]
abbrev sTxt : List String := ["", "ab", "b", "a", "ac"]
def ExS (X : xD) (sk sv : Nat → Nat) (fm : Nat) (U : State) : Prop := vk_S 5 sLen sByt sk sv (oA X) U U.heap ∧ (∀ i : Nat, i < 5 → vk_R sME (59 + 2 * i) (sTxt.getD i "") (sk i) U) ∧ va_Z sST "COMPACT_STRINGS" "Z" (.int 1) (oA X) U U.heap ∧ va_Z sPC "SIOOBE_FORMATTER" sBF (.ref fm) (oA X) U U.heap
theorem ExS_st {X : xD} {fr : Bool} {n fm : Nat} {sk sv : Nat → Nat} : xEs X fr n (ExS X sk sv fm) := fun s U hW hz hk h => by
  have hq : ∀ a : Nat, a < s.heap.size → ¬ oA X a → U.heap[a]? = s.heap[a]? := fun a h1 h2 => hk a h1 (fun z => h2 z.1)
  exact ⟨(h.1.moved hW.alike).kept hq, fun i hi => (h.2.1 i hi).warm hW, (h.2.2.1.moved hW.alike).kept hq, (h.2.2.2.moved hW.alike).kept hq⟩
section SOLD
variable {l : Launch} {R : Room} {X : xD} {Ex : State → Prop} {fr : Bool} {K : xK} {n0 : Nat} {Z : List Frame → Array Value → State → State → Prop} {pc : Nat} {L : List (Option Value)} {st : List Value} {sh : List xS} {μ : xM} {cs ss : Nat}
theorem sx_ldcS {i q : Nat} {tx : String} (hd : decode K.2.1 pc = .ok (.ldc i, 2)) (hR : ∀ s, Ex s → vk_R K.1 i tx q s)
    (kk : sx l R X Ex fr K n0 Z (pc + 2) L (.ref q :: st) sh μ cs ss) : sx l R X Ex fr K n0 Z pc L st sh μ cs ss :=
  fun p e s m args below meth c H locs ls hC hH hL => va_ldcS hC.1 hC.2.1 hC.2.2.2.2.2.1 (hR s hC.2.2.2.2.2.2.2.2.2.1) hd (kk p e s m args below meth c H locs ls hC hH hL)
theorem sx_ogetf {o n d : String} {i q : Nat} {v : Value} (hd : decode K.2.1 pc = .ok (.getfield i, 3)) (hF : ∀ s, Ex s → va_OF o n d v q (oA X) s s.heap) (hl : Cond.fieldLink K.1 i o n d ∈ xws)
    (kk : sx l R X Ex fr K n0 Z (pc + 3) L (v :: st) sh μ cs ss) : sx l R X Ex fr K n0 Z pc L (.ref q :: st) sh μ cs ss :=
  fun p e s m args below meth c H locs ls hC hH hL => vk_getf hC.1 hC.2.1 (hF s hC.2.2.2.2.2.2.2.2.2.1) (oS hH.2.1) hC.2.2.2.2.2.1 (hC.2.2.2.2.2.2.1 _ hl) (fun _ h => h) hd (kk p e s m args below meth c H locs ls hC hH hL)
theorem sx_gets {o n d : String} {i : Nat} {v : Value} (hd : decode K.2.1 pc = .ok (.getstatic i, 3)) (hF : ∀ s, Ex s → va_Z o n d v (oA X) s s.heap) (hl : Cond.fieldLink K.1 i o n d ∈ xws)
    (kk : sx l R X Ex fr K n0 Z (pc + 3) L (v :: st) sh μ cs ss) : sx l R X Ex fr K n0 Z pc L st sh μ cs ss :=
  fun p e s m args below meth c H locs ls hC hH hL => va_gets hC.1 hC.2.1 (hF s hC.2.2.2.2.2.2.2.2.2.1) (oS hH.2.1) hC.2.2.2.2.2.1 (hC.2.2.2.2.2.2.1 _ hl) (fun _ h => h) hd (kk p e s m args below meth c H locs ls hC hH hL)
theorem sx_oalen {ty : FieldType} {t N : Nat} {f : Nat → Value} {v : Int32} (hd : decode K.2.1 pc = .ok (.arraylength, 1)) (hT : ∀ s, Ex s → va_T ty t N f (oA X) s s.heap) (hv : Int32.ofNat N = v)
    (kk : sx l R X Ex fr K n0 Z (pc + 1) L (.int v :: st) sh μ cs ss) : sx l R X Ex fr K n0 Z pc L (.ref t :: st) sh μ cs ss :=
  fun p e s m args below meth c H locs ls hC hH hL => va_tlen hC.1 hC.2.1 (hT s hC.2.2.2.2.2.2.2.2.2.1) (oS hH.2.1) hv hd (kk p e s m args below meth c H locs ls hC hH hL)
theorem sx_obald {t N : Nat} {f : Nat → Value} {i : Int32} {v : Value} (hd : decode K.2.1 pc = .ok (.baload, 1)) (hT : ∀ s, Ex s → va_T .byte t N f (oA X) s s.heap) (hin : vp_in i N) (hv : f i.toNatClampNeg = v)
    (kk : sx l R X Ex fr K n0 Z (pc + 1) L (v :: st) sh μ cs ss) : sx l R X Ex fr K n0 Z pc L (.int i :: .ref t :: st) sh μ cs ss :=
  fun p e s m args below meth c H locs ls hC hH hL => va_tb hC.1 hC.2.1 (hT s hC.2.2.2.2.2.2.2.2.2.1) (oS hH.2.1) hin hv hd (kk p e s m args below meth c H locs ls hC hH hL)
theorem sx_i2c {x v : Int32} (hd : decode K.2.1 pc = .ok (.i2c, 1)) (hv : (x.toUInt32 % 65536).toInt32 = v)
    (kk : sx l R X Ex fr K n0 Z (pc + 1) L (.int v :: st) sh μ cs ss) : sx l R X Ex fr K n0 Z pc L (.int x :: st) sh μ cs ss :=
  fun p e s m args below meth c H locs ls hC hH hL => lv_i2c hC.1 hC.2.1 hd hv (kk p e s m args below meth c H locs ls hC hH hL)
theorem sx_ifnull {x : Nat} {off : Int} (hd : decode K.2.1 pc = .ok (.ifnull off, 3)) (kk : sx l R X Ex fr K n0 Z (pc + 3) L st sh μ cs ss) : sx l R X Ex fr K n0 Z pc L (.ref x :: st) sh μ cs ss :=
  fun p e s m args below meth c H locs ls hC hH hL => lv_ifnull hC.1 hC.2.1 hd (kk p e s m args below meth c H locs ls hC hH hL)
theorem sx_ifnullN {off : Int} {tgt : Nat} (hd : decode K.2.1 pc = .ok (.ifnull off, 3)) (ht : (pc : Int) + off = (tgt : Int)) (kk : sx l R X Ex fr K n0 Z tgt L st sh μ cs ss) : sx l R X Ex fr K n0 Z pc L (.null :: st) sh μ cs ss :=
  fun p e s m args below meth c H locs ls hC hH hL => lv_ifnullN hC.1 hC.2.1 hd ht (kk p e s m args below meth c H locs ls hC hH hL)
theorem sx_ifnonnull {x : Nat} {off : Int} {tgt : Nat} (hd : decode K.2.1 pc = .ok (.ifnonnull off, 3)) (ht : (pc : Int) + off = (tgt : Int)) (kk : sx l R X Ex fr K n0 Z tgt L st sh μ cs ss) : sx l R X Ex fr K n0 Z pc L (.ref x :: st) sh μ cs ss :=
  fun p e s m args below meth c H locs ls hC hH hL => lv_ifnonnull hC.1 hC.2.1 hd ht (kk p e s m args below meth c H locs ls hC hH hL)
theorem sx_ifnonnullN {off : Int} (hd : decode K.2.1 pc = .ok (.ifnonnull off, 3)) (kk : sx l R X Ex fr K n0 Z (pc + 3) L st sh μ cs ss) : sx l R X Ex fr K n0 Z pc L (.null :: st) sh μ cs ss :=
  fun p e s m args below meth c H locs ls hC hH hL => lv_ifnonnullN hC.1 hC.2.1 hd (kk p e s m args below meth c H locs ls hC hH hL)
theorem sx_astore_nN {k : Fin 4} {i : Nat} {L' : List (Option Value)} (hd : decode K.2.1 pc = .ok (.astore_n k, 1)) (hi : (k : Nat) = i) (hn : i < K.2.2.1) (hq : L.set i (some .null) = L')
    (kk : sx l R X Ex fr K n0 Z (pc + 1) L' (st) sh μ cs ss) : sx l R X Ex fr K n0 Z pc L (.null :: st) sh μ cs ss :=
  fun p e s m args below meth c H locs ls hC hH hL => lv_astore_nN hC.1 hC.2.1 hd hi hL.1 hn rfl (fun ls' hl' => kk p e s m args below meth c H locs ls' hC hH (hq ▸ xL_set hL rfl hl'))
theorem sx_aload_nN {k : Fin 4} {i : Nat} (hd : decode K.2.1 pc = .ok (.aload_n k, 1)) (hi : (k : Nat) = i) (hx : L[i]? = some (some .null))
    (kk : sx l R X Ex fr K n0 Z (pc + 1) L (.null :: st) sh μ cs ss) : sx l R X Ex fr K n0 Z pc L (st) sh μ cs ss :=
  fun p e s m args below meth c H locs ls hC hH hL => lv_aload_nN hC.1 hC.2.1 hd hi (xL_at hL hx) (kk p e s m args below meth c H locs ls hC hH hL)
end SOLD
section SOLDC
variable {l : Launch} {R : Room} {X : xD} {Ex : State → Prop} {fr : Bool} {K : xK} {n0 : Nat} {Z : List Frame → Array Value → State → State → Prop} {pc : Nat} {L : List (Option Value)} {st st0 : List Value} {sh : List xS} {μ : xM} {cs ss : Nat} {y : MethodName} {K' : xK} {rm : Room} {As : List Value} {Po : Option Value → List xS → xM → Prop}
/-- a call on an object of the old heap -/
theorem sx_callO {i q : Nat} (hd : decode K.2.1 pc = .ok (.invokevirtual i, 3)) (hct : Ct X Ex fr y K' rm (.ref q :: As) sh μ Po) (hw : xcV y K' As.length) (hl : Cond.methodLink K.1 i y ∈ xws) (hst : st0 = As.reverse ++ .ref q :: st) (hO : ∀ s, Ex s → va_O y.cls q (oA X) s s.heap) (hm : rm.frames + 1 ≤ R.frames ∧ 8 + (K'.2.2.1 + 11) + rm.locals ≤ R.locals) (hf : cs + rm.cells ≤ R.cells ∧ ss + rm.slots ≤ R.slots) (h8 : (st.map fun v => v.category).sum ≤ 8) (hE : xEs X fr n0 Ex)
    (kk : ∀ (r : Option Value) (sh' : List xS) (μ' : xM), Po r sh' μ' → sx l R X Ex fr K n0 Z (pc + 3) L (r.toList ++ st) sh' μ' (cs + rm.cells) (ss + rm.slots)) : sx l R X Ex fr K n0 Z pc L st0 sh μ cs ss := by
  intro p e s m args below meth c H locs ls hC hH hL
  subst hst
  have hts := hC.2.2.2.2.2.2.1
  have hrecv : ∃ cell : Cell, H[q]? = some cell ∧ cell.vm.isStatics = false ∧ s.vm.findClass y.cls = some cell.cls := by
    obtain ⟨cell, h1, h2, h3, -⟩ := (hO s hC.2.2.2.2.2.2.2.2.2.1).kept (oS hH.2.1).2.1
    exact ⟨cell, h1, h2, h3⟩
  refine xcall_on hC hH hL (va_runV (As := As) (rest := st) (C := y.cls) ⟨hC.1, hC.2.1, hC.2.2.1, hC.2.2.2.2.2.1, hts⟩ (hct l) ⟨callB_of As.length hts (xgood hw.1) rfl rfl rfl (hts _ hw.1.2.1) (hts _ hl) hw.1.2.2 hm, hts _ hw.2.1, hts _ hw.2.2⟩ ⟨xpre_blind (xEs_sub hE hH.2.2.2.1), hrecv, fun U hU hW => ⟨rfl, xpre_at hC hH hE hU hW⟩⟩ rfl rfl hL.1.1 rfl (xroom h8) hd hf) kk
theorem sx_aret {rt : FieldType} {v : Value} {mc ms : Nat} (hd : decode K.2.1 pc = .ok (.areturn, 1)) (hr : K.2.2.2.1 = some rt) (hrt : (∃ n, rt = .object n) ∨ ∃ t, rt = .array t) (hv : v = .null ∨ ∃ a, v = .ref a) (h1 : cs ≤ mc) (h2 : ss ≤ ms) (hp : Po (some v) sh μ) : sx l R X Ex fr K n0 (xZ X fr n0 Po mc ms) pc L [v] sh μ cs ss := by
  intro p e s m args below meth c H locs ls hC hH hL
  have hlocks := hC.2.2.2.2.1
  refine W.widen h1 h2 (W.aret hC.1 hC.2.1 (hC.2.2.2.1.trans hr) hrt hv (fun t ht hW => ⟨⟨_, sh, μ, rfl, hp, by rw [ht]; exact hH.1, hH.2.2.1, hH.2.2.2.1, fun h => by rw [ht]; exact hH.2.2.2.2 h⟩, hH.2.1.F ht⟩) hH.2.1.2.2 hd)
end SOLDC
set_option maxHeartbeats 1000000 in
set_option maxRecDepth 20000 in
theorem j_coder (X : xD) (Ex : State → Prop) (fr : Bool) (sh : List xS) (μ : xM) (hE : xEs X fr sh.length Ex) {sk sv : Nat → Nat} {fm : Nat} (hS : ∀ s, Ex s → ExS X sk sv fm s) (i : Nat) (hi : i < 5) : Ct X Ex fr yJ0_coder_7d493 kJ0_coder_7d493 (rmN 0) [.ref (sk i)] sh μ (fun r sh' μ' => sh = sh' ∧ μ = μ' ∧ r = some (.int 0)) := by
  refine Ct.of (L0 := [some (.ref (sk i))]) (by decide) rfl (fun h => by cases h) (by simp [Value.category]) (Nat.le_of_ble_eq_true rfl) rfl (fun l => ?_)
  refine sx_gets (pc := 0) dJ0_coder_7d493_0 (fun s h => (hS s h).2.2.1) lf_J0_38 ?_
  refine sx_if_eq (pc := 3) (tgt := 13) dJ0_coder_7d493_3 (by decide) (fun h => absurd h (by decide)) (fun _ => ?_)
  refine sx_aload_n (pc := 6) dJ0_coder_7d493_6 rfl rfl ?_
  refine sx_ogetf (pc := 7) dJ0_coder_7d493_7 (fun s h => ((hS s h).1.1 i hi).2.1) lf_J0_15 ?_
  refine sx_goto (pc := 10) (tgt := 14) dJ0_coder_7d493_10 (by decide) ?_
  exact sx_iret (pc := 14) dJ0_coder_7d493_14 rfl rfl (Nat.zero_le _) (Nat.zero_le _) ⟨rfl, rfl, rfl⟩
set_option maxHeartbeats 1000000 in
set_option maxRecDepth 20000 in
theorem j_lat (X : xD) (Ex : State → Prop) (fr : Bool) (sh : List xS) (μ : xM) (hE : xEs X fr sh.length Ex) {sk sv : Nat → Nat} {fm : Nat} (hS : ∀ s, Ex s → ExS X sk sv fm s) (i : Nat) (hi : i < 5) : Ct X Ex fr yJ0_isLatin1_aae02 kJ0_isLatin1_aae02 (rmN 0) [.ref (sk i)] sh μ (fun r sh' μ' => sh = sh' ∧ μ = μ' ∧ r = some (.int 1)) := by
  refine Ct.of (L0 := [some (.ref (sk i))]) (by decide) rfl (fun h => by cases h) (by simp [Value.category]) (Nat.le_of_ble_eq_true rfl) rfl (fun l => ?_)
  refine sx_gets (pc := 0) dJ0_isLatin1_aae02_0 (fun s h => (hS s h).2.2.1) lf_J0_38 ?_
  refine sx_if_eq (pc := 3) (tgt := 17) dJ0_isLatin1_aae02_3 (by decide) (fun h => absurd h (by decide)) (fun _ => ?_)
  refine sx_aload_n (pc := 6) dJ0_isLatin1_aae02_6 rfl rfl ?_
  refine sx_ogetf (pc := 7) dJ0_isLatin1_aae02_7 (fun s h => ((hS s h).1.1 i hi).2.1) lf_J0_15 ?_
  refine sx_if_ne (pc := 10) (tgt := 17) dJ0_isLatin1_aae02_10 (by decide) (fun h => absurd rfl h) (fun _ => ?_)
  refine sx_iconst (pc := 13) (v := 1) dJ0_isLatin1_aae02_13 (by decide) ?_
  refine sx_goto (pc := 14) (tgt := 18) dJ0_isLatin1_aae02_14 (by decide) ?_
  exact sx_iret (pc := 18) dJ0_isLatin1_aae02_18 rfl rfl (Nat.zero_le _) (Nat.zero_le _) ⟨rfl, rfl, rfl⟩
set_option maxHeartbeats 1000000 in
set_option maxRecDepth 20000 in
theorem j_length (X : xD) (Ex : State → Prop) (fr : Bool) (sh : List xS) (μ : xM) (hE : xEs X fr sh.length Ex) {sk sv : Nat → Nat} {fm : Nat} (hS : ∀ s, Ex s → ExS X sk sv fm s) (i : Nat) (hi : i < 5) : Ct X Ex fr yJ0_length_8abf5 kJ0_length_8abf5 (rmN 1) [.ref (sk i)] sh μ (fun r sh' μ' => sh = sh' ∧ μ = μ' ∧ r = some (.int (nI (sLen.getD i 0)))) := by
  refine Ct.of (L0 := [some (.ref (sk i))]) (by decide) rfl (fun h => by cases h) (by simp [Value.category]) (Nat.le_of_ble_eq_true rfl) rfl (fun l => ?_)
  refine sx_aload_n (pc := 0) dJ0_length_8abf5_0 rfl rfl ?_
  refine sx_ogetf (pc := 1) dJ0_length_8abf5_1 (fun s h => ((hS s h).1.1 i hi).2.2.1) lf_J0_9 ?_
  refine sx_oalen (pc := 4) (v := nI (sLen.getD i 0)) dJ0_length_8abf5_4 (fun s h => ((hS s h).1.1 i hi).2.2.2) rfl ?_
  refine sx_aload_n (pc := 5) dJ0_length_8abf5_5 rfl rfl ?_
  refine sx_callO (pc := 6) (As := []) dJ0_length_8abf5_6 (j_coder X Ex fr sh μ hE hS i hi) mJ0_coder_7d493 lm_J0_335 rfl (fun s h => ((hS s h).1.1 i hi).1) ⟨(Nat.le_of_ble_eq_true rfl), (Nat.le_of_ble_eq_true rfl)⟩ ⟨(Nat.le_of_ble_eq_true rfl), (Nat.le_of_ble_eq_true rfl)⟩ (Nat.le_of_ble_eq_true rfl) hE (fun r_6 sh1 μ1 h_6 => ?_)
  obtain ⟨rfl, rfl, rfl⟩ := h_6
  refine sx_ishr (pc := 9) dJ0_length_8abf5_9 ?_
  exact sx_iret (pc := 10) dJ0_length_8abf5_10 rfl rfl (Nat.zero_le _) (Nat.zero_le _) ⟨rfl, rfl, by rw [show (nI (sLen.getD i 0)) >>> ((0 : Int32) &&& 31) = nI (sLen.getD i 0) by rcases (show i = 0 ∨ i = 1 ∨ i = 2 ∨ i = 3 ∨ i = 4 by omega) with rfl | rfl | rfl | rfl | rfl <;> decide]⟩
set_option maxHeartbeats 1000000 in
set_option maxRecDepth 20000 in
theorem j_check3 (X : xD) (Ex : State → Prop) (fr : Bool) (sh : List xS) (μ : xM) (a : Nat) (x n : Int32) (h0 : 0 ≤ x) (h1 : x < n) : Ct X Ex fr yJ3_checkIndex_8e157 kJ3_checkIndex_8e157 (rmN 0) [.int x, .int n, .ref a] sh μ (fun r sh' μ' => sh = sh' ∧ μ = μ' ∧ r = some (.int x)) := by
  refine Ct.of (L0 := [some (.int x), some (.int n), some (.ref a)]) (by decide) rfl (fun h => by cases h) (by simp [Value.category]) (Nat.le_of_ble_eq_true rfl) rfl (fun l => ?_)
  refine sx_iload_n (pc := 0) dJ3_checkIndex_8e157_0 rfl rfl ?_
  refine sx_if_lt (pc := 1) (tgt := 9) dJ3_checkIndex_8e157_1 (by decide) (fun h => absurd h (Int32.not_lt.mpr h0)) (fun _ => ?_)
  refine sx_iload_n (pc := 4) dJ3_checkIndex_8e157_4 rfl rfl ?_
  refine sx_iload_n (pc := 5) dJ3_checkIndex_8e157_5 rfl rfl ?_
  refine sx_icmp_lt (pc := 6) (tgt := 16) dJ3_checkIndex_8e157_6 (by decide) (fun _ => ?_) (fun h => absurd h1 h)
  refine sx_iload_n (pc := 16) dJ3_checkIndex_8e157_16 rfl rfl ?_
  exact sx_iret (pc := 17) dJ3_checkIndex_8e157_17 rfl rfl (Nat.zero_le _) (Nat.zero_le _) ⟨rfl, rfl, rfl⟩
set_option maxHeartbeats 1000000 in
set_option maxRecDepth 20000 in
theorem j_check (X : xD) (Ex : State → Prop) (fr : Bool) (sh : List xS) (μ : xM) (hE : xEs X fr sh.length Ex) {sk sv : Nat → Nat} {fm : Nat} (hS : ∀ s, Ex s → ExS X sk sv fm s) (x n : Int32) (h0 : 0 ≤ x) (h1 : x < n) : Ct X Ex fr yJ0_checkIndex_df160 kJ0_checkIndex_df160 (rmN 1) [.int x, .int n] sh μ (fun r sh' μ' => sh = sh' ∧ μ = μ' ∧ r = none) := by
  refine Ct.of (L0 := [some (.int x), some (.int n)]) (by decide) rfl (fun h => by cases h) (by simp [Value.category]) (Nat.le_of_ble_eq_true rfl) rfl (fun l => ?_)
  refine sx_iload_n (pc := 0) dJ0_checkIndex_df160_0 rfl rfl ?_
  refine sx_iload_n (pc := 1) dJ0_checkIndex_df160_1 rfl rfl ?_
  refine sx_gets (pc := 2) dJ0_checkIndex_df160_2 (fun s h => (hS s h).2.2.2) lf_J0_1053 ?_
  refine sx_callS (pc := 5) (As := [.int x, .int n, .ref fm]) dJ0_checkIndex_df160_5 (j_check3 X Ex fr sh μ fm x n h0 h1) mJ3_checkIndex_8e157 lm_J0_1059 rfl ⟨(Nat.le_of_ble_eq_true rfl), (Nat.le_of_ble_eq_true rfl)⟩ ⟨(Nat.le_of_ble_eq_true rfl), (Nat.le_of_ble_eq_true rfl)⟩ (Nat.le_of_ble_eq_true rfl) hE (fun r_5 sh1 μ1 h_5 => ?_)
  obtain ⟨rfl, rfl, rfl⟩ := h_5
  refine sx_pop (pc := 8) dJ0_checkIndex_df160_8 rfl ?_
  exact sx_vret (pc := 9) dJ0_checkIndex_df160_9 rfl (Nat.zero_le _) (Nat.zero_le _) ⟨rfl, rfl, rfl⟩
set_option maxHeartbeats 1000000 in
set_option maxRecDepth 20000 in
theorem j_char1 (X : xD) (Ex : State → Prop) (fr : Bool) (sh : List xS) (μ : xM) (hE : xEs X fr sh.length Ex) {sk sv : Nat → Nat} {fm : Nat} (hS : ∀ s, Ex s → ExS X sk sv fm s) (i : Nat) (hi : i < 5) (j : Nat) (hj : j < sLen.getD i 0) : Ct X Ex fr yJ1_charAt_3b067 kJ1_charAt_3b067 (rmN 2) [.ref (sv i), .int (nI j)] sh μ (fun r sh' μ' => sh = sh' ∧ μ = μ' ∧ r = some (.int ((sByt.getD i []).getD j 0))) := by
  refine Ct.of (L0 := [some (.ref (sv i)), some (.int (nI j))]) (by decide) rfl (fun h => by cases h) (by simp [Value.category]) (Nat.le_of_ble_eq_true rfl) rfl (fun l => ?_)
  have hlt : sLen.getD i 0 < 3 := by rcases (show i = 0 ∨ i = 1 ∨ i = 2 ∨ i = 3 ∨ i = 4 by omega) with rfl | rfl | rfl | rfl | rfl <;> decide
  refine sx_iload_n (pc := 0) dJ1_charAt_3b067_0 rfl rfl ?_
  refine sx_aload_n (pc := 1) dJ1_charAt_3b067_1 rfl rfl ?_
  refine sx_oalen (pc := 2) (v := nI (sLen.getD i 0)) dJ1_charAt_3b067_2 (fun s h => ((hS s h).1.1 i hi).2.2.2) rfl ?_
  refine sx_callS (pc := 3) (As := [.int (nI j), .int (nI (sLen.getD i 0))]) dJ1_charAt_3b067_3 (j_check X Ex fr sh μ hE hS _ _ (Int32.not_lt.mp (nI_pos (n := j) (by omega))) (nI_lt hj (by omega))) mJ0_checkIndex_df160 lm_J1_9 rfl ⟨(Nat.le_of_ble_eq_true rfl), (Nat.le_of_ble_eq_true rfl)⟩ ⟨(Nat.le_of_ble_eq_true rfl), (Nat.le_of_ble_eq_true rfl)⟩ (Nat.le_of_ble_eq_true rfl) hE (fun r_3 sh1 μ1 h_3 => ?_)
  obtain ⟨rfl, rfl, rfl⟩ := h_3
  refine sx_aload_n (pc := 6) dJ1_charAt_3b067_6 rfl rfl ?_
  refine sx_iload_n (pc := 7) dJ1_charAt_3b067_7 rfl rfl ?_
  refine sx_obald (pc := 8) dJ1_charAt_3b067_8 (fun s h => ((hS s h).1.1 i hi).2.2.2) (vp_in_nI hj (by omega)) rfl ?_
  rw [show (nI j).toNatClampNeg = j from nI_clamp (by omega)]
  refine sx_sipush (pc := 9) (v := 255) dJ1_charAt_3b067_9 (by decide) ?_
  refine sx_iand (pc := 12) dJ1_charAt_3b067_12 ?_
  refine sx_i2c (pc := 13) (v := (sByt.getD i []).getD j 0) dJ1_charAt_3b067_13 ?_ ?_
  · rcases (show (i = 1 ∧ j = 0) ∨ (i = 1 ∧ j = 1) ∨ (i = 2 ∧ j = 0) ∨ (i = 3 ∧ j = 0) ∨ (i = 4 ∧ j = 0) ∨ (i = 4 ∧ j = 1) by rcases (show i = 0 ∨ i = 1 ∨ i = 2 ∨ i = 3 ∨ i = 4 by omega) with rfl | rfl | rfl | rfl | rfl <;> simp at hj <;> omega) with ⟨rfl, rfl⟩ | ⟨rfl, rfl⟩ | ⟨rfl, rfl⟩ | ⟨rfl, rfl⟩ | ⟨rfl, rfl⟩ | ⟨rfl, rfl⟩ <;> decide
  · refine sx_iret (pc := 14) dJ1_charAt_3b067_14 rfl ?_ (Nat.zero_le _) (Nat.zero_le _) ⟨rfl, rfl, rfl⟩
    rcases (show (i = 1 ∧ j = 0) ∨ (i = 1 ∧ j = 1) ∨ (i = 2 ∧ j = 0) ∨ (i = 3 ∧ j = 0) ∨ (i = 4 ∧ j = 0) ∨ (i = 4 ∧ j = 1) by rcases (show i = 0 ∨ i = 1 ∨ i = 2 ∨ i = 3 ∨ i = 4 by omega) with rfl | rfl | rfl | rfl | rfl <;> simp at hj <;> omega) with ⟨rfl, rfl⟩ | ⟨rfl, rfl⟩ | ⟨rfl, rfl⟩ | ⟨rfl, rfl⟩ | ⟨rfl, rfl⟩ | ⟨rfl, rfl⟩ <;> rfl
set_option maxHeartbeats 1000000 in
set_option maxRecDepth 20000 in
theorem j_charAt (X : xD) (Ex : State → Prop) (fr : Bool) (sh : List xS) (μ : xM) (hE : xEs X fr sh.length Ex) {sk sv : Nat → Nat} {fm : Nat} (hS : ∀ s, Ex s → ExS X sk sv fm s) (i : Nat) (hi : i < 5) (j : Nat) (hj : j < sLen.getD i 0) : Ct X Ex fr yJ0_charAt_5068e kJ0_charAt_5068e (rmN 3) [.ref (sk i), .int (nI j)] sh μ (fun r sh' μ' => sh = sh' ∧ μ = μ' ∧ r = some (.int ((sByt.getD i []).getD j 0))) := by
  refine Ct.of (L0 := [some (.ref (sk i)), some (.int (nI j))]) (by decide) rfl (fun h => by cases h) (by simp [Value.category]) (Nat.le_of_ble_eq_true rfl) rfl (fun l => ?_)
  refine sx_aload_n (pc := 0) dJ0_charAt_5068e_0 rfl rfl ?_
  refine sx_callO (pc := 1) (As := []) dJ0_charAt_5068e_1 (j_lat X Ex fr sh μ hE hS i hi) mJ0_isLatin1_aae02 lm_J0_492 rfl (fun s h => ((hS s h).1.1 i hi).1) ⟨(Nat.le_of_ble_eq_true rfl), (Nat.le_of_ble_eq_true rfl)⟩ ⟨(Nat.le_of_ble_eq_true rfl), (Nat.le_of_ble_eq_true rfl)⟩ (Nat.le_of_ble_eq_true rfl) hE (fun r_1 sh1 μ1 h_1 => ?_)
  obtain ⟨rfl, rfl, rfl⟩ := h_1
  refine sx_if_eq (pc := 4) (tgt := 16) dJ0_charAt_5068e_4 (by decide) (fun h => absurd h (by decide)) (fun _ => ?_)
  refine sx_aload_n (pc := 7) dJ0_charAt_5068e_7 rfl rfl ?_
  refine sx_ogetf (pc := 8) dJ0_charAt_5068e_8 (fun s h => ((hS s h).1.1 i hi).2.2.1) lf_J0_9 ?_
  refine sx_iload_n (pc := 11) dJ0_charAt_5068e_11 rfl rfl ?_
  refine sx_callS (pc := 12) (As := [.ref (sv i), .int (nI j)]) dJ0_charAt_5068e_12 (j_char1 X Ex fr sh μ hE hS i hi j hj) mJ1_charAt_3b067 lm_J0_495 rfl ⟨(Nat.le_of_ble_eq_true rfl), (Nat.le_of_ble_eq_true rfl)⟩ ⟨(Nat.le_of_ble_eq_true rfl), (Nat.le_of_ble_eq_true rfl)⟩ (Nat.le_of_ble_eq_true rfl) hE (fun r_12 sh1 μ1 h_12 => ?_)
  obtain ⟨rfl, rfl, rfl⟩ := h_12
  refine sx_iret (pc := 15) dJ0_charAt_5068e_15 rfl ?_ (Nat.zero_le _) (Nat.zero_le _) ⟨rfl, rfl, rfl⟩
  rcases (show (i = 1 ∧ j = 0) ∨ (i = 1 ∧ j = 1) ∨ (i = 2 ∧ j = 0) ∨ (i = 3 ∧ j = 0) ∨ (i = 4 ∧ j = 0) ∨ (i = 4 ∧ j = 1) by rcases (show i = 0 ∨ i = 1 ∨ i = 2 ∨ i = 3 ∨ i = 4 by omega) with rfl | rfl | rfl | rfl | rfl <;> simp at hj <;> omega) with ⟨rfl, rfl⟩ | ⟨rfl, rfl⟩ | ⟨rfl, rfl⟩ | ⟨rfl, rfl⟩ | ⟨rfl, rfl⟩ | ⟨rfl, rfl⟩ <;> rfl
end
section
/-! what stays, and what is kept in bounds, over every road of the class -/
def RK (k : Nat) : Prop := ∃ d, d < 6 ∧ (k = 2 + 9 * d + 2 ∨ k = 2 + 9 * d + 4)
def LB (μ : xM) : Prop := (∀ k, RK k → 0 ≤ μ k 1 ∧ μ k 1 ≤ 13) ∧ ∀ i, i < 30 → 0 ≤ μ 91 i ∧ μ 91 i ≤ 30
def Ch (S : Nat → Prop) (μ μ' : xM) : Prop := (∀ a, ¬ S a → μ' a = μ a) ∧ (LB μ → LB μ')
theorem Ch.rf {S : Nat → Prop} {μ : xM} : Ch S μ μ := ⟨fun _ _ => rfl, fun h => h⟩
theorem Ch.trans {S S' : Nat → Prop} {μ μ1 μ2 : xM} (h : Ch S μ μ1) (h' : Ch S' μ1 μ2) (hs : ∀ a, S' a → S a := by (intro a h; omega)) : Ch S μ μ2 := ⟨fun a ha => (h'.1 a (fun z => ha (hs a z))).trans (h.1 a ha), fun z => h'.2 (h.2 z)⟩
theorem Ch.put {S : Nat → Prop} {μ μ1 μ2 : xM} {k j : Nat} {v : Int32} (h : Ch S μ μ1) (e : μ2 = xup μ1 k j v) (hs : S k) (hl : LB μ1 → LB μ2) : Ch S μ μ2 := by
  refine ⟨fun a ha => ?_, fun z => hl (h.2 z)⟩
  rw [← h.1 a ha, e]
  funext b
  have hn : ¬ (a = k ∧ b = j) := fun q => ha (by rw [q.1]; exact hs)
  rw [xup_at, if_neg hn]
theorem LB.off {μ1 μ2 : xM} {k j : Nat} {v : Int32} (e : μ2 = xup μ1 k j v) (hk : k ≠ 91 ∧ ∀ d, d < 6 → k ≠ 2 + 9 * d + 2 ∧ k ≠ 2 + 9 * d + 4) (h : LB μ1) : LB μ2 := by
  refine ⟨fun q hq => ?_, fun i hi => ?_⟩
  · have hn : ¬ (q = k ∧ 1 = j) := fun z => by
      obtain ⟨d, hd, hc⟩ := hq
      have := hk.2 d hd
      omega
    rw [e, xup_at, if_neg hn]
    exact h.1 q hq
  · have hn : ¬ (91 = k ∧ i = j) := fun z => hk.1 z.1.symm
    rw [e, xup_at, if_neg hn]
    exact h.2 i hi
theorem RK.off {k : Nat} (h : RK k) : k + 1 ≠ 91 ∧ ∀ d, d < 6 → k + 1 ≠ 2 + 9 * d + 2 ∧ k + 1 ≠ 2 + 9 * d + 4 := by
  obtain ⟨d, hd, hc⟩ := h
  exact ⟨by omega, fun d' hd' => by omega⟩
theorem LB.len {μ1 μ2 : xM} {k : Nat} {v : Int32} (e : μ2 = xup μ1 k 1 v) (hk : RK k) (hv : 0 ≤ v ∧ v ≤ 13) (h : LB μ1) : LB μ2 := by
  refine ⟨fun q hq => ?_, fun i hi => ?_⟩
  · rw [e, xup_at]
    split
    · exact hv
    · exact h.1 q hq
  · have hn : ¬ (91 = k ∧ i = 1) := fun z => by
      obtain ⟨d, hd, hc⟩ := hk
      omega
    rw [e, xup_at, if_neg hn]
    exact h.2 i hi
theorem LB.qln {μ1 μ2 : xM} {j : Nat} {v : Int32} (e : μ2 = xup μ1 91 j v) (hv : LB μ1 → 0 ≤ v ∧ v ≤ 30) (h : LB μ1) : LB μ2 := by
  refine ⟨fun q hq => ?_, fun i hi => ?_⟩
  · have hn : ¬ (q = 91 ∧ 1 = j) := fun z => by
      obtain ⟨d, hd, hc⟩ := hq
      omega
    rw [e, xup_at, if_neg hn]
    exact h.1 q hq
  · rw [e, xup_at]
    split
    · exact hv h
    · exact h.2 i hi
theorem vp_in_lt {x : Int32} {n : Nat} (h0 : 0 ≤ x) (h : x < nI n) (hn : n < 2 ^ 31) : vp_in x n := by
  rw [vp_in_iff]
  have h1 := Int32.le_iff_toInt_le.mp h0
  have h2 := Int32.lt_iff_toInt_lt.mp h
  rw [nI_toInt hn] at h2
  exact ⟨by simpa using h1, h2⟩
theorem inc13 {x : Int32} (h0 : ¬ x < 0) (h1 : ¬ 13 ≤ x) : 0 ≤ x + 1 ∧ x + 1 ≤ 13 := by
  obtain ⟨j, hj, rfl⟩ := nI_of h0
  rw [show (13 : Int32) = nI 13 from rfl, nI_leI (by omega) (by omega)] at h1
  rw [nI_1, show (13 : Int32) = nI 13 from rfl, nI_leI (by omega) (by omega)]
  exact ⟨nI_pos' (by omega), by omega⟩
theorem bool_n {x : Int32} (h : x = 0 ∨ x = 1) : narrow .boolean (.int x) = .int x := by
  rcases h with rfl | rfl <;> rfl
abbrev SR (k : Nat) : Nat → Prop := fun a => a = k ∨ a = k + 1
abbrev SH : Nat → Prop := fun a => 57 ≤ a ∧ a ≤ 91
abbrev SM : Nat → Prop := fun a => a = 94
abbrev SJ : Nat → Prop := fun a => a = 92 ∨ a = 93
set_option maxHeartbeats 1000000 in
set_option maxRecDepth 20000 in
theorem c_isBelow (X : xD) (Ex : State → Prop) (fr : Bool) (sh : List xS) (μ : xM) (i b : Int32) : Ct X Ex fr yX5_isBelow kX5_isBelow (rmN 0) [.int i, .int b] sh μ (fun r sh' μ' => sh = sh' ∧ μ = μ' ∧ ∃ x : Int32, r = some (.int x) ∧ ((x = 1 ∧ 0 ≤ i ∧ i < b) ∨ (x = 0 ∧ ¬ (0 ≤ i ∧ i < b)))) := by
  refine Ct.of (L0 := [some (.int i), some (.int b)]) (by decide) rfl (fun h => by cases h) (by simp [Value.category]) (Nat.le_of_ble_eq_true rfl) rfl (fun l => ?_)
  refine sx_iload_n (pc := 0) dX5_isBelow_0 rfl rfl ?_
  refine sx_if_lt (pc := 1) (tgt := 13) dX5_isBelow_1 (by decide) (fun c_1 => ?_) (fun c_1 => ?_)
  · have h_1t := c_1
    refine sx_iconst (pc := 13) (v := 0) dX5_isBelow_13 (by decide) ?_
    exact sx_iret (pc := 14) dX5_isBelow_14 rfl rfl (Nat.zero_le _) (Nat.zero_le _) (by refine ⟨rfl, rfl, _, rfl, ?_⟩; first | (left; exact ⟨rfl, Int32.not_lt.mp h_1f, Int32.not_le.mp h_6f⟩) | (right; refine ⟨rfl, fun q => ?_⟩; first | exact absurd h_1t (Int32.not_lt.mpr q.1) | exact absurd q.2 (Int32.not_lt.mpr h_6t)))
  · have h_1f := c_1
    refine sx_iload_n (pc := 4) dX5_isBelow_4 rfl rfl ?_
    refine sx_iload_n (pc := 5) dX5_isBelow_5 rfl rfl ?_
    refine sx_icmp_ge (pc := 6) (tgt := 13) dX5_isBelow_6 (by decide) (fun c_6 => ?_) (fun c_6 => ?_)
    · have h_6t := c_6
      refine sx_iconst (pc := 13) (v := 0) dX5_isBelow_13 (by decide) ?_
      exact sx_iret (pc := 14) dX5_isBelow_14 rfl rfl (Nat.zero_le _) (Nat.zero_le _) (by refine ⟨rfl, rfl, _, rfl, ?_⟩; first | (left; exact ⟨rfl, Int32.not_lt.mp h_1f, Int32.not_le.mp h_6f⟩) | (right; refine ⟨rfl, fun q => ?_⟩; first | exact absurd h_1t (Int32.not_lt.mpr q.1) | exact absurd q.2 (Int32.not_lt.mpr h_6t)))
    · have h_6f := c_6
      refine sx_iconst (pc := 9) (v := 1) dX5_isBelow_9 (by decide) ?_
      refine sx_goto (pc := 10) (tgt := 14) dX5_isBelow_10 (by decide) ?_
      exact sx_iret (pc := 14) dX5_isBelow_14 rfl rfl (Nat.zero_le _) (Nat.zero_le _) (by refine ⟨rfl, rfl, _, rfl, ?_⟩; first | (left; exact ⟨rfl, Int32.not_lt.mp h_1f, Int32.not_le.mp h_6f⟩) | (right; refine ⟨rfl, fun q => ?_⟩; first | exact absurd h_1t (Int32.not_lt.mpr q.1) | exact absurd q.2 (Int32.not_lt.mpr h_6t)))
theorem isB_t {x i b : Int32} (h : (x = 1 ∧ 0 ≤ i ∧ i < b) ∨ (x = 0 ∧ ¬ (0 ≤ i ∧ i < b))) (hx : ¬ x = 0) : 0 ≤ i ∧ i < b := by
  rcases h with h | h
  · exact h.2
  · exact absurd h.1 hx
theorem isB_f {x i b : Int32} (h : (x = 1 ∧ 0 ≤ i ∧ i < b) ∨ (x = 0 ∧ ¬ (0 ≤ i ∧ i < b))) (hx : x = 0) : ¬ (0 ≤ i ∧ i < b) := by
  rcases h with h | h
  · rw [h.1] at hx; exact absurd hx (by decide)
  · exact h.2
theorem isB_b {x i b : Int32} (h : (x = 1 ∧ 0 ≤ i ∧ i < b) ∨ (x = 0 ∧ ¬ (0 ≤ i ∧ i < b))) : x = 0 ∨ x = 1 := by
  rcases h with h | h
  · exact Or.inr h.1
  · exact Or.inl h.1
theorem clamp_lt {x : Int32} {n : Nat} (h0 : 0 ≤ x) (h : x < nI n) (hn : n < 2 ^ 31) : x.toNatClampNeg < n := Nat.not_le.mp fun q => (vp_in_lt h0 h hn) (Or.inr q)
theorem el_lines : ∀ i : Nat, i < 6 → ([some 2, some 11, some 20, some 29, some 38, some 47] : List (Option Nat)).getD i none = some (2 + 9 * i) := by decide
theorem el_queues : ∀ i : Nat, i < 30 → ((List.range 30).map fun i => some (61 + i)).getD i none = some (61 + i) := by decide +kernel
set_option maxHeartbeats 1000000 in
set_option maxRecDepth 20000 in
theorem c_isDigit (X : xD) (Ex : State → Prop) (fr : Bool) (sh : List xS) (μ : xM) (v : Int32) : Ct X Ex fr yX5_isDigit kX5_isDigit (rmN 0) [.int v] sh μ (fun r sh' μ' => sh = sh' ∧ μ = μ' ∧ ∃ x : Int32, r = some (.int x) ∧ (x = 0 ∨ x = 1)) := by
  refine Ct.of (L0 := [some (.int v)]) (by decide) rfl (fun h => by cases h) (by simp [Value.category]) (Nat.le_of_ble_eq_true rfl) rfl (fun l => ?_)
  refine sx_iload_n (pc := 0) dX5_isDigit_0 rfl rfl ?_
  refine sx_bipush (pc := 1) (v := 48) dX5_isDigit_1 (by decide) ?_
  refine sx_icmp_lt (pc := 3) (tgt := 16) dX5_isDigit_3 (by decide) (fun c_3 => ?_) (fun c_3 => ?_)
  · have h_3t := c_3
    refine sx_iconst (pc := 16) (v := 0) dX5_isDigit_16 (by decide) ?_
    exact sx_iret (pc := 17) dX5_isDigit_17 rfl rfl (Nat.zero_le _) (Nat.zero_le _) (⟨rfl, rfl, _, rfl, by decide⟩)
  · have h_3f := c_3
    refine sx_iload_n (pc := 6) dX5_isDigit_6 rfl rfl ?_
    refine sx_bipush (pc := 7) (v := 57) dX5_isDigit_7 (by decide) ?_
    refine sx_icmp_gt (pc := 9) (tgt := 16) dX5_isDigit_9 (by decide) (fun c_9 => ?_) (fun c_9 => ?_)
    · have h_9t := c_9
      refine sx_iconst (pc := 16) (v := 0) dX5_isDigit_16 (by decide) ?_
      exact sx_iret (pc := 17) dX5_isDigit_17 rfl rfl (Nat.zero_le _) (Nat.zero_le _) (⟨rfl, rfl, _, rfl, by decide⟩)
    · have h_9f := c_9
      refine sx_iconst (pc := 12) (v := 1) dX5_isDigit_12 (by decide) ?_
      refine sx_goto (pc := 13) (tgt := 17) dX5_isDigit_13 (by decide) ?_
      exact sx_iret (pc := 17) dX5_isDigit_17 rfl rfl (Nat.zero_le _) (Nat.zero_le _) (⟨rfl, rfl, _, rfl, by decide⟩)
set_option maxHeartbeats 1000000 in
set_option maxRecDepth 20000 in
theorem c_hexDigit (X : xD) (Ex : State → Prop) (fr : Bool) (sh : List xS) (μ : xM) (v : Int32) : Ct X Ex fr yX5_hexDigit kX5_hexDigit (rmN 0) [.int v] sh μ (fun r sh' μ' => sh = sh' ∧ μ = μ' ∧ ∃ x : Int32, r = some (.int x)) := by
  refine Ct.of (L0 := [some (.int v), none]) (by decide) rfl (fun h => by cases h) (by simp [Value.category]) (Nat.le_of_ble_eq_true rfl) rfl (fun l => ?_)
  refine sx_iload_n (pc := 0) dX5_hexDigit_0 rfl rfl ?_
  refine sx_bipush (pc := 1) (v := 15) dX5_hexDigit_1 (by decide) ?_
  refine sx_iand (pc := 3) dX5_hexDigit_3 ?_
  refine sx_istore_n (pc := 4) (L' := [some (.int v), some (.int (v &&& 15))]) dX5_hexDigit_4 rfl (by decide) rfl ?_
  refine sx_iload_n (pc := 5) dX5_hexDigit_5 rfl rfl ?_
  refine sx_bipush (pc := 6) (v := 10) dX5_hexDigit_6 (by decide) ?_
  refine sx_icmp_ge (pc := 8) (tgt := 18) dX5_hexDigit_8 (by decide) (fun c_8 => ?_) (fun c_8 => ?_)
  · have h_8t := c_8
    refine sx_bipush (pc := 18) (v := 65) dX5_hexDigit_18 (by decide) ?_
    refine sx_iload_n (pc := 20) dX5_hexDigit_20 rfl rfl ?_
    refine sx_iadd (pc := 21) dX5_hexDigit_21 ?_
    refine sx_bipush (pc := 22) (v := 10) dX5_hexDigit_22 (by decide) ?_
    refine sx_isub (pc := 24) dX5_hexDigit_24 ?_
    exact sx_iret (pc := 25) dX5_hexDigit_25 rfl rfl (Nat.zero_le _) (Nat.zero_le _) (⟨rfl, rfl, _, rfl⟩)
  · have h_8f := c_8
    refine sx_bipush (pc := 11) (v := 48) dX5_hexDigit_11 (by decide) ?_
    refine sx_iload_n (pc := 13) dX5_hexDigit_13 rfl rfl ?_
    refine sx_iadd (pc := 14) dX5_hexDigit_14 ?_
    refine sx_goto (pc := 15) (tgt := 25) dX5_hexDigit_15 (by decide) ?_
    exact sx_iret (pc := 25) dX5_hexDigit_25 rfl rfl (Nat.zero_le _) (Nat.zero_le _) (⟨rfl, rfl, _, rfl⟩)
set_option maxHeartbeats 1000000 in
set_option maxRecDepth 20000 in
theorem l_sumOf {X : xD} {Ex : State → Prop} {l : Launch} {Z : List Frame → Array Value → State → State → Prop} {n0 : Nat} {μ : xM} {k n : Nat} {cnt : Int32} (hs : shA[k]? = some (shI n)) (hn : n < 2 ^ 31)
    (hZ : ∀ (v i : Int32), sx l (rmN 0) X Ex false kX5_sumOf n0 Z 27 [some (.ref (X.2 + k)), some (.int cnt), some (.int v), some (.int i)] [] shA μ 0 0) :
    ∀ (m j : Nat) (v : Int32), n - j ≤ m → j ≤ n → sx l (rmN 0) X Ex false kX5_sumOf n0 Z 4 [some (.ref (X.2 + k)), some (.int cnt), some (.int v), some (.int (nI j))] [] shA μ 0 0 := by
  intro m
  induction m with
  | zero =>
    intro j v hm hj
    have hjn : j = n := by omega
    subst hjn
    refine sx_iload_n (pc := 4) dX5_sumOf_4 rfl rfl ?_
    refine sx_iload_n (pc := 5) dX5_sumOf_5 rfl rfl ?_
    refine sx_icmp_ge (pc := 6) (tgt := 27) dX5_sumOf_6 (by decide) (fun _ => hZ _ _) (fun _ => ?_)
    refine sx_iload_n (pc := 9) dX5_sumOf_9 rfl rfl ?_
    refine sx_aload_n (pc := 10) dX5_sumOf_10 rfl rfl ?_
    refine sx_alen (pc := 11) dX5_sumOf_11 hs rfl rfl ?_
    refine sx_icmp_ge (pc := 12) (tgt := 27) dX5_sumOf_12 (by decide) (fun _ => hZ _ _) (fun q => absurd (nI_le (Nat.le_refl _) hn) q)
  | succ m ih =>
    intro j v hm hj
    refine sx_iload_n (pc := 4) dX5_sumOf_4 rfl rfl ?_
    refine sx_iload_n (pc := 5) dX5_sumOf_5 rfl rfl ?_
    refine sx_icmp_ge (pc := 6) (tgt := 27) dX5_sumOf_6 (by decide) (fun _ => hZ _ _) (fun _ => ?_)
    refine sx_iload_n (pc := 9) dX5_sumOf_9 rfl rfl ?_
    refine sx_aload_n (pc := 10) dX5_sumOf_10 rfl rfl ?_
    refine sx_alen (pc := 11) dX5_sumOf_11 hs rfl rfl ?_
    refine sx_icmp_ge (pc := 12) (tgt := 27) dX5_sumOf_12 (by decide) (fun _ => hZ _ _) (fun q => ?_)
    have hlt : j < n := Nat.lt_of_not_le fun z => q (nI_le z (by omega))
    refine sx_iload_n (pc := 15) dX5_sumOf_15 rfl rfl ?_
    refine sx_aload_n (pc := 16) dX5_sumOf_16 rfl rfl ?_
    refine sx_iload_n (pc := 17) dX5_sumOf_17 rfl rfl ?_
    refine sx_iald (pc := 18) dX5_sumOf_18 hs (by decide) rfl (vp_in_nI hlt hn) ?_
    refine sx_iadd (pc := 19) dX5_sumOf_19 ?_
    refine sx_istore_n (pc := 20) dX5_sumOf_20 rfl (by decide) rfl ?_
    refine sx_iinc (pc := 21) (v := nI (j + 1)) dX5_sumOf_21 rfl (nI_1 j) (by decide) rfl ?_
    refine sx_goto (pc := 24) (tgt := 4) dX5_sumOf_24 (by decide) ?_
    exact ih (j + 1) _ (by omega) (by omega)
set_option maxHeartbeats 1000000 in
set_option maxRecDepth 20000 in
theorem c_sumOf (X : xD) (Ex : State → Prop) (hE : xEs X false shA.length Ex) (μ : xM) (k n : Nat) (cnt : Int32) (hs : shA[k]? = some (shI n)) (hn : n < 2 ^ 31) : Ct X Ex false yX5_sumOf kX5_sumOf (rmN 0) [.ref (X.2 + k), .int cnt] shA μ (fun r sh' μ' => shA = sh' ∧ μ = μ' ∧ ∃ x : Int32, r = some (.int x)) := by
  refine Ct.of (L0 := [some (.ref (X.2 + k)), some (.int cnt), none, none]) (by decide) rfl (fun h => by cases h) (by simp [Value.category]) (Nat.le_of_ble_eq_true rfl) rfl (fun l => ?_)
  refine sx_iconst (pc := 0) (v := 0) dX5_sumOf_0 (by decide) ?_
  refine sx_istore_n (pc := 1) (L' := [some (.ref (X.2 + k)), some (.int cnt), some (.int 0), none]) dX5_sumOf_1 rfl (by decide) rfl ?_
  refine sx_iconst (pc := 2) (v := 0) dX5_sumOf_2 (by decide) ?_
  refine sx_istore_n (pc := 3) (L' := [some (.ref (X.2 + k)), some (.int cnt), some (.int 0), some (.int 0)]) dX5_sumOf_3 rfl (by decide) rfl ?_
  exact l_sumOf hs hn (fun v i => sx_iload_n (pc := 27) dX5_sumOf_27 rfl rfl (sx_sipush (pc := 28) (v := 255) dX5_sumOf_28 (by decide) (sx_iand (pc := 31) dX5_sumOf_31 (sx_iret (pc := 32) dX5_sumOf_32 rfl rfl (Nat.zero_le _) (Nat.zero_le _) ⟨rfl, rfl, _, rfl⟩)))) n 0 0 (by omega) (Nat.zero_le _)
set_option maxHeartbeats 1000000 in
set_option maxRecDepth 20000 in
theorem c_add (X : xD) (Ex : State → Prop) (hE : xEs X false shA.length Ex) (μ : xM) (k : Nat) (hR : shA[k]? = some (shReply k) ∧ shA[k + 1]? = some (shI 13)) (hk : RK k) (x : Int32) : Ct X Ex false yX4_add kX4_add (rmN 0) [.ref (X.2 + k), .int x] shA μ (fun r sh' μ' => shA = sh' ∧ r = none ∧ Ch (SR k) μ μ') := by
  refine Ct.of (L0 := [some (.ref (X.2 + k)), some (.int x)]) (by decide) rfl (fun h => by cases h) (by simp [Value.category]) (Nat.le_of_ble_eq_true rfl) rfl (fun l => ?_)
  refine sx_aload_n (pc := 0) dX4_add_0 rfl rfl ?_
  refine sx_geti (pc := 1) (ci := 4) (j := 1) dX4_add_1 rfl hR.1 rfl (by decide) lf_X4_15 ?_
  refine sx_if_lt (pc := 4) (tgt := 36) dX4_add_4 (by decide) (fun c_4 => ?_) (fun c_4 => ?_)
  · have h_4t := c_4
    exact sx_vret (pc := 36) dX4_add_36 rfl (Nat.zero_le _) (Nat.zero_le _) (⟨rfl, rfl, (Ch.rf)⟩)
  · have h_4f := c_4
    refine sx_aload_n (pc := 7) dX4_add_7 rfl rfl ?_
    refine sx_geti (pc := 8) (ci := 4) (j := 1) dX4_add_8 rfl hR.1 rfl (by decide) lf_X4_15 ?_
    refine sx_bipush (pc := 11) (v := 13) dX4_add_11 (by decide) ?_
    refine sx_icmp_ge (pc := 13) (tgt := 36) dX4_add_13 (by decide) (fun c_13 => ?_) (fun c_13 => ?_)
    · have h_13t := c_13
      exact sx_vret (pc := 36) dX4_add_36 rfl (Nat.zero_le _) (Nat.zero_le _) (⟨rfl, rfl, (Ch.rf)⟩)
    · have h_13f := c_13
      refine sx_aload_n (pc := 16) dX4_add_16 rfl rfl ?_
      refine sx_getr (pc := 17) (ci := 4) (j := 0) (r := k + 1) dX4_add_17 rfl hR.1 rfl (by decide) lf_X4_11 ?_
      refine sx_aload_n (pc := 20) dX4_add_20 rfl rfl ?_
      refine sx_geti (pc := 21) (ci := 4) (j := 1) dX4_add_21 rfl hR.1 rfl (by decide) lf_X4_15 ?_
      refine sx_iload_n (pc := 24) dX4_add_24 rfl rfl ?_
      refine sx_iast (pc := 25) dX4_add_25 hR.2 (by decide) rfl (vp_in_lt (Int32.not_lt.mp h_4f) (Int32.not_le.mp h_13f) (by decide)) (fun μ1 hμ1 => ?_)
      refine sx_aload_n (pc := 26) dX4_add_26 rfl rfl ?_
      refine sx_dup (pc := 27) dX4_add_27 rfl ?_
      refine sx_geti (pc := 28) (ci := 4) (j := 1) dX4_add_28 rfl hR.1 rfl (by decide) lf_X4_15 ?_
      refine sx_iconst (pc := 31) (v := 1) dX4_add_31 (by decide) ?_
      refine sx_iadd (pc := 32) dX4_add_32 ?_
      refine sx_puti (pc := 33) (ci := 4) (j := 1) (ty := .int) dX4_add_33 rfl hR.1 rfl (by decide) lf_X4_15 rfl (by decide +kernel) rfl rfl (fun μ2 hμ2 => ?_)
      exact sx_vret (pc := 36) dX4_add_36 rfl (Nat.zero_le _) (Nat.zero_le _) (⟨rfl, rfl, (Ch.put (Ch.put (Ch.rf) hμ1 (by omega) (LB.off hμ1 hk.off)) hμ2 (by omega) (LB.len hμ2 hk (by rw [show μ1 k 1 = μ k 1 by rw [hμ1, xup_at, if_neg (by omega)]]; exact inc13 h_4f h_13f)))⟩)
set_option maxHeartbeats 1000000 in
set_option maxRecDepth 20000 in
theorem c_addSumAndEnd (X : xD) (Ex : State → Prop) (hE : xEs X false shA.length Ex) (μ : xM) (k : Nat) (hR : shA[k]? = some (shReply k) ∧ shA[k + 1]? = some (shI 13)) (hk : RK k) : Ct X Ex false yX4_addSumAndEnd kX4_addSumAndEnd (rmN 1) [.ref (X.2 + k)] shA μ (fun r sh' μ' => shA = sh' ∧ r = none ∧ Ch (SR k) μ μ') := by
  refine Ct.of (L0 := [some (.ref (X.2 + k)), none]) (by decide) rfl (fun h => by cases h) (by simp [Value.category]) (Nat.le_of_ble_eq_true rfl) rfl (fun l => ?_)
  refine sx_aload_n (pc := 0) dX4_addSumAndEnd_0 rfl rfl ?_
  refine sx_getr (pc := 1) (ci := 4) (j := 0) (r := k + 1) dX4_addSumAndEnd_1 rfl hR.1 rfl (by decide) lf_X4_11 ?_
  refine sx_aload_n (pc := 4) dX4_addSumAndEnd_4 rfl rfl ?_
  refine sx_geti (pc := 5) (ci := 4) (j := 1) dX4_addSumAndEnd_5 rfl hR.1 rfl (by decide) lf_X4_15 ?_
  refine sx_callSN (host := "ExchangeWire") (pc := 8) (As := [.ref (X.2 + (k + 1)), .int (μ k 1)]) dX4_addSumAndEnd_8 (c_sumOf X Ex hE μ (k + 1) 13 _ hR.2 (by decide)) mX5_sumOf (by decide +kernel) rfl ⟨Nat.le_of_ble_eq_true rfl, Nat.le_of_ble_eq_true rfl⟩ ⟨Nat.le_of_ble_eq_true rfl, Nat.le_of_ble_eq_true rfl⟩ (Nat.le_of_ble_eq_true rfl) hE (fun r_8 sh1 μ1 h_8 => ?_)
  obtain ⟨rfl, rfl, x_8, rfl⟩ := h_8
  refine sx_istore_n (pc := 11) (L' := [some (.ref (X.2 + k)), some (.int x_8)]) dX4_addSumAndEnd_11 rfl (by decide) rfl ?_
  refine sx_aload_n (pc := 12) dX4_addSumAndEnd_12 rfl rfl ?_
  refine sx_bipush (pc := 13) (v := 90) dX4_addSumAndEnd_13 (by decide) ?_
  refine sx_callV (pc := 15) (As := [.int 90]) dX4_addSumAndEnd_15 (c_add X Ex hE μ k hR hk _) mX4_add lm_X4_19 rfl hR.1 rfl ⟨Nat.le_of_ble_eq_true rfl, Nat.le_of_ble_eq_true rfl⟩ ⟨Nat.le_of_ble_eq_true rfl, Nat.le_of_ble_eq_true rfl⟩ (Nat.le_of_ble_eq_true rfl) hE (fun r_15 sh1 μ2 h_15 => ?_)
  obtain ⟨rfl, rfl, k_15⟩ := h_15
  refine sx_aload_n (pc := 18) dX4_addSumAndEnd_18 rfl rfl ?_
  refine sx_iload_n (pc := 19) dX4_addSumAndEnd_19 rfl rfl ?_
  refine sx_iconst (pc := 20) (v := 4) dX4_addSumAndEnd_20 (by decide) ?_
  refine sx_ishr (pc := 21) dX4_addSumAndEnd_21 ?_
  refine sx_callSN (host := "ExchangeWire") (pc := 22) (As := [.int (x_8 >>> (4 &&& 31))]) dX4_addSumAndEnd_22 (c_hexDigit X Ex false shA μ2 _) mX5_hexDigit (by decide +kernel) rfl ⟨Nat.le_of_ble_eq_true rfl, Nat.le_of_ble_eq_true rfl⟩ ⟨Nat.le_of_ble_eq_true rfl, Nat.le_of_ble_eq_true rfl⟩ (Nat.le_of_ble_eq_true rfl) hE (fun r_22 sh1 μ3 h_22 => ?_)
  obtain ⟨rfl, rfl, x_22, rfl⟩ := h_22
  refine sx_callV (pc := 25) (As := [.int x_22]) dX4_addSumAndEnd_25 (c_add X Ex hE μ2 k hR hk _) mX4_add lm_X4_19 rfl hR.1 rfl ⟨Nat.le_of_ble_eq_true rfl, Nat.le_of_ble_eq_true rfl⟩ ⟨Nat.le_of_ble_eq_true rfl, Nat.le_of_ble_eq_true rfl⟩ (Nat.le_of_ble_eq_true rfl) hE (fun r_25 sh1 μ4 h_25 => ?_)
  obtain ⟨rfl, rfl, k_25⟩ := h_25
  refine sx_aload_n (pc := 28) dX4_addSumAndEnd_28 rfl rfl ?_
  refine sx_iload_n (pc := 29) dX4_addSumAndEnd_29 rfl rfl ?_
  refine sx_callSN (host := "ExchangeWire") (pc := 30) (As := [.int x_8]) dX4_addSumAndEnd_30 (c_hexDigit X Ex false shA μ4 _) mX5_hexDigit (by decide +kernel) rfl ⟨Nat.le_of_ble_eq_true rfl, Nat.le_of_ble_eq_true rfl⟩ ⟨Nat.le_of_ble_eq_true rfl, Nat.le_of_ble_eq_true rfl⟩ (Nat.le_of_ble_eq_true rfl) hE (fun r_30 sh1 μ5 h_30 => ?_)
  obtain ⟨rfl, rfl, x_30, rfl⟩ := h_30
  refine sx_callV (pc := 33) (As := [.int x_30]) dX4_addSumAndEnd_33 (c_add X Ex hE μ4 k hR hk _) mX4_add lm_X4_19 rfl hR.1 rfl ⟨Nat.le_of_ble_eq_true rfl, Nat.le_of_ble_eq_true rfl⟩ ⟨Nat.le_of_ble_eq_true rfl, Nat.le_of_ble_eq_true rfl⟩ (Nat.le_of_ble_eq_true rfl) hE (fun r_33 sh1 μ6 h_33 => ?_)
  obtain ⟨rfl, rfl, k_33⟩ := h_33
  refine sx_aload_n (pc := 36) dX4_addSumAndEnd_36 rfl rfl ?_
  refine sx_bipush (pc := 37) (v := 13) dX4_addSumAndEnd_37 (by decide) ?_
  refine sx_callV (pc := 39) (As := [.int 13]) dX4_addSumAndEnd_39 (c_add X Ex hE μ6 k hR hk _) mX4_add lm_X4_19 rfl hR.1 rfl ⟨Nat.le_of_ble_eq_true rfl, Nat.le_of_ble_eq_true rfl⟩ ⟨Nat.le_of_ble_eq_true rfl, Nat.le_of_ble_eq_true rfl⟩ (Nat.le_of_ble_eq_true rfl) hE (fun r_39 sh1 μ7 h_39 => ?_)
  obtain ⟨rfl, rfl, k_39⟩ := h_39
  exact sx_vret (pc := 42) dX4_addSumAndEnd_42 rfl (Nat.zero_le _) (Nat.zero_le _) (⟨rfl, rfl, (Ch.trans (Ch.trans (Ch.trans (Ch.trans (Ch.rf) k_15) k_25) k_33) k_39)⟩)
set_option maxHeartbeats 1000000 in
set_option maxRecDepth 20000 in
theorem c_writeWrong (X : xD) (Ex : State → Prop) (hE : xEs X false shA.length Ex) (μ : xM) (k : Nat) (hR : shA[k]? = some (shReply k) ∧ shA[k + 1]? = some (shI 13)) (hk : RK k) : Ct X Ex false yX4_writeWrong kX4_writeWrong (rmN 2) [.ref (X.2 + k)] shA μ (fun r sh' μ' => shA = sh' ∧ r = none ∧ Ch (SR k) μ μ') := by
  refine Ct.of (L0 := [some (.ref (X.2 + k))]) (by decide) rfl (fun h => by cases h) (by simp [Value.category]) (Nat.le_of_ble_eq_true rfl) rfl (fun l => ?_)
  refine sx_aload_n (pc := 0) dX4_writeWrong_0 rfl rfl ?_
  refine sx_iconst (pc := 1) (v := 0) dX4_writeWrong_1 (by decide) ?_
  refine sx_puti (pc := 2) (ci := 4) (j := 1) (ty := .int) dX4_writeWrong_2 rfl hR.1 rfl (by decide) lf_X4_15 rfl (by decide +kernel) rfl rfl (fun μ1 hμ1 => ?_)
  refine sx_aload_n (pc := 5) dX4_writeWrong_5 rfl rfl ?_
  refine sx_bipush (pc := 6) (v := 78) dX4_writeWrong_6 (by decide) ?_
  refine sx_callV (pc := 8) (As := [.int 78]) dX4_writeWrong_8 (c_add X Ex hE μ1 k hR hk _) mX4_add lm_X4_19 rfl hR.1 rfl ⟨Nat.le_of_ble_eq_true rfl, Nat.le_of_ble_eq_true rfl⟩ ⟨Nat.le_of_ble_eq_true rfl, Nat.le_of_ble_eq_true rfl⟩ (Nat.le_of_ble_eq_true rfl) hE (fun r_8 sh1 μ2 h_8 => ?_)
  obtain ⟨rfl, rfl, k_8⟩ := h_8
  refine sx_aload_n (pc := 11) dX4_writeWrong_11 rfl rfl ?_
  refine sx_callV (pc := 12) (As := []) dX4_writeWrong_12 (c_addSumAndEnd X Ex hE μ2 k hR hk) mX4_addSumAndEnd lm_X4_23 rfl hR.1 rfl ⟨Nat.le_of_ble_eq_true rfl, Nat.le_of_ble_eq_true rfl⟩ ⟨Nat.le_of_ble_eq_true rfl, Nat.le_of_ble_eq_true rfl⟩ (Nat.le_of_ble_eq_true rfl) hE (fun r_12 sh1 μ3 h_12 => ?_)
  obtain ⟨rfl, rfl, k_12⟩ := h_12
  exact sx_vret (pc := 15) dX4_writeWrong_15 rfl (Nat.zero_le _) (Nat.zero_le _) (⟨rfl, rfl, (Ch.trans (Ch.trans (Ch.put (Ch.rf) hμ1 (by omega) (LB.len hμ1 hk (by decide))) k_8) k_12)⟩)
set_option maxHeartbeats 1000000 in
set_option maxRecDepth 20000 in
theorem c_addSource (X : xD) (Ex : State → Prop) (hE : xEs X false shA.length Ex) (μ : xM) (k : Nat) (hR : shA[k]? = some (shReply k) ∧ shA[k + 1]? = some (shI 13)) (hk : RK k) : Ct X Ex false yX4_addSource kX4_addSource (rmN 2) [.ref (X.2 + k), .ref (X.2 + 94)] shA μ (fun r sh' μ' => shA = sh' ∧ r = none ∧ Ch (SR k) μ μ') := by
  refine Ct.of (L0 := [some (.ref (X.2 + k)), some (.ref (X.2 + 94))]) (by decide) rfl (fun h => by cases h) (by simp [Value.category]) (Nat.le_of_ble_eq_true rfl) rfl (fun l => ?_)
  refine sx_aload_n (pc := 0) dX4_addSource_0 rfl rfl ?_
  refine sx_aload_n (pc := 1) dX4_addSource_1 rfl rfl ?_
  refine sx_geti (pc := 2) (ci := 3) (j := 0) dX4_addSource_2 rfl s_Me rfl (by decide) lf_X4_39 ?_
  refine sx_callV (pc := 5) (As := [.int (μ 94 0)]) dX4_addSource_5 (c_add X Ex hE μ k hR hk _) mX4_add lm_X4_19 rfl hR.1 rfl ⟨Nat.le_of_ble_eq_true rfl, Nat.le_of_ble_eq_true rfl⟩ ⟨Nat.le_of_ble_eq_true rfl, Nat.le_of_ble_eq_true rfl⟩ (Nat.le_of_ble_eq_true rfl) hE (fun r_5 sh1 μ1 h_5 => ?_)
  obtain ⟨rfl, rfl, k_5⟩ := h_5
  refine sx_aload_n (pc := 8) dX4_addSource_8 rfl rfl ?_
  refine sx_bipush (pc := 9) (v := 48) dX4_addSource_9 (by decide) ?_
  refine sx_aload_n (pc := 11) dX4_addSource_11 rfl rfl ?_
  refine sx_geti (pc := 12) (ci := 3) (j := 1) dX4_addSource_12 rfl s_Me rfl (by decide) lf_X4_44 ?_
  refine sx_iadd (pc := 15) dX4_addSource_15 ?_
  refine sx_callV (pc := 16) (As := [.int (48 + (μ1 94 1))]) dX4_addSource_16 (c_add X Ex hE μ1 k hR hk _) mX4_add lm_X4_19 rfl hR.1 rfl ⟨Nat.le_of_ble_eq_true rfl, Nat.le_of_ble_eq_true rfl⟩ ⟨Nat.le_of_ble_eq_true rfl, Nat.le_of_ble_eq_true rfl⟩ (Nat.le_of_ble_eq_true rfl) hE (fun r_16 sh1 μ2 h_16 => ?_)
  obtain ⟨rfl, rfl, k_16⟩ := h_16
  refine sx_aload_n (pc := 19) dX4_addSource_19 rfl rfl ?_
  refine sx_callV (pc := 20) (As := []) dX4_addSource_20 (c_addSumAndEnd X Ex hE μ2 k hR hk) mX4_addSumAndEnd lm_X4_23 rfl hR.1 rfl ⟨Nat.le_of_ble_eq_true rfl, Nat.le_of_ble_eq_true rfl⟩ ⟨Nat.le_of_ble_eq_true rfl, Nat.le_of_ble_eq_true rfl⟩ (Nat.le_of_ble_eq_true rfl) hE (fun r_20 sh1 μ3 h_20 => ?_)
  obtain ⟨rfl, rfl, k_20⟩ := h_20
  exact sx_vret (pc := 23) dX4_addSource_23 rfl (Nat.zero_le _) (Nat.zero_le _) (⟨rfl, rfl, (Ch.trans (Ch.trans (Ch.trans (Ch.rf) k_5) k_16) k_20)⟩)
set_option maxHeartbeats 1000000 in
set_option maxRecDepth 20000 in
theorem c_writeNo (X : xD) (Ex : State → Prop) (hE : xEs X false shA.length Ex) (μ : xM) (k : Nat) (hR : shA[k]? = some (shReply k) ∧ shA[k + 1]? = some (shI 13)) (hk : RK k) : Ct X Ex false yX4_writeNo kX4_writeNo (rmN 3) [.ref (X.2 + k), .ref (X.2 + 94)] shA μ (fun r sh' μ' => shA = sh' ∧ r = none ∧ Ch (SR k) μ μ') := by
  refine Ct.of (L0 := [some (.ref (X.2 + k)), some (.ref (X.2 + 94))]) (by decide) rfl (fun h => by cases h) (by simp [Value.category]) (Nat.le_of_ble_eq_true rfl) rfl (fun l => ?_)
  refine sx_aload_n (pc := 0) dX4_writeNo_0 rfl rfl ?_
  refine sx_iconst (pc := 1) (v := 0) dX4_writeNo_1 (by decide) ?_
  refine sx_puti (pc := 2) (ci := 4) (j := 1) (ty := .int) dX4_writeNo_2 rfl hR.1 rfl (by decide) lf_X4_15 rfl (by decide +kernel) rfl rfl (fun μ1 hμ1 => ?_)
  refine sx_aload_n (pc := 5) dX4_writeNo_5 rfl rfl ?_
  refine sx_bipush (pc := 6) (v := 88) dX4_writeNo_6 (by decide) ?_
  refine sx_callV (pc := 8) (As := [.int 88]) dX4_writeNo_8 (c_add X Ex hE μ1 k hR hk _) mX4_add lm_X4_19 rfl hR.1 rfl ⟨Nat.le_of_ble_eq_true rfl, Nat.le_of_ble_eq_true rfl⟩ ⟨Nat.le_of_ble_eq_true rfl, Nat.le_of_ble_eq_true rfl⟩ (Nat.le_of_ble_eq_true rfl) hE (fun r_8 sh1 μ2 h_8 => ?_)
  obtain ⟨rfl, rfl, k_8⟩ := h_8
  refine sx_aload_n (pc := 11) dX4_writeNo_11 rfl rfl ?_
  refine sx_aload_n (pc := 12) dX4_writeNo_12 rfl rfl ?_
  refine sx_callV (pc := 13) (As := [.ref (X.2 + 94)]) dX4_writeNo_13 (c_addSource X Ex hE μ2 k hR hk) mX4_addSource lm_X4_26 rfl hR.1 rfl ⟨Nat.le_of_ble_eq_true rfl, Nat.le_of_ble_eq_true rfl⟩ ⟨Nat.le_of_ble_eq_true rfl, Nat.le_of_ble_eq_true rfl⟩ (Nat.le_of_ble_eq_true rfl) hE (fun r_13 sh1 μ3 h_13 => ?_)
  obtain ⟨rfl, rfl, k_13⟩ := h_13
  exact sx_vret (pc := 16) dX4_writeNo_16 rfl (Nat.zero_le _) (Nat.zero_le _) (⟨rfl, rfl, (Ch.trans (Ch.trans (Ch.put (Ch.rf) hμ1 (by omega) (LB.len hμ1 hk (by decide))) k_8) k_13)⟩)
set_option maxHeartbeats 1000000 in
set_option maxRecDepth 20000 in
theorem c_writeError (X : xD) (Ex : State → Prop) (hE : xEs X false shA.length Ex) (μ : xM) (k : Nat) (hR : shA[k]? = some (shReply k) ∧ shA[k + 1]? = some (shI 13)) (hk : RK k) (lt : Int32) : Ct X Ex false yX4_writeError kX4_writeError (rmN 3) [.ref (X.2 + k), .ref (X.2 + 94), .int lt] shA μ (fun r sh' μ' => shA = sh' ∧ r = none ∧ Ch (SR k) μ μ') := by
  refine Ct.of (L0 := [some (.ref (X.2 + k)), some (.ref (X.2 + 94)), some (.int lt)]) (by decide) rfl (fun h => by cases h) (by simp [Value.category]) (Nat.le_of_ble_eq_true rfl) rfl (fun l => ?_)
  refine sx_aload_n (pc := 0) dX4_writeError_0 rfl rfl ?_
  refine sx_iconst (pc := 1) (v := 0) dX4_writeError_1 (by decide) ?_
  refine sx_puti (pc := 2) (ci := 4) (j := 1) (ty := .int) dX4_writeError_2 rfl hR.1 rfl (by decide) lf_X4_15 rfl (by decide +kernel) rfl rfl (fun μ1 hμ1 => ?_)
  refine sx_aload_n (pc := 5) dX4_writeError_5 rfl rfl ?_
  refine sx_bipush (pc := 6) (v := 69) dX4_writeError_6 (by decide) ?_
  refine sx_callV (pc := 8) (As := [.int 69]) dX4_writeError_8 (c_add X Ex hE μ1 k hR hk _) mX4_add lm_X4_19 rfl hR.1 rfl ⟨Nat.le_of_ble_eq_true rfl, Nat.le_of_ble_eq_true rfl⟩ ⟨Nat.le_of_ble_eq_true rfl, Nat.le_of_ble_eq_true rfl⟩ (Nat.le_of_ble_eq_true rfl) hE (fun r_8 sh1 μ2 h_8 => ?_)
  obtain ⟨rfl, rfl, k_8⟩ := h_8
  refine sx_aload_n (pc := 11) dX4_writeError_11 rfl rfl ?_
  refine sx_iload_n (pc := 12) dX4_writeError_12 rfl rfl ?_
  refine sx_callV (pc := 13) (As := [.int lt]) dX4_writeError_13 (c_add X Ex hE μ2 k hR hk _) mX4_add lm_X4_19 rfl hR.1 rfl ⟨Nat.le_of_ble_eq_true rfl, Nat.le_of_ble_eq_true rfl⟩ ⟨Nat.le_of_ble_eq_true rfl, Nat.le_of_ble_eq_true rfl⟩ (Nat.le_of_ble_eq_true rfl) hE (fun r_13 sh1 μ3 h_13 => ?_)
  obtain ⟨rfl, rfl, k_13⟩ := h_13
  refine sx_aload_n (pc := 16) dX4_writeError_16 rfl rfl ?_
  refine sx_aload_n (pc := 17) dX4_writeError_17 rfl rfl ?_
  refine sx_callV (pc := 18) (As := [.ref (X.2 + 94)]) dX4_writeError_18 (c_addSource X Ex hE μ3 k hR hk) mX4_addSource lm_X4_26 rfl hR.1 rfl ⟨Nat.le_of_ble_eq_true rfl, Nat.le_of_ble_eq_true rfl⟩ ⟨Nat.le_of_ble_eq_true rfl, Nat.le_of_ble_eq_true rfl⟩ (Nat.le_of_ble_eq_true rfl) hE (fun r_18 sh1 μ4 h_18 => ?_)
  obtain ⟨rfl, rfl, k_18⟩ := h_18
  exact sx_vret (pc := 21) dX4_writeError_21 rfl (Nat.zero_le _) (Nat.zero_le _) (⟨rfl, rfl, (Ch.trans (Ch.trans (Ch.trans (Ch.put (Ch.rf) hμ1 (by omega) (LB.len hμ1 hk (by decide))) k_8) k_13) k_18)⟩)
set_option maxHeartbeats 1000000 in
set_option maxRecDepth 20000 in
theorem l_dig0 {X : xD} {Ex : State → Prop} {l : Launch} {k : Nat} {μ0 μ : xM} {v : Int32} (hC : Ch (SR k) μ0 μ) : sx l (rmN 1) X Ex false kX4_addDigits shA.length (xZ X false shA.length (fun r sh' μ' => shA = sh' ∧ r = none ∧ Ch (SR k) μ0 μ') 0 0) 3 [some (.ref (X.2 + k)), some (.int v), some (.int 0)] [] shA μ 0 0 := by
  refine sx_iload_n (pc := 3) dX4_addDigits_3 rfl rfl ?_
  refine sx_if_le (pc := 4) (tgt := 38) dX4_addDigits_4 (by decide) (fun c_4 => ?_) (fun c_4 => absurd c_4 (by decide))
  exact sx_vret (pc := 38) dX4_addDigits_38 rfl (Nat.zero_le _) (Nat.zero_le _) (⟨rfl, rfl, hC⟩)
set_option maxHeartbeats 1000000 in
set_option maxRecDepth 20000 in
theorem l_dig1 {X : xD} {Ex : State → Prop} (hE : xEs X false shA.length Ex) {l : Launch} {k : Nat} (hR : shA[k]? = some (shReply k) ∧ shA[k + 1]? = some (shI 13)) (hk : RK k) {μ0 μ : xM} {v : Int32} (hC : Ch (SR k) μ0 μ) : sx l (rmN 1) X Ex false kX4_addDigits shA.length (xZ X false shA.length (fun r sh' μ' => shA = sh' ∧ r = none ∧ Ch (SR k) μ0 μ') 0 0) 3 [some (.ref (X.2 + k)), some (.int v), some (.int 1)] [] shA μ 0 0 := by
  refine sx_iload_n (pc := 3) dX4_addDigits_3 rfl rfl ?_
  refine sx_if_le (pc := 4) (tgt := 38) dX4_addDigits_4 (by decide) (fun c_4 => absurd c_4 (by decide)) (fun c_4 => ?_)
  refine sx_iload_n (pc := 7) dX4_addDigits_7 rfl rfl ?_
  refine sx_iload_n (pc := 8) dX4_addDigits_8 rfl rfl ?_
  refine sx_icmp_ge (pc := 9) (tgt := 17) dX4_addDigits_9 (by decide) (fun c_9 => ?_) (fun c_9 => ?_)
  · have h_9t := c_9
    refine sx_aload_n (pc := 17) dX4_addDigits_17 rfl rfl ?_
    refine sx_bipush (pc := 18) (v := 48) dX4_addDigits_18 (by decide) ?_
    refine sx_iload_n (pc := 20) dX4_addDigits_20 rfl rfl ?_
    refine sx_iload_n (pc := 21) dX4_addDigits_21 rfl rfl ?_
    refine sx_idiv (pc := 22) dX4_addDigits_22 (by decide) ?_
    refine sx_bipush (pc := 23) (v := 10) dX4_addDigits_23 (by decide) ?_
    refine sx_irem (pc := 25) dX4_addDigits_25 (by decide) ?_
    refine sx_iadd (pc := 26) dX4_addDigits_26 ?_
    refine sx_callV (pc := 27) (As := [.int (48 + ((v / 1) - (v / 1) / 10 * 10))]) dX4_addDigits_27 (c_add X Ex hE μ k hR hk _) mX4_add lm_X4_19 rfl hR.1 rfl ⟨Nat.le_of_ble_eq_true rfl, Nat.le_of_ble_eq_true rfl⟩ ⟨Nat.le_of_ble_eq_true rfl, Nat.le_of_ble_eq_true rfl⟩ (Nat.le_of_ble_eq_true rfl) hE (fun r_27 sh1 μ1 h_27 => ?_)
    obtain ⟨rfl, rfl, k_27⟩ := h_27
    refine sx_iload_n (pc := 30) dX4_addDigits_30 rfl rfl ?_
    refine sx_bipush (pc := 31) (v := 10) dX4_addDigits_31 (by decide) ?_
    refine sx_idiv (pc := 33) dX4_addDigits_33 (by decide) ?_
    refine sx_istore_n (pc := 34) (L' := [some (.ref (X.2 + k)), some (.int v), some (.int 0)]) dX4_addDigits_34 rfl (by decide) rfl ?_
    refine sx_goto (pc := 35) (tgt := 3) dX4_addDigits_35 (by decide) ?_
    exact l_dig0 (Ch.trans hC k_27)
  · have h_9f := c_9
    refine sx_iload_n (pc := 12) dX4_addDigits_12 rfl rfl ?_
    refine sx_iconst (pc := 13) (v := 1) dX4_addDigits_13 (by decide) ?_
    refine sx_icmp_ne (pc := 14) (tgt := 30) dX4_addDigits_14 (by decide) (fun c_14 => absurd c_14 (by decide)) (fun c_14 => ?_)
    refine sx_aload_n (pc := 17) dX4_addDigits_17 rfl rfl ?_
    refine sx_bipush (pc := 18) (v := 48) dX4_addDigits_18 (by decide) ?_
    refine sx_iload_n (pc := 20) dX4_addDigits_20 rfl rfl ?_
    refine sx_iload_n (pc := 21) dX4_addDigits_21 rfl rfl ?_
    refine sx_idiv (pc := 22) dX4_addDigits_22 (by decide) ?_
    refine sx_bipush (pc := 23) (v := 10) dX4_addDigits_23 (by decide) ?_
    refine sx_irem (pc := 25) dX4_addDigits_25 (by decide) ?_
    refine sx_iadd (pc := 26) dX4_addDigits_26 ?_
    refine sx_callV (pc := 27) (As := [.int (48 + ((v / 1) - (v / 1) / 10 * 10))]) dX4_addDigits_27 (c_add X Ex hE μ k hR hk _) mX4_add lm_X4_19 rfl hR.1 rfl ⟨Nat.le_of_ble_eq_true rfl, Nat.le_of_ble_eq_true rfl⟩ ⟨Nat.le_of_ble_eq_true rfl, Nat.le_of_ble_eq_true rfl⟩ (Nat.le_of_ble_eq_true rfl) hE (fun r_27 sh1 μ2 h_27 => ?_)
    obtain ⟨rfl, rfl, k_27⟩ := h_27
    refine sx_iload_n (pc := 30) dX4_addDigits_30 rfl rfl ?_
    refine sx_bipush (pc := 31) (v := 10) dX4_addDigits_31 (by decide) ?_
    refine sx_idiv (pc := 33) dX4_addDigits_33 (by decide) ?_
    refine sx_istore_n (pc := 34) (L' := [some (.ref (X.2 + k)), some (.int v), some (.int 0)]) dX4_addDigits_34 rfl (by decide) rfl ?_
    refine sx_goto (pc := 35) (tgt := 3) dX4_addDigits_35 (by decide) ?_
    exact l_dig0 (Ch.trans hC k_27)
set_option maxHeartbeats 1000000 in
set_option maxRecDepth 20000 in
theorem l_dig2 {X : xD} {Ex : State → Prop} (hE : xEs X false shA.length Ex) {l : Launch} {k : Nat} (hR : shA[k]? = some (shReply k) ∧ shA[k + 1]? = some (shI 13)) (hk : RK k) {μ0 μ : xM} {v : Int32} (hC : Ch (SR k) μ0 μ) : sx l (rmN 1) X Ex false kX4_addDigits shA.length (xZ X false shA.length (fun r sh' μ' => shA = sh' ∧ r = none ∧ Ch (SR k) μ0 μ') 0 0) 3 [some (.ref (X.2 + k)), some (.int v), some (.int 10)] [] shA μ 0 0 := by
  refine sx_iload_n (pc := 3) dX4_addDigits_3 rfl rfl ?_
  refine sx_if_le (pc := 4) (tgt := 38) dX4_addDigits_4 (by decide) (fun c_4 => absurd c_4 (by decide)) (fun c_4 => ?_)
  refine sx_iload_n (pc := 7) dX4_addDigits_7 rfl rfl ?_
  refine sx_iload_n (pc := 8) dX4_addDigits_8 rfl rfl ?_
  refine sx_icmp_ge (pc := 9) (tgt := 17) dX4_addDigits_9 (by decide) (fun c_9 => ?_) (fun c_9 => ?_)
  · have h_9t := c_9
    refine sx_aload_n (pc := 17) dX4_addDigits_17 rfl rfl ?_
    refine sx_bipush (pc := 18) (v := 48) dX4_addDigits_18 (by decide) ?_
    refine sx_iload_n (pc := 20) dX4_addDigits_20 rfl rfl ?_
    refine sx_iload_n (pc := 21) dX4_addDigits_21 rfl rfl ?_
    refine sx_idiv (pc := 22) dX4_addDigits_22 (by decide) ?_
    refine sx_bipush (pc := 23) (v := 10) dX4_addDigits_23 (by decide) ?_
    refine sx_irem (pc := 25) dX4_addDigits_25 (by decide) ?_
    refine sx_iadd (pc := 26) dX4_addDigits_26 ?_
    refine sx_callV (pc := 27) (As := [.int (48 + ((v / 10) - (v / 10) / 10 * 10))]) dX4_addDigits_27 (c_add X Ex hE μ k hR hk _) mX4_add lm_X4_19 rfl hR.1 rfl ⟨Nat.le_of_ble_eq_true rfl, Nat.le_of_ble_eq_true rfl⟩ ⟨Nat.le_of_ble_eq_true rfl, Nat.le_of_ble_eq_true rfl⟩ (Nat.le_of_ble_eq_true rfl) hE (fun r_27 sh1 μ1 h_27 => ?_)
    obtain ⟨rfl, rfl, k_27⟩ := h_27
    refine sx_iload_n (pc := 30) dX4_addDigits_30 rfl rfl ?_
    refine sx_bipush (pc := 31) (v := 10) dX4_addDigits_31 (by decide) ?_
    refine sx_idiv (pc := 33) dX4_addDigits_33 (by decide) ?_
    refine sx_istore_n (pc := 34) (L' := [some (.ref (X.2 + k)), some (.int v), some (.int 1)]) dX4_addDigits_34 rfl (by decide) rfl ?_
    refine sx_goto (pc := 35) (tgt := 3) dX4_addDigits_35 (by decide) ?_
    exact l_dig1 hE hR hk (Ch.trans hC k_27)
  · have h_9f := c_9
    refine sx_iload_n (pc := 12) dX4_addDigits_12 rfl rfl ?_
    refine sx_iconst (pc := 13) (v := 1) dX4_addDigits_13 (by decide) ?_
    refine sx_icmp_ne (pc := 14) (tgt := 30) dX4_addDigits_14 (by decide) (fun c_14 => ?_) (fun c_14 => absurd c_14 (by decide))
    refine sx_iload_n (pc := 30) dX4_addDigits_30 rfl rfl ?_
    refine sx_bipush (pc := 31) (v := 10) dX4_addDigits_31 (by decide) ?_
    refine sx_idiv (pc := 33) dX4_addDigits_33 (by decide) ?_
    refine sx_istore_n (pc := 34) (L' := [some (.ref (X.2 + k)), some (.int v), some (.int 1)]) dX4_addDigits_34 rfl (by decide) rfl ?_
    refine sx_goto (pc := 35) (tgt := 3) dX4_addDigits_35 (by decide) ?_
    exact l_dig1 hE hR hk hC
set_option maxHeartbeats 1000000 in
set_option maxRecDepth 20000 in
theorem l_dig3 {X : xD} {Ex : State → Prop} (hE : xEs X false shA.length Ex) {l : Launch} {k : Nat} (hR : shA[k]? = some (shReply k) ∧ shA[k + 1]? = some (shI 13)) (hk : RK k) {μ0 μ : xM} {v : Int32} (hC : Ch (SR k) μ0 μ) : sx l (rmN 1) X Ex false kX4_addDigits shA.length (xZ X false shA.length (fun r sh' μ' => shA = sh' ∧ r = none ∧ Ch (SR k) μ0 μ') 0 0) 3 [some (.ref (X.2 + k)), some (.int v), some (.int 100)] [] shA μ 0 0 := by
  refine sx_iload_n (pc := 3) dX4_addDigits_3 rfl rfl ?_
  refine sx_if_le (pc := 4) (tgt := 38) dX4_addDigits_4 (by decide) (fun c_4 => absurd c_4 (by decide)) (fun c_4 => ?_)
  refine sx_iload_n (pc := 7) dX4_addDigits_7 rfl rfl ?_
  refine sx_iload_n (pc := 8) dX4_addDigits_8 rfl rfl ?_
  refine sx_icmp_ge (pc := 9) (tgt := 17) dX4_addDigits_9 (by decide) (fun c_9 => ?_) (fun c_9 => ?_)
  · have h_9t := c_9
    refine sx_aload_n (pc := 17) dX4_addDigits_17 rfl rfl ?_
    refine sx_bipush (pc := 18) (v := 48) dX4_addDigits_18 (by decide) ?_
    refine sx_iload_n (pc := 20) dX4_addDigits_20 rfl rfl ?_
    refine sx_iload_n (pc := 21) dX4_addDigits_21 rfl rfl ?_
    refine sx_idiv (pc := 22) dX4_addDigits_22 (by decide) ?_
    refine sx_bipush (pc := 23) (v := 10) dX4_addDigits_23 (by decide) ?_
    refine sx_irem (pc := 25) dX4_addDigits_25 (by decide) ?_
    refine sx_iadd (pc := 26) dX4_addDigits_26 ?_
    refine sx_callV (pc := 27) (As := [.int (48 + ((v / 100) - (v / 100) / 10 * 10))]) dX4_addDigits_27 (c_add X Ex hE μ k hR hk _) mX4_add lm_X4_19 rfl hR.1 rfl ⟨Nat.le_of_ble_eq_true rfl, Nat.le_of_ble_eq_true rfl⟩ ⟨Nat.le_of_ble_eq_true rfl, Nat.le_of_ble_eq_true rfl⟩ (Nat.le_of_ble_eq_true rfl) hE (fun r_27 sh1 μ1 h_27 => ?_)
    obtain ⟨rfl, rfl, k_27⟩ := h_27
    refine sx_iload_n (pc := 30) dX4_addDigits_30 rfl rfl ?_
    refine sx_bipush (pc := 31) (v := 10) dX4_addDigits_31 (by decide) ?_
    refine sx_idiv (pc := 33) dX4_addDigits_33 (by decide) ?_
    refine sx_istore_n (pc := 34) (L' := [some (.ref (X.2 + k)), some (.int v), some (.int 10)]) dX4_addDigits_34 rfl (by decide) rfl ?_
    refine sx_goto (pc := 35) (tgt := 3) dX4_addDigits_35 (by decide) ?_
    exact l_dig2 hE hR hk (Ch.trans hC k_27)
  · have h_9f := c_9
    refine sx_iload_n (pc := 12) dX4_addDigits_12 rfl rfl ?_
    refine sx_iconst (pc := 13) (v := 1) dX4_addDigits_13 (by decide) ?_
    refine sx_icmp_ne (pc := 14) (tgt := 30) dX4_addDigits_14 (by decide) (fun c_14 => ?_) (fun c_14 => absurd c_14 (by decide))
    refine sx_iload_n (pc := 30) dX4_addDigits_30 rfl rfl ?_
    refine sx_bipush (pc := 31) (v := 10) dX4_addDigits_31 (by decide) ?_
    refine sx_idiv (pc := 33) dX4_addDigits_33 (by decide) ?_
    refine sx_istore_n (pc := 34) (L' := [some (.ref (X.2 + k)), some (.int v), some (.int 10)]) dX4_addDigits_34 rfl (by decide) rfl ?_
    refine sx_goto (pc := 35) (tgt := 3) dX4_addDigits_35 (by decide) ?_
    exact l_dig2 hE hR hk hC
set_option maxHeartbeats 1000000 in
set_option maxRecDepth 20000 in
theorem l_dig4 {X : xD} {Ex : State → Prop} (hE : xEs X false shA.length Ex) {l : Launch} {k : Nat} (hR : shA[k]? = some (shReply k) ∧ shA[k + 1]? = some (shI 13)) (hk : RK k) {μ0 μ : xM} {v : Int32} (hC : Ch (SR k) μ0 μ) : sx l (rmN 1) X Ex false kX4_addDigits shA.length (xZ X false shA.length (fun r sh' μ' => shA = sh' ∧ r = none ∧ Ch (SR k) μ0 μ') 0 0) 3 [some (.ref (X.2 + k)), some (.int v), some (.int 1000)] [] shA μ 0 0 := by
  refine sx_iload_n (pc := 3) dX4_addDigits_3 rfl rfl ?_
  refine sx_if_le (pc := 4) (tgt := 38) dX4_addDigits_4 (by decide) (fun c_4 => absurd c_4 (by decide)) (fun c_4 => ?_)
  refine sx_iload_n (pc := 7) dX4_addDigits_7 rfl rfl ?_
  refine sx_iload_n (pc := 8) dX4_addDigits_8 rfl rfl ?_
  refine sx_icmp_ge (pc := 9) (tgt := 17) dX4_addDigits_9 (by decide) (fun c_9 => ?_) (fun c_9 => ?_)
  · have h_9t := c_9
    refine sx_aload_n (pc := 17) dX4_addDigits_17 rfl rfl ?_
    refine sx_bipush (pc := 18) (v := 48) dX4_addDigits_18 (by decide) ?_
    refine sx_iload_n (pc := 20) dX4_addDigits_20 rfl rfl ?_
    refine sx_iload_n (pc := 21) dX4_addDigits_21 rfl rfl ?_
    refine sx_idiv (pc := 22) dX4_addDigits_22 (by decide) ?_
    refine sx_bipush (pc := 23) (v := 10) dX4_addDigits_23 (by decide) ?_
    refine sx_irem (pc := 25) dX4_addDigits_25 (by decide) ?_
    refine sx_iadd (pc := 26) dX4_addDigits_26 ?_
    refine sx_callV (pc := 27) (As := [.int (48 + ((v / 1000) - (v / 1000) / 10 * 10))]) dX4_addDigits_27 (c_add X Ex hE μ k hR hk _) mX4_add lm_X4_19 rfl hR.1 rfl ⟨Nat.le_of_ble_eq_true rfl, Nat.le_of_ble_eq_true rfl⟩ ⟨Nat.le_of_ble_eq_true rfl, Nat.le_of_ble_eq_true rfl⟩ (Nat.le_of_ble_eq_true rfl) hE (fun r_27 sh1 μ1 h_27 => ?_)
    obtain ⟨rfl, rfl, k_27⟩ := h_27
    refine sx_iload_n (pc := 30) dX4_addDigits_30 rfl rfl ?_
    refine sx_bipush (pc := 31) (v := 10) dX4_addDigits_31 (by decide) ?_
    refine sx_idiv (pc := 33) dX4_addDigits_33 (by decide) ?_
    refine sx_istore_n (pc := 34) (L' := [some (.ref (X.2 + k)), some (.int v), some (.int 100)]) dX4_addDigits_34 rfl (by decide) rfl ?_
    refine sx_goto (pc := 35) (tgt := 3) dX4_addDigits_35 (by decide) ?_
    exact l_dig3 hE hR hk (Ch.trans hC k_27)
  · have h_9f := c_9
    refine sx_iload_n (pc := 12) dX4_addDigits_12 rfl rfl ?_
    refine sx_iconst (pc := 13) (v := 1) dX4_addDigits_13 (by decide) ?_
    refine sx_icmp_ne (pc := 14) (tgt := 30) dX4_addDigits_14 (by decide) (fun c_14 => ?_) (fun c_14 => absurd c_14 (by decide))
    refine sx_iload_n (pc := 30) dX4_addDigits_30 rfl rfl ?_
    refine sx_bipush (pc := 31) (v := 10) dX4_addDigits_31 (by decide) ?_
    refine sx_idiv (pc := 33) dX4_addDigits_33 (by decide) ?_
    refine sx_istore_n (pc := 34) (L' := [some (.ref (X.2 + k)), some (.int v), some (.int 100)]) dX4_addDigits_34 rfl (by decide) rfl ?_
    refine sx_goto (pc := 35) (tgt := 3) dX4_addDigits_35 (by decide) ?_
    exact l_dig3 hE hR hk hC
set_option maxHeartbeats 1000000 in
set_option maxRecDepth 20000 in
theorem l_dig5 {X : xD} {Ex : State → Prop} (hE : xEs X false shA.length Ex) {l : Launch} {k : Nat} (hR : shA[k]? = some (shReply k) ∧ shA[k + 1]? = some (shI 13)) (hk : RK k) {μ0 μ : xM} {v : Int32} (hC : Ch (SR k) μ0 μ) : sx l (rmN 1) X Ex false kX4_addDigits shA.length (xZ X false shA.length (fun r sh' μ' => shA = sh' ∧ r = none ∧ Ch (SR k) μ0 μ') 0 0) 3 [some (.ref (X.2 + k)), some (.int v), some (.int 10000)] [] shA μ 0 0 := by
  refine sx_iload_n (pc := 3) dX4_addDigits_3 rfl rfl ?_
  refine sx_if_le (pc := 4) (tgt := 38) dX4_addDigits_4 (by decide) (fun c_4 => absurd c_4 (by decide)) (fun c_4 => ?_)
  refine sx_iload_n (pc := 7) dX4_addDigits_7 rfl rfl ?_
  refine sx_iload_n (pc := 8) dX4_addDigits_8 rfl rfl ?_
  refine sx_icmp_ge (pc := 9) (tgt := 17) dX4_addDigits_9 (by decide) (fun c_9 => ?_) (fun c_9 => ?_)
  · have h_9t := c_9
    refine sx_aload_n (pc := 17) dX4_addDigits_17 rfl rfl ?_
    refine sx_bipush (pc := 18) (v := 48) dX4_addDigits_18 (by decide) ?_
    refine sx_iload_n (pc := 20) dX4_addDigits_20 rfl rfl ?_
    refine sx_iload_n (pc := 21) dX4_addDigits_21 rfl rfl ?_
    refine sx_idiv (pc := 22) dX4_addDigits_22 (by decide) ?_
    refine sx_bipush (pc := 23) (v := 10) dX4_addDigits_23 (by decide) ?_
    refine sx_irem (pc := 25) dX4_addDigits_25 (by decide) ?_
    refine sx_iadd (pc := 26) dX4_addDigits_26 ?_
    refine sx_callV (pc := 27) (As := [.int (48 + ((v / 10000) - (v / 10000) / 10 * 10))]) dX4_addDigits_27 (c_add X Ex hE μ k hR hk _) mX4_add lm_X4_19 rfl hR.1 rfl ⟨Nat.le_of_ble_eq_true rfl, Nat.le_of_ble_eq_true rfl⟩ ⟨Nat.le_of_ble_eq_true rfl, Nat.le_of_ble_eq_true rfl⟩ (Nat.le_of_ble_eq_true rfl) hE (fun r_27 sh1 μ1 h_27 => ?_)
    obtain ⟨rfl, rfl, k_27⟩ := h_27
    refine sx_iload_n (pc := 30) dX4_addDigits_30 rfl rfl ?_
    refine sx_bipush (pc := 31) (v := 10) dX4_addDigits_31 (by decide) ?_
    refine sx_idiv (pc := 33) dX4_addDigits_33 (by decide) ?_
    refine sx_istore_n (pc := 34) (L' := [some (.ref (X.2 + k)), some (.int v), some (.int 1000)]) dX4_addDigits_34 rfl (by decide) rfl ?_
    refine sx_goto (pc := 35) (tgt := 3) dX4_addDigits_35 (by decide) ?_
    exact l_dig4 hE hR hk (Ch.trans hC k_27)
  · have h_9f := c_9
    refine sx_iload_n (pc := 12) dX4_addDigits_12 rfl rfl ?_
    refine sx_iconst (pc := 13) (v := 1) dX4_addDigits_13 (by decide) ?_
    refine sx_icmp_ne (pc := 14) (tgt := 30) dX4_addDigits_14 (by decide) (fun c_14 => ?_) (fun c_14 => absurd c_14 (by decide))
    refine sx_iload_n (pc := 30) dX4_addDigits_30 rfl rfl ?_
    refine sx_bipush (pc := 31) (v := 10) dX4_addDigits_31 (by decide) ?_
    refine sx_idiv (pc := 33) dX4_addDigits_33 (by decide) ?_
    refine sx_istore_n (pc := 34) (L' := [some (.ref (X.2 + k)), some (.int v), some (.int 1000)]) dX4_addDigits_34 rfl (by decide) rfl ?_
    refine sx_goto (pc := 35) (tgt := 3) dX4_addDigits_35 (by decide) ?_
    exact l_dig4 hE hR hk hC
set_option maxHeartbeats 1000000 in
set_option maxRecDepth 20000 in
theorem l_dig6 {X : xD} {Ex : State → Prop} (hE : xEs X false shA.length Ex) {l : Launch} {k : Nat} (hR : shA[k]? = some (shReply k) ∧ shA[k + 1]? = some (shI 13)) (hk : RK k) {μ0 μ : xM} {v : Int32} (hC : Ch (SR k) μ0 μ) : sx l (rmN 1) X Ex false kX4_addDigits shA.length (xZ X false shA.length (fun r sh' μ' => shA = sh' ∧ r = none ∧ Ch (SR k) μ0 μ') 0 0) 3 [some (.ref (X.2 + k)), some (.int v), some (.int 100000)] [] shA μ 0 0 := by
  refine sx_iload_n (pc := 3) dX4_addDigits_3 rfl rfl ?_
  refine sx_if_le (pc := 4) (tgt := 38) dX4_addDigits_4 (by decide) (fun c_4 => absurd c_4 (by decide)) (fun c_4 => ?_)
  refine sx_iload_n (pc := 7) dX4_addDigits_7 rfl rfl ?_
  refine sx_iload_n (pc := 8) dX4_addDigits_8 rfl rfl ?_
  refine sx_icmp_ge (pc := 9) (tgt := 17) dX4_addDigits_9 (by decide) (fun c_9 => ?_) (fun c_9 => ?_)
  · have h_9t := c_9
    refine sx_aload_n (pc := 17) dX4_addDigits_17 rfl rfl ?_
    refine sx_bipush (pc := 18) (v := 48) dX4_addDigits_18 (by decide) ?_
    refine sx_iload_n (pc := 20) dX4_addDigits_20 rfl rfl ?_
    refine sx_iload_n (pc := 21) dX4_addDigits_21 rfl rfl ?_
    refine sx_idiv (pc := 22) dX4_addDigits_22 (by decide) ?_
    refine sx_bipush (pc := 23) (v := 10) dX4_addDigits_23 (by decide) ?_
    refine sx_irem (pc := 25) dX4_addDigits_25 (by decide) ?_
    refine sx_iadd (pc := 26) dX4_addDigits_26 ?_
    refine sx_callV (pc := 27) (As := [.int (48 + ((v / 100000) - (v / 100000) / 10 * 10))]) dX4_addDigits_27 (c_add X Ex hE μ k hR hk _) mX4_add lm_X4_19 rfl hR.1 rfl ⟨Nat.le_of_ble_eq_true rfl, Nat.le_of_ble_eq_true rfl⟩ ⟨Nat.le_of_ble_eq_true rfl, Nat.le_of_ble_eq_true rfl⟩ (Nat.le_of_ble_eq_true rfl) hE (fun r_27 sh1 μ1 h_27 => ?_)
    obtain ⟨rfl, rfl, k_27⟩ := h_27
    refine sx_iload_n (pc := 30) dX4_addDigits_30 rfl rfl ?_
    refine sx_bipush (pc := 31) (v := 10) dX4_addDigits_31 (by decide) ?_
    refine sx_idiv (pc := 33) dX4_addDigits_33 (by decide) ?_
    refine sx_istore_n (pc := 34) (L' := [some (.ref (X.2 + k)), some (.int v), some (.int 10000)]) dX4_addDigits_34 rfl (by decide) rfl ?_
    refine sx_goto (pc := 35) (tgt := 3) dX4_addDigits_35 (by decide) ?_
    exact l_dig5 hE hR hk (Ch.trans hC k_27)
  · have h_9f := c_9
    refine sx_iload_n (pc := 12) dX4_addDigits_12 rfl rfl ?_
    refine sx_iconst (pc := 13) (v := 1) dX4_addDigits_13 (by decide) ?_
    refine sx_icmp_ne (pc := 14) (tgt := 30) dX4_addDigits_14 (by decide) (fun c_14 => ?_) (fun c_14 => absurd c_14 (by decide))
    refine sx_iload_n (pc := 30) dX4_addDigits_30 rfl rfl ?_
    refine sx_bipush (pc := 31) (v := 10) dX4_addDigits_31 (by decide) ?_
    refine sx_idiv (pc := 33) dX4_addDigits_33 (by decide) ?_
    refine sx_istore_n (pc := 34) (L' := [some (.ref (X.2 + k)), some (.int v), some (.int 10000)]) dX4_addDigits_34 rfl (by decide) rfl ?_
    refine sx_goto (pc := 35) (tgt := 3) dX4_addDigits_35 (by decide) ?_
    exact l_dig5 hE hR hk hC
set_option maxHeartbeats 1000000 in
set_option maxRecDepth 20000 in
theorem c_addDigits (X : xD) (Ex : State → Prop) (hE : xEs X false shA.length Ex) (μ : xM) (k : Nat) (hR : shA[k]? = some (shReply k) ∧ shA[k + 1]? = some (shI 13)) (hk : RK k) (v : Int32) : Ct X Ex false yX4_addDigits kX4_addDigits (rmN 1) [.ref (X.2 + k), .int v] shA μ (fun r sh' μ' => shA = sh' ∧ r = none ∧ Ch (SR k) μ μ') := by
  refine Ct.of (L0 := [some (.ref (X.2 + k)), some (.int v), none]) (by decide) rfl (fun h => by cases h) (by simp [Value.category]) (Nat.le_of_ble_eq_true rfl) rfl (fun l => ?_)
  refine sx_ldc (pc := 0) dX4_addDigits_0 ld_X4_55 ?_
  refine sx_istore_n (pc := 2) (L' := [some (.ref (X.2 + k)), some (.int v), some (.int 100000)]) dX4_addDigits_2 rfl (by decide) rfl ?_
  exact l_dig6 hE hR hk Ch.rf
set_option maxHeartbeats 1000000 in
set_option maxRecDepth 20000 in
theorem c_writeVerdict (X : xD) (Ex : State → Prop) (hE : xEs X false shA.length Ex) (μ : xM) (k : Nat) (hR : shA[k]? = some (shReply k) ∧ shA[k + 1]? = some (shI 13)) (hk : RK k) (y v : Int32) : Ct X Ex false yX4_writeVerdict kX4_writeVerdict (rmN 3) [.ref (X.2 + k), .ref (X.2 + 94), .int y, .int v] shA μ (fun r sh' μ' => shA = sh' ∧ r = none ∧ Ch (SR k) μ μ') := by
  refine Ct.of (L0 := [some (.ref (X.2 + k)), some (.ref (X.2 + 94)), some (.int y), some (.int v)]) (by decide) rfl (fun h => by cases h) (by simp [Value.category]) (Nat.le_of_ble_eq_true rfl) rfl (fun l => ?_)
  refine sx_aload_n (pc := 0) dX4_writeVerdict_0 rfl rfl ?_
  refine sx_iconst (pc := 1) (v := 0) dX4_writeVerdict_1 (by decide) ?_
  refine sx_puti (pc := 2) (ci := 4) (j := 1) (ty := .int) dX4_writeVerdict_2 rfl hR.1 rfl (by decide) lf_X4_15 rfl (by decide +kernel) rfl rfl (fun μ1 hμ1 => ?_)
  refine sx_aload_n (pc := 5) dX4_writeVerdict_5 rfl rfl ?_
  refine sx_iload_n (pc := 6) dX4_writeVerdict_6 rfl rfl ?_
  refine sx_if_eq (pc := 7) (tgt := 15) dX4_writeVerdict_7 (by decide) (fun c_7 => ?_) (fun c_7 => ?_)
  · have h_7t := c_7
    refine sx_bipush (pc := 15) (v := 88) dX4_writeVerdict_15 (by decide) ?_
    refine sx_callV (pc := 17) (As := [.int 88]) dX4_writeVerdict_17 (c_add X Ex hE μ1 k hR hk _) mX4_add lm_X4_19 rfl hR.1 rfl ⟨Nat.le_of_ble_eq_true rfl, Nat.le_of_ble_eq_true rfl⟩ ⟨Nat.le_of_ble_eq_true rfl, Nat.le_of_ble_eq_true rfl⟩ (Nat.le_of_ble_eq_true rfl) hE (fun r_17 sh1 μ2 h_17 => ?_)
    obtain ⟨rfl, rfl, k_17⟩ := h_17
    refine sx_aload_n (pc := 20) dX4_writeVerdict_20 rfl rfl ?_
    refine sx_iload_n (pc := 21) dX4_writeVerdict_21 rfl rfl ?_
    refine sx_callV (pc := 22) (As := [.int v]) dX4_writeVerdict_22 (c_addDigits X Ex hE μ2 k hR hk _) mX4_addDigits lm_X4_30 rfl hR.1 rfl ⟨Nat.le_of_ble_eq_true rfl, Nat.le_of_ble_eq_true rfl⟩ ⟨Nat.le_of_ble_eq_true rfl, Nat.le_of_ble_eq_true rfl⟩ (Nat.le_of_ble_eq_true rfl) hE (fun r_22 sh1 μ3 h_22 => ?_)
    obtain ⟨rfl, rfl, k_22⟩ := h_22
    refine sx_aload_n (pc := 25) dX4_writeVerdict_25 rfl rfl ?_
    refine sx_aload_n (pc := 26) dX4_writeVerdict_26 rfl rfl ?_
    refine sx_callV (pc := 27) (As := [.ref (X.2 + 94)]) dX4_writeVerdict_27 (c_addSource X Ex hE μ3 k hR hk) mX4_addSource lm_X4_26 rfl hR.1 rfl ⟨Nat.le_of_ble_eq_true rfl, Nat.le_of_ble_eq_true rfl⟩ ⟨Nat.le_of_ble_eq_true rfl, Nat.le_of_ble_eq_true rfl⟩ (Nat.le_of_ble_eq_true rfl) hE (fun r_27 sh1 μ4 h_27 => ?_)
    obtain ⟨rfl, rfl, k_27⟩ := h_27
    exact sx_vret (pc := 30) dX4_writeVerdict_30 rfl (Nat.zero_le _) (Nat.zero_le _) (⟨rfl, rfl, (Ch.trans (Ch.trans (Ch.trans (Ch.put (Ch.rf) hμ1 (by omega) (LB.len hμ1 hk (by decide))) k_17) k_22) k_27)⟩)
  · have h_7f := c_7
    refine sx_bipush (pc := 10) (v := 89) dX4_writeVerdict_10 (by decide) ?_
    refine sx_goto (pc := 12) (tgt := 17) dX4_writeVerdict_12 (by decide) ?_
    refine sx_callV (pc := 17) (As := [.int 89]) dX4_writeVerdict_17 (c_add X Ex hE μ1 k hR hk _) mX4_add lm_X4_19 rfl hR.1 rfl ⟨Nat.le_of_ble_eq_true rfl, Nat.le_of_ble_eq_true rfl⟩ ⟨Nat.le_of_ble_eq_true rfl, Nat.le_of_ble_eq_true rfl⟩ (Nat.le_of_ble_eq_true rfl) hE (fun r_17 sh1 μ5 h_17 => ?_)
    obtain ⟨rfl, rfl, k_17⟩ := h_17
    refine sx_aload_n (pc := 20) dX4_writeVerdict_20 rfl rfl ?_
    refine sx_iload_n (pc := 21) dX4_writeVerdict_21 rfl rfl ?_
    refine sx_callV (pc := 22) (As := [.int v]) dX4_writeVerdict_22 (c_addDigits X Ex hE μ5 k hR hk _) mX4_addDigits lm_X4_30 rfl hR.1 rfl ⟨Nat.le_of_ble_eq_true rfl, Nat.le_of_ble_eq_true rfl⟩ ⟨Nat.le_of_ble_eq_true rfl, Nat.le_of_ble_eq_true rfl⟩ (Nat.le_of_ble_eq_true rfl) hE (fun r_22 sh1 μ6 h_22 => ?_)
    obtain ⟨rfl, rfl, k_22⟩ := h_22
    refine sx_aload_n (pc := 25) dX4_writeVerdict_25 rfl rfl ?_
    refine sx_aload_n (pc := 26) dX4_writeVerdict_26 rfl rfl ?_
    refine sx_callV (pc := 27) (As := [.ref (X.2 + 94)]) dX4_writeVerdict_27 (c_addSource X Ex hE μ6 k hR hk) mX4_addSource lm_X4_26 rfl hR.1 rfl ⟨Nat.le_of_ble_eq_true rfl, Nat.le_of_ble_eq_true rfl⟩ ⟨Nat.le_of_ble_eq_true rfl, Nat.le_of_ble_eq_true rfl⟩ (Nat.le_of_ble_eq_true rfl) hE (fun r_27 sh1 μ7 h_27 => ?_)
    obtain ⟨rfl, rfl, k_27⟩ := h_27
    exact sx_vret (pc := 30) dX4_writeVerdict_30 rfl (Nat.zero_le _) (Nat.zero_le _) (⟨rfl, rfl, (Ch.trans (Ch.trans (Ch.trans (Ch.put (Ch.rf) hμ1 (by omega) (LB.len hμ1 hk (by decide))) k_17) k_22) k_27)⟩)
end
section
/-! a copy of an array of ints; Math.min -/
section SXY
variable {l : Launch} {R : Room} {X : xD} {Ex : State → Prop} {fr : Bool} {K : xK} {n0 : Nat} {Z : List Frame → Array Value → State → State → Prop} {pc : Nat} {L : List (Option Value)} {st : List Value} {sh : List xS} {μ : xM} {cs ss : Nat}
theorem sx_copy {i k0 k1 na nb : Nat} {n : Int32} (hfr : fr = false) (hd : decode K.2.1 pc = .ok (.invokestatic i, 3)) (hl : Cond.methodLink K.1 i arraycopyName ∈ xws) (hs0 : sh[k0]? = some (shI na)) (hs1 : sh[k1]? = some (shI nb)) (h3 : ¬ n < 0) (h4 : n.toNatClampNeg ≤ na) (h5 : n.toNatClampNeg ≤ nb) (hf : 1 ≤ R.frames) (h8 : (st.map fun v => v.category).sum + (nativeFrameWords "java/lang/System" "arraycopy" 5 + 11) ≤ R.locals)
    (kk : ∀ μ' : xM, μ' = va_up μ k1 (va_cpy (μ k0) (μ k1) 0 0 n.toNatClampNeg) → sx l R X Ex fr K n0 Z (pc + 3) L st sh μ' cs ss) : sx l R X Ex fr K n0 Z pc L (.int n :: .int 0 :: .ref (X.2 + k1) :: .int 0 :: .ref (X.2 + k0) :: st) sh μ cs ss := by
  intro p e s m args below meth c H locs ls hC hH hL
  have hts := hC.2.2.2.2.2.2.1
  have hkl := (List.getElem?_eq_some_iff.mp hs1).1
  refine va_copyi (ty := .int) (n0 := na) (n1 := nb) (f := μ k0) (g := μ k1) hC.1 hC.2.1 (hC.2.2.1.trans hL.1.1.symm) hC.2.2.2.2.2.1 (hts _ hl) (hts _ (xw 441 (by decide +kernel))) (hts _ (xw 440 (by decide +kernel))) (hts _ (xw 48 (by decide +kernel))) hC.2.2.2.2.2.2.2.2.1 hH.1 (xwl_D hH.2.2.2.1) hH.2.1 k0 k1 1 1 (by rw [xwl_get μ hs0]; exact congrArg (fun z => some (X.2 + k0, z)) (xpic_i (X := X) (n := na) (f := μ k0) (by decide))) (by rw [xwl_get μ hs1]; exact congrArg (fun z => some (X.2 + k1, z)) (xpic_i (X := X) (n := nb) (f := μ k1) (by decide))) (xtys_at rfl) (xtys_at rfl) rfl (by decide) (by decide) h3 (by show 0 + _ ≤ _; omega) (by show 0 + _ ≤ _; omega) (fun _ _ => rfl) hf h8 hd (fun H1 locs1 hP hD hS => ?_)
  have e0 : (0 : Int32).toNatClampNeg = 0 := by decide
  rw [e0] at hP hD
  have hP' : va_P X.1.1 classes (xwl X sh (va_up μ k1 (va_cpy (μ k0) (μ k1) 0 0 n.toNatClampNeg))) H1 := by
    have e1 := xwl_set (X := X) (μ := μ) (s' := shI nb) (f := va_cpy (μ k0) (μ k1) 0 0 n.toNatClampNeg) hkl
    rw [xsame hs1] at e1
    rw [← e1]
    exact hP
  exact kk _ rfl p e s m args below meth c H1 locs1 ls hC ⟨hP', hS, hH.2.2.1, hH.2.2.2.1, fun h => by rw [hfr] at h; cases h⟩ hL
theorem sx_mmin {i : Nat} {x y : Int32} (hd : decode K.2.1 pc = .ok (.invokestatic i, 3)) (hl : Cond.methodLink K.1 i Lib.Math.min.name ∈ xws) (hf : 1 ≤ R.frames) (h8 : (st.map fun v => v.category).sum + 13 ≤ R.locals)
    (kk : sx l R X Ex fr K n0 Z (pc + 3) L (.int (if y < x then y else x) :: st) sh μ 0 0) : sx l R X Ex fr K n0 Z pc L (.int y :: .int x :: st) sh μ 0 0 := by
  intro p e s m args below meth c H locs ls hC hH hL
  have hts := hC.2.2.2.2.2.2.1
  exact va_mmin hC.1 hC.2.1 (hC.2.2.1.trans hL.1.1.symm) hC.2.2.2.2.2.1 (hts _ hl) (hts _ (xw 317 (by decide +kernel))) (hts _ (xw 47 (by decide +kernel))) (hts _ (xwc 318 rfl rfl)) hf h8 (Nat.zero_le _) (Nat.zero_le _) hd (kk p e s m args below meth c H locs ls hC hH hL)
end SXY
theorem Ch.up {S : Nat → Prop} {μ μ1 μ2 : xM} {k : Nat} {f : Nat → Int32} (h : Ch S μ μ1) (e : μ2 = va_up μ1 k f) (hs : S k) (hk : k ≠ 91 ∧ ∀ d, d < 6 → k ≠ 2 + 9 * d + 2 ∧ k ≠ 2 + 9 * d + 4) : Ch S μ μ2 := by
  have e2 : ∀ a, a ≠ k → μ2 a = μ1 a := fun a ha => by rw [e]; simp [va_up, ha]
  refine ⟨fun a ha => ?_, fun z => ?_⟩
  · rw [e2 a (fun q => ha (by rw [q]; exact hs)), h.1 a ha]
  · have z1 := h.2 z
    refine ⟨fun q hq => ?_, fun i hi => ?_⟩
    · rw [e2 q (fun w => by obtain ⟨d, hd, hc⟩ := hq; have := hk.2 d hd; omega)]
      exact z1.1 q hq
    · rw [e2 91 (fun w => hk.1 w.symm)]
      exact z1.2 i hi
set_option maxHeartbeats 1000000 in
set_option maxRecDepth 20000 in
theorem c_copy (X : xD) (Ex : State → Prop) (hE : xEs X false shA.length Ex) (μ : xM) (k k2 : Nat) (hR : shA[k]? = some (shReply k) ∧ shA[k + 1]? = some (shI 13)) (hk : RK k) (hR2 : shA[k2]? = some (shReply k2) ∧ shA[k2 + 1]? = some (shI 13)) (hk2 : RK k2) (hL : LB μ) : Ct X Ex false yX4_copy kX4_copy (rmN 1) [.ref (X.2 + k), .ref (X.2 + k2)] shA μ (fun r sh' μ' => shA = sh' ∧ r = none ∧ Ch (SR k) μ μ') := by
  refine Ct.of (L0 := [some (.ref (X.2 + k)), some (.ref (X.2 + k2))]) (by decide) rfl (fun h => by cases h) (by simp [Value.category]) (Nat.le_of_ble_eq_true rfl) rfl (fun l => ?_)
  refine sx_aload_n (pc := 0) dX4_copy_0 rfl rfl ?_
  refine sx_getr (pc := 1) (ci := 4) (j := 0) (r := k2 + 1) dX4_copy_1 rfl hR2.1 rfl (by decide) lf_X4_11 ?_
  refine sx_iconst (pc := 4) (v := 0) dX4_copy_4 (by decide) ?_
  refine sx_aload_n (pc := 5) dX4_copy_5 rfl rfl ?_
  refine sx_getr (pc := 6) (ci := 4) (j := 0) (r := k + 1) dX4_copy_6 rfl hR.1 rfl (by decide) lf_X4_11 ?_
  refine sx_iconst (pc := 9) (v := 0) dX4_copy_9 (by decide) ?_
  refine sx_bipush (pc := 10) (v := 13) dX4_copy_10 (by decide) ?_
  refine sx_copy (pc := 12) (k0 := k2 + 1) (k1 := k + 1) (na := 13) (nb := 13) rfl dX4_copy_12 lm_X4_33 hR2.2 hR.2 (by decide) (by decide) (by decide) (Nat.le_of_ble_eq_true rfl) (Nat.le_of_ble_eq_true rfl) (fun μ1 hμ1 => ?_)
  refine sx_aload_n (pc := 15) dX4_copy_15 rfl rfl ?_
  refine sx_aload_n (pc := 16) dX4_copy_16 rfl rfl ?_
  refine sx_geti (pc := 17) (ci := 4) (j := 1) dX4_copy_17 rfl hR2.1 rfl (by decide) lf_X4_15 ?_
  refine sx_puti (pc := 20) (ci := 4) (j := 1) (ty := .int) dX4_copy_20 rfl hR.1 rfl (by decide) lf_X4_15 rfl (by decide +kernel) rfl rfl (fun μ2 hμ2 => ?_)
  exact sx_vret (pc := 23) dX4_copy_23 rfl (Nat.zero_le _) (Nat.zero_le _) (⟨rfl, rfl, (Ch.put (Ch.up (Ch.rf) hμ1 (by omega) hk.off) hμ2 (by omega) (LB.len hμ2 hk (by have e : k2 ≠ k + 1 := (fun w => by obtain ⟨d, hd, hc⟩ := hk; obtain ⟨d2, hd2, hc2⟩ := hk2; omega); rw [hμ1]; simp only [va_up, if_neg e]; exact hL.1 k2 hk2)))⟩)
set_option maxHeartbeats 1000000 in
set_option maxRecDepth 20000 in
theorem c_forget (X : xD) (Ex : State → Prop) (hE : xEs X false shA.length Ex) (μ : xM)  : Ct X Ex false yX3_forget kX3_forget (rmN 0) [.ref (X.2 + 94)] shA μ (fun r sh' μ' => shA = sh' ∧ r = none ∧ Ch SM μ μ') := by
  refine Ct.of (L0 := [some (.ref (X.2 + 94))]) (by decide) rfl (fun h => by cases h) (by simp [Value.category]) (Nat.le_of_ble_eq_true rfl) rfl (fun l => ?_)
  refine sx_aload_n (pc := 0) dX3_forget_0 rfl rfl ?_
  refine sx_iconst (pc := 1) (v := 0) dX3_forget_1 (by decide) ?_
  refine sx_puti (pc := 2) (ci := 3) (j := 0) (ty := .int) dX3_forget_2 rfl s_Me rfl (by decide) lf_X3_9 rfl (by decide +kernel) rfl rfl (fun μ1 hμ1 => ?_)
  refine sx_aload_n (pc := 5) dX3_forget_5 rfl rfl ?_
  refine sx_iconst (pc := 6) (v := (-1)) dX3_forget_6 (by decide) ?_
  refine sx_puti (pc := 7) (ci := 3) (j := 1) (ty := .int) dX3_forget_7 rfl s_Me rfl (by decide) lf_X3_15 rfl (by decide +kernel) rfl rfl (fun μ2 hμ2 => ?_)
  refine sx_aload_n (pc := 10) dX3_forget_10 rfl rfl ?_
  refine sx_iconst (pc := 11) (v := (-1)) dX3_forget_11 (by decide) ?_
  refine sx_puti (pc := 12) (ci := 3) (j := 2) (ty := .int) dX3_forget_12 rfl s_Me rfl (by decide) lf_X3_18 rfl (by decide +kernel) rfl rfl (fun μ3 hμ3 => ?_)
  refine sx_aload_n (pc := 15) dX3_forget_15 rfl rfl ?_
  refine sx_iconst (pc := 16) (v := (-1)) dX3_forget_16 (by decide) ?_
  refine sx_puti (pc := 17) (ci := 3) (j := 3) (ty := .int) dX3_forget_17 rfl s_Me rfl (by decide) lf_X3_21 rfl (by decide +kernel) rfl rfl (fun μ4 hμ4 => ?_)
  refine sx_aload_n (pc := 20) dX3_forget_20 rfl rfl ?_
  refine sx_iconst (pc := 21) (v := (-1)) dX3_forget_21 (by decide) ?_
  refine sx_puti (pc := 22) (ci := 3) (j := 4) (ty := .int) dX3_forget_22 rfl s_Me rfl (by decide) lf_X3_24 rfl (by decide +kernel) rfl rfl (fun μ5 hμ5 => ?_)
  exact sx_vret (pc := 25) dX3_forget_25 rfl (Nat.zero_le _) (Nat.zero_le _) (⟨rfl, rfl, (Ch.put (Ch.put (Ch.put (Ch.put (Ch.put (Ch.rf) hμ1 (by omega) (LB.off hμ1 ⟨by omega, fun _ _ => by omega⟩)) hμ2 (by omega) (LB.off hμ2 ⟨by omega, fun _ _ => by omega⟩)) hμ3 (by omega) (LB.off hμ3 ⟨by omega, fun _ _ => by omega⟩)) hμ4 (by omega) (LB.off hμ4 ⟨by omega, fun _ _ => by omega⟩)) hμ5 (by omega) (LB.off hμ5 ⟨by omega, fun _ _ => by omega⟩))⟩)
set_option maxHeartbeats 1000000 in
set_option maxRecDepth 20000 in
theorem c_fill (X : xD) (Ex : State → Prop) (hE : xEs X false shA.length Ex) (μ : xM) (a b c : Int32) : Ct X Ex false yX3_fillFromRow kX3_fillFromRow (rmN 1) [.ref (X.2 + 94), .int a, .int b, .int c] shA μ (fun r sh' μ' => shA = sh' ∧ r = none ∧ Ch SM μ μ' ∧ μ' 94 0 = a ∧ μ' 94 3 = b ∧ μ' 94 2 = c) := by
  refine Ct.of (L0 := [some (.ref (X.2 + 94)), some (.int a), some (.int b), some (.int c)]) (by decide) rfl (fun h => by cases h) (by simp [Value.category]) (Nat.le_of_ble_eq_true rfl) rfl (fun l => ?_)
  refine sx_aload_n (pc := 0) dX3_fillFromRow_0 rfl rfl ?_
  refine sx_callV (pc := 1) (As := []) dX3_fillFromRow_1 (c_forget X Ex hE μ) mX3_forget lm_X3_27 rfl s_Me rfl ⟨Nat.le_of_ble_eq_true rfl, Nat.le_of_ble_eq_true rfl⟩ ⟨Nat.le_of_ble_eq_true rfl, Nat.le_of_ble_eq_true rfl⟩ (Nat.le_of_ble_eq_true rfl) hE (fun r_1 sh1 μ1 h_1 => ?_)
  obtain ⟨rfl, rfl, k_1⟩ := h_1
  refine sx_aload_n (pc := 4) dX3_fillFromRow_4 rfl rfl ?_
  refine sx_iload_n (pc := 5) dX3_fillFromRow_5 rfl rfl ?_
  refine sx_puti (pc := 6) (ci := 3) (j := 0) (ty := .int) dX3_fillFromRow_6 rfl s_Me rfl (by decide) lf_X3_9 rfl (by decide +kernel) rfl rfl (fun μ2 hμ2 => ?_)
  refine sx_aload_n (pc := 9) dX3_fillFromRow_9 rfl rfl ?_
  refine sx_iload_n (pc := 10) dX3_fillFromRow_10 rfl rfl ?_
  refine sx_puti (pc := 11) (ci := 3) (j := 3) (ty := .int) dX3_fillFromRow_11 rfl s_Me rfl (by decide) lf_X3_21 rfl (by decide +kernel) rfl rfl (fun μ3 hμ3 => ?_)
  refine sx_aload_n (pc := 14) dX3_fillFromRow_14 rfl rfl ?_
  refine sx_iload_n (pc := 15) dX3_fillFromRow_15 rfl rfl ?_
  refine sx_puti (pc := 16) (ci := 3) (j := 2) (ty := .int) dX3_fillFromRow_16 rfl s_Me rfl (by decide) lf_X3_18 rfl (by decide +kernel) rfl rfl (fun μ4 hμ4 => ?_)
  exact sx_vret (pc := 19) dX3_fillFromRow_19 rfl (Nat.zero_le _) (Nat.zero_le _) (⟨rfl, rfl, (Ch.put (Ch.put (Ch.put (Ch.trans (Ch.rf) k_1) hμ2 (by omega) (LB.off hμ2 ⟨by omega, fun _ _ => by omega⟩)) hμ3 (by omega) (LB.off hμ3 ⟨by omega, fun _ _ => by omega⟩)) hμ4 (by omega) (LB.off hμ4 ⟨by omega, fun _ _ => by omega⟩)), by subst hμ4; subst hμ3; subst hμ2; simp [xup_at], by subst hμ4; subst hμ3; subst hμ2; simp [xup_at], by subst hμ4; subst hμ3; subst hμ2; simp [xup_at]⟩)
set_option maxHeartbeats 1000000 in
set_option maxRecDepth 20000 in
theorem c_keep (X : xD) (Ex : State → Prop) (hE : xEs X false shA.length Ex) (μ : xM) (a b : Int32) : Ct X Ex false yX3_keepField kX3_keepField (rmN 0) [.ref (X.2 + 94), .int a, .int b] shA μ (fun r sh' μ' => shA = sh' ∧ r = none ∧ Ch SM μ μ') := by
  refine Ct.of (L0 := [some (.ref (X.2 + 94)), some (.int a), some (.int b)]) (by decide) rfl (fun h => by cases h) (by simp [Value.category]) (Nat.le_of_ble_eq_true rfl) rfl (fun l => ?_)
  refine sx_iload_n (pc := 0) dX3_keepField_0 rfl rfl ?_
  refine sx_bipush (pc := 1) (v := 97) dX3_keepField_1 (by decide) ?_
  refine sx_icmp_ne (pc := 3) (tgt := 14) dX3_keepField_3 (by decide) (fun c_3 => ?_) (fun c_3 => ?_)
  · have h_3t := c_3
    refine sx_iload_n (pc := 14) dX3_keepField_14 rfl rfl ?_
    refine sx_bipush (pc := 15) (v := 98) dX3_keepField_15 (by decide) ?_
    refine sx_icmp_ne (pc := 17) (tgt := 28) dX3_keepField_17 (by decide) (fun c_17 => ?_) (fun c_17 => ?_)
    · have h_17t := c_17
      refine sx_aload_n (pc := 28) dX3_keepField_28 rfl rfl ?_
      refine sx_iload_n (pc := 29) dX3_keepField_29 rfl rfl ?_
      refine sx_puti (pc := 30) (ci := 3) (j := 4) (ty := .int) dX3_keepField_30 rfl s_Me rfl (by decide) lf_X3_24 rfl (by decide +kernel) rfl rfl (fun μ1 hμ1 => ?_)
      exact sx_vret (pc := 33) dX3_keepField_33 rfl (Nat.zero_le _) (Nat.zero_le _) (⟨rfl, rfl, (Ch.put (Ch.rf) hμ1 (by omega) (LB.off hμ1 ⟨by omega, fun _ _ => by omega⟩))⟩)
    · have h_17f := c_17
      refine sx_aload_n (pc := 20) dX3_keepField_20 rfl rfl ?_
      refine sx_iload_n (pc := 21) dX3_keepField_21 rfl rfl ?_
      refine sx_puti (pc := 22) (ci := 3) (j := 3) (ty := .int) dX3_keepField_22 rfl s_Me rfl (by decide) lf_X3_21 rfl (by decide +kernel) rfl rfl (fun μ2 hμ2 => ?_)
      refine sx_goto (pc := 25) (tgt := 33) dX3_keepField_25 (by decide) ?_
      exact sx_vret (pc := 33) dX3_keepField_33 rfl (Nat.zero_le _) (Nat.zero_le _) (⟨rfl, rfl, (Ch.put (Ch.rf) hμ2 (by omega) (LB.off hμ2 ⟨by omega, fun _ _ => by omega⟩))⟩)
  · have h_3f := c_3
    refine sx_aload_n (pc := 6) dX3_keepField_6 rfl rfl ?_
    refine sx_iload_n (pc := 7) dX3_keepField_7 rfl rfl ?_
    refine sx_puti (pc := 8) (ci := 3) (j := 2) (ty := .int) dX3_keepField_8 rfl s_Me rfl (by decide) lf_X3_18 rfl (by decide +kernel) rfl rfl (fun μ3 hμ3 => ?_)
    refine sx_goto (pc := 11) (tgt := 33) dX3_keepField_11 (by decide) ?_
    exact sx_vret (pc := 33) dX3_keepField_33 rfl (Nat.zero_le _) (Nat.zero_le _) (⟨rfl, rfl, (Ch.put (Ch.rf) hμ3 (by omega) (LB.off hμ3 ⟨by omega, fun _ _ => by omega⟩))⟩)
set_option maxHeartbeats 1000000 in
set_option maxRecDepth 20000 in
theorem c_good (X : xD) (Ex : State → Prop) (hE : xEs X false shA.length Ex) (μ : xM) (a : Int32) : Ct X Ex false yX3_isGoodField kX3_isGoodField (rmN 1) [.ref (X.2 + 94), .int a] shA μ (fun r sh' μ' => shA = sh' ∧ μ = μ' ∧ ∃ x : Int32, r = some (.int x) ∧ (x = 0 ∨ x = 1) ∧ (x ≠ 0 → (a = 97 → 0 ≤ μ 94 2 ∧ μ 94 2 < 30) ∧ (a = 98 → 0 ≤ μ 94 3 ∧ μ 94 3 < 30))) := by
  refine Ct.of (L0 := [some (.ref (X.2 + 94)), some (.int a)]) (by decide) rfl (fun h => by cases h) (by simp [Value.category]) (Nat.le_of_ble_eq_true rfl) rfl (fun l => ?_)
  refine sx_iload_n (pc := 0) dX3_isGoodField_0 rfl rfl ?_
  refine sx_bipush (pc := 1) (v := 97) dX3_isGoodField_1 (by decide) ?_
  refine sx_icmp_ne (pc := 3) (tgt := 16) dX3_isGoodField_3 (by decide) (fun c_3 => ?_) (fun c_3 => ?_)
  · have h_3t := c_3
    refine sx_iload_n (pc := 16) dX3_isGoodField_16 rfl rfl ?_
    refine sx_bipush (pc := 17) (v := 98) dX3_isGoodField_17 (by decide) ?_
    refine sx_icmp_ne (pc := 19) (tgt := 32) dX3_isGoodField_19 (by decide) (fun c_19 => ?_) (fun c_19 => ?_)
    · have h_19t := c_19
      refine sx_aload_n (pc := 32) dX3_isGoodField_32 rfl rfl ?_
      refine sx_geti (pc := 33) (ci := 3) (j := 4) dX3_isGoodField_33 rfl s_Me rfl (by decide) lf_X3_24 ?_
      refine sx_if_lt (pc := 36) (tgt := 52) dX3_isGoodField_36 (by decide) (fun c_36 => ?_) (fun c_36 => ?_)
      · have h_36t := c_36
        refine sx_iconst (pc := 52) (v := 0) dX3_isGoodField_52 (by decide) ?_
        exact sx_iret (pc := 53) dX3_isGoodField_53 rfl rfl (Nat.zero_le _) (Nat.zero_le _) (⟨rfl, rfl, _, rfl, by decide, fun _ => ⟨fun w => absurd w h_3t, fun w => absurd w h_19t⟩⟩)
      · have h_36f := c_36
        refine sx_aload_n (pc := 39) dX3_isGoodField_39 rfl rfl ?_
        refine sx_geti (pc := 40) (ci := 3) (j := 4) dX3_isGoodField_40 rfl s_Me rfl (by decide) lf_X3_24 ?_
        refine sx_ldc (pc := 43) dX3_isGoodField_43 ld_X3_83 ?_
        refine sx_icmp_gt (pc := 45) (tgt := 52) dX3_isGoodField_45 (by decide) (fun c_45 => ?_) (fun c_45 => ?_)
        · have h_45t := c_45
          refine sx_iconst (pc := 52) (v := 0) dX3_isGoodField_52 (by decide) ?_
          exact sx_iret (pc := 53) dX3_isGoodField_53 rfl rfl (Nat.zero_le _) (Nat.zero_le _) (⟨rfl, rfl, _, rfl, by decide, fun _ => ⟨fun w => absurd w h_3t, fun w => absurd w h_19t⟩⟩)
        · have h_45f := c_45
          refine sx_iconst (pc := 48) (v := 1) dX3_isGoodField_48 (by decide) ?_
          refine sx_goto (pc := 49) (tgt := 53) dX3_isGoodField_49 (by decide) ?_
          exact sx_iret (pc := 53) dX3_isGoodField_53 rfl rfl (Nat.zero_le _) (Nat.zero_le _) (⟨rfl, rfl, _, rfl, by decide, fun _ => ⟨fun w => absurd w h_3t, fun w => absurd w h_19t⟩⟩)
    · have h_19f := c_19
      refine sx_aload_n (pc := 22) dX3_isGoodField_22 rfl rfl ?_
      refine sx_geti (pc := 23) (ci := 3) (j := 3) dX3_isGoodField_23 rfl s_Me rfl (by decide) lf_X3_21 ?_
      refine sx_bipush (pc := 26) (v := 30) dX3_isGoodField_26 (by decide) ?_
      refine sx_callSN (host := "ExchangeWire") (pc := 28) (As := [.int (μ 94 3), .int 30]) dX3_isGoodField_28 (c_isBelow X Ex false shA μ _ _) mX5_isBelow (by decide +kernel) rfl ⟨Nat.le_of_ble_eq_true rfl, Nat.le_of_ble_eq_true rfl⟩ ⟨Nat.le_of_ble_eq_true rfl, Nat.le_of_ble_eq_true rfl⟩ (Nat.le_of_ble_eq_true rfl) hE (fun r_28 sh1 μ1 h_28 => ?_)
      obtain ⟨rfl, rfl, x_28, rfl, hx_28⟩ := h_28
      exact sx_iret (pc := 31) dX3_isGoodField_31 rfl (bool_n (isB_b hx_28)) (Nat.zero_le _) (Nat.zero_le _) (⟨rfl, rfl, _, rfl, isB_b hx_28, fun q => ⟨fun w => absurd w h_3t, fun _ => isB_t hx_28 q⟩⟩)
  · have h_3f := c_3
    refine sx_aload_n (pc := 6) dX3_isGoodField_6 rfl rfl ?_
    refine sx_geti (pc := 7) (ci := 3) (j := 2) dX3_isGoodField_7 rfl s_Me rfl (by decide) lf_X3_18 ?_
    refine sx_bipush (pc := 10) (v := 30) dX3_isGoodField_10 (by decide) ?_
    refine sx_callSN (host := "ExchangeWire") (pc := 12) (As := [.int (μ 94 2), .int 30]) dX3_isGoodField_12 (c_isBelow X Ex false shA μ _ _) mX5_isBelow (by decide +kernel) rfl ⟨Nat.le_of_ble_eq_true rfl, Nat.le_of_ble_eq_true rfl⟩ ⟨Nat.le_of_ble_eq_true rfl, Nat.le_of_ble_eq_true rfl⟩ (Nat.le_of_ble_eq_true rfl) hE (fun r_12 sh1 μ2 h_12 => ?_)
    obtain ⟨rfl, rfl, x_12, rfl, hx_12⟩ := h_12
    exact sx_iret (pc := 15) dX3_isGoodField_15 rfl (bool_n (isB_b hx_12)) (Nat.zero_le _) (Nat.zero_le _) (⟨rfl, rfl, _, rfl, isB_b hx_12, fun q => ⟨fun _ => isB_t hx_12 q, fun w => absurd (h_3f.symm.trans w) (by decide)⟩⟩)
set_option maxHeartbeats 1000000 in
set_option maxRecDepth 20000 in
theorem c_changes (X : xD) (Ex : State → Prop) (hE : xEs X false shA.length Ex) (μ : xM)  : Ct X Ex false yX3_changesTheHouse kX3_changesTheHouse (rmN 0) [.ref (X.2 + 94)] shA μ (fun r sh' μ' => shA = sh' ∧ μ = μ' ∧ ∃ x : Int32, r = some (.int x) ∧ (x = 0 ∨ x = 1)) := by
  refine Ct.of (L0 := [some (.ref (X.2 + 94))]) (by decide) rfl (fun h => by cases h) (by simp [Value.category]) (Nat.le_of_ble_eq_true rfl) rfl (fun l => ?_)
  refine sx_aload_n (pc := 0) dX3_changesTheHouse_0 rfl rfl ?_
  refine sx_geti (pc := 1) (ci := 3) (j := 0) dX3_changesTheHouse_1 rfl s_Me rfl (by decide) lf_X3_9 ?_
  refine sx_bipush (pc := 4) (v := 67) dX3_changesTheHouse_4 (by decide) ?_
  refine sx_icmp_eq (pc := 6) (tgt := 45) dX3_changesTheHouse_6 (by decide) (fun c_6 => ?_) (fun c_6 => ?_)
  · have h_6t := c_6
    refine sx_iconst (pc := 45) (v := 1) dX3_changesTheHouse_45 (by decide) ?_
    refine sx_goto (pc := 46) (tgt := 50) dX3_changesTheHouse_46 (by decide) ?_
    exact sx_iret (pc := 50) dX3_changesTheHouse_50 rfl rfl (Nat.zero_le _) (Nat.zero_le _) (⟨rfl, rfl, _, rfl, by decide⟩)
  · have h_6f := c_6
    refine sx_aload_n (pc := 9) dX3_changesTheHouse_9 rfl rfl ?_
    refine sx_geti (pc := 10) (ci := 3) (j := 0) dX3_changesTheHouse_10 rfl s_Me rfl (by decide) lf_X3_9 ?_
    refine sx_bipush (pc := 13) (v := 66) dX3_changesTheHouse_13 (by decide) ?_
    refine sx_icmp_eq (pc := 15) (tgt := 45) dX3_changesTheHouse_15 (by decide) (fun c_15 => ?_) (fun c_15 => ?_)
    · have h_15t := c_15
      refine sx_iconst (pc := 45) (v := 1) dX3_changesTheHouse_45 (by decide) ?_
      refine sx_goto (pc := 46) (tgt := 50) dX3_changesTheHouse_46 (by decide) ?_
      exact sx_iret (pc := 50) dX3_changesTheHouse_50 rfl rfl (Nat.zero_le _) (Nat.zero_le _) (⟨rfl, rfl, _, rfl, by decide⟩)
    · have h_15f := c_15
      refine sx_aload_n (pc := 18) dX3_changesTheHouse_18 rfl rfl ?_
      refine sx_geti (pc := 19) (ci := 3) (j := 0) dX3_changesTheHouse_19 rfl s_Me rfl (by decide) lf_X3_9 ?_
      refine sx_bipush (pc := 22) (v := 70) dX3_changesTheHouse_22 (by decide) ?_
      refine sx_icmp_eq (pc := 24) (tgt := 45) dX3_changesTheHouse_24 (by decide) (fun c_24 => ?_) (fun c_24 => ?_)
      · have h_24t := c_24
        refine sx_iconst (pc := 45) (v := 1) dX3_changesTheHouse_45 (by decide) ?_
        refine sx_goto (pc := 46) (tgt := 50) dX3_changesTheHouse_46 (by decide) ?_
        exact sx_iret (pc := 50) dX3_changesTheHouse_50 rfl rfl (Nat.zero_le _) (Nat.zero_le _) (⟨rfl, rfl, _, rfl, by decide⟩)
      · have h_24f := c_24
        refine sx_aload_n (pc := 27) dX3_changesTheHouse_27 rfl rfl ?_
        refine sx_geti (pc := 28) (ci := 3) (j := 0) dX3_changesTheHouse_28 rfl s_Me rfl (by decide) lf_X3_9 ?_
        refine sx_bipush (pc := 31) (v := 72) dX3_changesTheHouse_31 (by decide) ?_
        refine sx_icmp_eq (pc := 33) (tgt := 45) dX3_changesTheHouse_33 (by decide) (fun c_33 => ?_) (fun c_33 => ?_)
        · have h_33t := c_33
          refine sx_iconst (pc := 45) (v := 1) dX3_changesTheHouse_45 (by decide) ?_
          refine sx_goto (pc := 46) (tgt := 50) dX3_changesTheHouse_46 (by decide) ?_
          exact sx_iret (pc := 50) dX3_changesTheHouse_50 rfl rfl (Nat.zero_le _) (Nat.zero_le _) (⟨rfl, rfl, _, rfl, by decide⟩)
        · have h_33f := c_33
          refine sx_aload_n (pc := 36) dX3_changesTheHouse_36 rfl rfl ?_
          refine sx_geti (pc := 37) (ci := 3) (j := 0) dX3_changesTheHouse_37 rfl s_Me rfl (by decide) lf_X3_9 ?_
          refine sx_bipush (pc := 40) (v := 82) dX3_changesTheHouse_40 (by decide) ?_
          refine sx_icmp_ne (pc := 42) (tgt := 49) dX3_changesTheHouse_42 (by decide) (fun c_42 => ?_) (fun c_42 => ?_)
          · have h_42t := c_42
            refine sx_iconst (pc := 49) (v := 0) dX3_changesTheHouse_49 (by decide) ?_
            exact sx_iret (pc := 50) dX3_changesTheHouse_50 rfl rfl (Nat.zero_le _) (Nat.zero_le _) (⟨rfl, rfl, _, rfl, by decide⟩)
          · have h_42f := c_42
            refine sx_iconst (pc := 45) (v := 1) dX3_changesTheHouse_45 (by decide) ?_
            refine sx_goto (pc := 46) (tgt := 50) dX3_changesTheHouse_46 (by decide) ?_
            exact sx_iret (pc := 50) dX3_changesTheHouse_50 rfl rfl (Nat.zero_le _) (Nat.zero_le _) (⟨rfl, rfl, _, rfl, by decide⟩)
theorem ews_in {a cnt : Int32} (hc : 0 ≤ a ∧ a ≤ cnt ∧ cnt ≤ 60) (h : cnt = a + 3) (t : Nat) (ht : t < 3) : vp_in (if t = 0 then a else a + nI t) 60 := by
  obtain ⟨j, hj, rfl⟩ := nI_of2 (x := a) (M := 60) (n := 60) rfl (Int32.not_lt.mpr hc.1) (Int32.le_trans hc.2.1 hc.2.2)
  have h60 : nI (j + 3) ≤ nI 60 := by
    have h3 := hc.2.2
    rw [h, show (3 : Int32) = nI 3 from rfl, nI_add] at h3
    exact h3
  rw [nI_leI (by omega) (by omega)] at h60
  by_cases h0 : t = 0
  · rw [if_pos h0]
    exact vp_in_nI (by omega) (by decide)
  · rw [if_neg h0, nI_add]
    exact vp_in_nI (by omega) (by decide)
set_option maxHeartbeats 1000000 in
set_option maxRecDepth 20000 in
theorem c_endsWithSum (X : xD) (Ex : State → Prop) (hE : xEs X false shA.length Ex) (μ : xM) (k : Nat) (hs : shA[k]? = some (shI 60)) (cnt a : Int32) (hc : 0 ≤ a ∧ a ≤ cnt ∧ cnt ≤ 60) : Ct X Ex false yX3_endsWithSum kX3_endsWithSum (rmN 1) [.ref (X.2 + k), .int cnt, .int a] shA μ (fun r sh' μ' => shA = sh' ∧ μ = μ' ∧ ∃ x : Int32, r = some (.int x) ∧ (x = 0 ∨ x = 1)) := by
  refine Ct.of (L0 := [some (.ref (X.2 + k)), some (.int cnt), some (.int a), none]) (by decide) rfl (fun h => by cases h) (by simp [Value.category]) (Nat.le_of_ble_eq_true rfl) rfl (fun l => ?_)
  refine sx_iload_n (pc := 0) dX3_endsWithSum_0 rfl rfl ?_
  refine sx_iload_n (pc := 1) dX3_endsWithSum_1 rfl rfl ?_
  refine sx_iconst (pc := 2) (v := 3) dX3_endsWithSum_2 (by decide) ?_
  refine sx_iadd (pc := 3) dX3_endsWithSum_3 ?_
  refine sx_icmp_ne (pc := 4) (tgt := 15) dX3_endsWithSum_4 (by decide) (fun c_4 => ?_) (fun c_4 => ?_)
  · have h_4t := c_4
    refine sx_iconst (pc := 15) (v := 0) dX3_endsWithSum_15 (by decide) ?_
    exact sx_iret (pc := 16) dX3_endsWithSum_16 rfl rfl (Nat.zero_le _) (Nat.zero_le _) (⟨rfl, rfl, _, rfl, by decide⟩)
  · have h_4f := c_4
    refine sx_aload_n (pc := 7) dX3_endsWithSum_7 rfl rfl ?_
    refine sx_iload_n (pc := 8) dX3_endsWithSum_8 rfl rfl ?_
    refine sx_iald (pc := 9) dX3_endsWithSum_9 hs (by decide) rfl (ews_in hc h_4f 0 (by omega)) ?_
    refine sx_bipush (pc := 10) (v := 90) dX3_endsWithSum_10 (by decide) ?_
    refine sx_icmp_eq (pc := 12) (tgt := 17) dX3_endsWithSum_12 (by decide) (fun c_12 => ?_) (fun c_12 => ?_)
    · have h_12t := c_12
      refine sx_aload_n (pc := 17) dX3_endsWithSum_17 rfl rfl ?_
      refine sx_iload_n (pc := 18) dX3_endsWithSum_18 rfl rfl ?_
      refine sx_callSN (host := "ExchangeWire") (pc := 19) (As := [.ref (X.2 + k), .int a]) dX3_endsWithSum_19 (c_sumOf X Ex hE μ k 60 _ hs (by decide)) mX5_sumOf (by decide +kernel) rfl ⟨Nat.le_of_ble_eq_true rfl, Nat.le_of_ble_eq_true rfl⟩ ⟨Nat.le_of_ble_eq_true rfl, Nat.le_of_ble_eq_true rfl⟩ (Nat.le_of_ble_eq_true rfl) hE (fun r_19 sh1 μ1 h_19 => ?_)
      obtain ⟨rfl, rfl, x_19, rfl⟩ := h_19
      refine sx_istore_n (pc := 22) (L' := [some (.ref (X.2 + k)), some (.int cnt), some (.int a), some (.int x_19)]) dX3_endsWithSum_22 rfl (by decide) rfl ?_
      refine sx_aload_n (pc := 23) dX3_endsWithSum_23 rfl rfl ?_
      refine sx_iload_n (pc := 24) dX3_endsWithSum_24 rfl rfl ?_
      refine sx_iconst (pc := 25) (v := 1) dX3_endsWithSum_25 (by decide) ?_
      refine sx_iadd (pc := 26) dX3_endsWithSum_26 ?_
      refine sx_iald (pc := 27) dX3_endsWithSum_27 hs (by decide) rfl (ews_in hc h_4f 1 (by omega)) ?_
      refine sx_iload_n (pc := 28) dX3_endsWithSum_28 rfl rfl ?_
      refine sx_iconst (pc := 29) (v := 4) dX3_endsWithSum_29 (by decide) ?_
      refine sx_ishr (pc := 30) dX3_endsWithSum_30 ?_
      refine sx_callSN (host := "ExchangeWire") (pc := 31) (As := [.int (x_19 >>> (4 &&& 31))]) dX3_endsWithSum_31 (c_hexDigit X Ex false shA μ _) mX5_hexDigit (by decide +kernel) rfl ⟨Nat.le_of_ble_eq_true rfl, Nat.le_of_ble_eq_true rfl⟩ ⟨Nat.le_of_ble_eq_true rfl, Nat.le_of_ble_eq_true rfl⟩ (Nat.le_of_ble_eq_true rfl) hE (fun r_31 sh1 μ2 h_31 => ?_)
      obtain ⟨rfl, rfl, x_31, rfl⟩ := h_31
      refine sx_icmp_ne (pc := 34) (tgt := 53) dX3_endsWithSum_34 (by decide) (fun c_34 => ?_) (fun c_34 => ?_)
      · have h_34t := c_34
        refine sx_iconst (pc := 53) (v := 0) dX3_endsWithSum_53 (by decide) ?_
        exact sx_iret (pc := 54) dX3_endsWithSum_54 rfl rfl (Nat.zero_le _) (Nat.zero_le _) (⟨rfl, rfl, _, rfl, by decide⟩)
      · have h_34f := c_34
        refine sx_aload_n (pc := 37) dX3_endsWithSum_37 rfl rfl ?_
        refine sx_iload_n (pc := 38) dX3_endsWithSum_38 rfl rfl ?_
        refine sx_iconst (pc := 39) (v := 2) dX3_endsWithSum_39 (by decide) ?_
        refine sx_iadd (pc := 40) dX3_endsWithSum_40 ?_
        refine sx_iald (pc := 41) dX3_endsWithSum_41 hs (by decide) rfl (ews_in hc h_4f 2 (by omega)) ?_
        refine sx_iload_n (pc := 42) dX3_endsWithSum_42 rfl rfl ?_
        refine sx_callSN (host := "ExchangeWire") (pc := 43) (As := [.int x_19]) dX3_endsWithSum_43 (c_hexDigit X Ex false shA μ _) mX5_hexDigit (by decide +kernel) rfl ⟨Nat.le_of_ble_eq_true rfl, Nat.le_of_ble_eq_true rfl⟩ ⟨Nat.le_of_ble_eq_true rfl, Nat.le_of_ble_eq_true rfl⟩ (Nat.le_of_ble_eq_true rfl) hE (fun r_43 sh1 μ3 h_43 => ?_)
        obtain ⟨rfl, rfl, x_43, rfl⟩ := h_43
        refine sx_icmp_ne (pc := 46) (tgt := 53) dX3_endsWithSum_46 (by decide) (fun c_46 => ?_) (fun c_46 => ?_)
        · have h_46t := c_46
          refine sx_iconst (pc := 53) (v := 0) dX3_endsWithSum_53 (by decide) ?_
          exact sx_iret (pc := 54) dX3_endsWithSum_54 rfl rfl (Nat.zero_le _) (Nat.zero_le _) (⟨rfl, rfl, _, rfl, by decide⟩)
        · have h_46f := c_46
          refine sx_iconst (pc := 49) (v := 1) dX3_endsWithSum_49 (by decide) ?_
          refine sx_goto (pc := 50) (tgt := 54) dX3_endsWithSum_50 (by decide) ?_
          exact sx_iret (pc := 54) dX3_endsWithSum_54 rfl rfl (Nat.zero_le _) (Nat.zero_le _) (⟨rfl, rfl, _, rfl, by decide⟩)
    · have h_12f := c_12
      refine sx_iconst (pc := 15) (v := 0) dX3_endsWithSum_15 (by decide) ?_
      exact sx_iret (pc := 16) dX3_endsWithSum_16 rfl rfl (Nat.zero_le _) (Nat.zero_le _) (⟨rfl, rfl, _, rfl, by decide⟩)
end
section
/-! the fields of a kind -/
def fK (k : Int32) : Option Nat := if k = 83 ∨ k = 81 then some 0 else if k = 67 ∨ k = 72 ∨ k = 82 then some 1 else if k = 66 ∨ k = 73 then some 2 else if k = 80 then some 3 else if k = 70 then some 4 else none
theorem fK_none {k : Int32} (h : k.toInt < 66 ∨ 83 < k.toInt) : fK k = none := by
  have hn : ∀ c : Int32, (66 ≤ c.toInt ∧ c.toInt ≤ 83) → k ≠ c := fun c hc e => by rw [e] at h; omega
  have h1 := hn 83 (by decide); have h2 := hn 81 (by decide); have h3 := hn 67 (by decide); have h4 := hn 72 (by decide); have h5 := hn 82 (by decide); have h6 := hn 66 (by decide); have h7 := hn 73 (by decide); have h8 := hn 80 (by decide); have h9 := hn 70 (by decide)
  simp [fK, h1, h2, h3, h4, h5, h6, h7, h8, h9]
theorem fK_lt {k : Int32} {i : Nat} (h : fK k = some i) : i < 5 := by
  unfold fK at h
  split at h
  · cases h; decide
  · split at h
    · cases h; decide
    · split at h
      · cases h; decide
      · split at h
        · cases h; decide
        · split at h
          · cases h; decide
          · cases h
theorem sw18 (w : Int32) : w = 66 ∨ w = 67 ∨ w = 68 ∨ w = 69 ∨ w = 70 ∨ w = 71 ∨ w = 72 ∨ w = 73 ∨ w = 74 ∨ w = 75 ∨ w = 76 ∨ w = 77 ∨ w = 78 ∨ w = 79 ∨ w = 80 ∨ w = 81 ∨ w = 82 ∨ w = 83 ∨ (w.toInt < 66 ∨ 83 < w.toInt) := by
  by_cases h : w.toInt < 66 ∨ 83 < w.toInt
  · simp [h]
  · have e : ∀ c : Int32, w.toInt = c.toInt → w = c := fun c q => Int32.toInt_inj.mp q
    have h0 : w.toInt = 66 ∨ w.toInt = 67 ∨ w.toInt = 68 ∨ w.toInt = 69 ∨ w.toInt = 70 ∨ w.toInt = 71 ∨ w.toInt = 72 ∨ w.toInt = 73 ∨ w.toInt = 74 ∨ w.toInt = 75 ∨ w.toInt = 76 ∨ w.toInt = 77 ∨ w.toInt = 78 ∨ w.toInt = 79 ∨ w.toInt = 80 ∨ w.toInt = 81 ∨ w.toInt = 82 ∨ w.toInt = 83 := by omega
    rcases h0 with q | q | q | q | q | q | q | q | q | q | q | q | q | q | q | q | q | q
    · simp [e 66 q]
    · simp [e 67 q]
    · simp [e 68 q]
    · simp [e 69 q]
    · simp [e 70 q]
    · simp [e 71 q]
    · simp [e 72 q]
    · simp [e 73 q]
    · simp [e 74 q]
    · simp [e 75 q]
    · simp [e 76 q]
    · simp [e 77 q]
    · simp [e 78 q]
    · simp [e 79 q]
    · simp [e 80 q]
    · simp [e 81 q]
    · simp [e 82 q]
    · simp [e 83 q]
theorem sl2 {i : Nat} (hi : i < 5) : sLen.getD i 0 - 0 ≤ 2 := by
  rcases (show i = 0 ∨ i = 1 ∨ i = 2 ∨ i = 3 ∨ i = 4 by omega) with rfl | rfl | rfl | rfl | rfl <;> decide
theorem mmin_nI {a b : Nat} (ha : a < 2 ^ 31) (hb : b < 2 ^ 31) : (if nI b < nI a then nI b else nI a) = nI (min a b) := by
  by_cases h : b < a
  · rw [if_pos (nI_lt h ha), Nat.min_eq_right (by omega)]
  · rw [if_neg (nI_nlt (by omega) hb), Nat.min_eq_left (by omega)]
theorem m1_ne {b : Nat} (h : b < 2 ^ 31) : ¬ nI b = (-1) := fun q => by
  have := nI_toInt h
  rw [q] at this
  have h1 : (-1 : Int32).toInt = -1 := by decide
  omega
def GD (μ : xM) : Prop := ∀ i, fK (μ 94 0) = some i → ((i = 1 ∨ i = 2) → 0 ≤ μ 94 3 ∧ μ 94 3 < 30) ∧ ((i = 1 ∨ i = 3 ∨ i = 4) → 0 ≤ μ 94 2 ∧ μ 94 2 < 30)
set_option maxHeartbeats 1000000 in
set_option maxRecDepth 20000 in
theorem c_fieldsOf (X : xD) (Ex : State → Prop) (hE : xEs X false shA.length Ex) (μ : xM) {sk sv : Nat → Nat} {fm : Nat} (hS : ∀ s, Ex s → ExS X sk sv fm s) (kd : Int32) : Ct X Ex false yX3_fieldsOf kX3_fieldsOf (rmN 0) [.int kd] shA μ (fun r sh' μ' => shA = sh' ∧ μ = μ' ∧ ((fK kd = none ∧ r = some .null) ∨ ∃ i, i < 5 ∧ fK kd = some i ∧ r = some (.ref (sk i)))) := by
  refine Ct.of (L0 := [some (.int kd)]) (by decide) rfl (fun h => by cases h) (by simp [Value.category]) (Nat.le_of_ble_eq_true rfl) rfl (fun l => ?_)
  refine sx_iload_n (pc := 0) dX3_fieldsOf_0 rfl rfl ?_
  rcases sw18 kd with rfl | rfl | rfl | rfl | rfl | rfl | rfl | rfl | rfl | rfl | rfl | rfl | rfl | rfl | rfl | rfl | rfl | rfl | w_1
  · refine sx_tableIn (pc := 1) (off := 93) (tgt := 94) dX3_fieldsOf_1 (by decide) (by decide) (by decide) (by decide) ?_
    refine sx_ldcS (pc := 94) dX3_fieldsOf_94 (fun s h => (hS s h).2.1 2 (by decide)) ?_
    exact sx_aret (pc := 96) dX3_fieldsOf_96 rfl (Or.inl ⟨_, rfl⟩) (Or.inr ⟨_, rfl⟩) (Nat.zero_le _) (Nat.zero_le _) (⟨rfl, rfl, Or.inr ⟨2, by decide, by decide, rfl⟩⟩)
  · refine sx_tableIn (pc := 1) (off := 90) (tgt := 91) dX3_fieldsOf_1 (by decide) (by decide) (by decide) (by decide) ?_
    refine sx_ldcS (pc := 91) dX3_fieldsOf_91 (fun s h => (hS s h).2.1 1 (by decide)) ?_
    exact sx_aret (pc := 93) dX3_fieldsOf_93 rfl (Or.inl ⟨_, rfl⟩) (Or.inr ⟨_, rfl⟩) (Nat.zero_le _) (Nat.zero_le _) (⟨rfl, rfl, Or.inr ⟨1, by decide, by decide, rfl⟩⟩)
  · refine sx_tableIn (pc := 1) (off := 102) (tgt := 103) dX3_fieldsOf_1 (by decide) (by decide) (by decide) (by decide) ?_
    refine sx_null (pc := 103) dX3_fieldsOf_103 ?_
    exact sx_aret (pc := 104) dX3_fieldsOf_104 rfl (Or.inl ⟨_, rfl⟩) (Or.inl rfl) (Nat.zero_le _) (Nat.zero_le _) (⟨rfl, rfl, Or.inl ⟨by first | decide | exact fK_none w_1, rfl⟩⟩)
  · refine sx_tableIn (pc := 1) (off := 102) (tgt := 103) dX3_fieldsOf_1 (by decide) (by decide) (by decide) (by decide) ?_
    refine sx_null (pc := 103) dX3_fieldsOf_103 ?_
    exact sx_aret (pc := 104) dX3_fieldsOf_104 rfl (Or.inl ⟨_, rfl⟩) (Or.inl rfl) (Nat.zero_le _) (Nat.zero_le _) (⟨rfl, rfl, Or.inl ⟨by first | decide | exact fK_none w_1, rfl⟩⟩)
  · refine sx_tableIn (pc := 1) (off := 99) (tgt := 100) dX3_fieldsOf_1 (by decide) (by decide) (by decide) (by decide) ?_
    refine sx_ldcS (pc := 100) dX3_fieldsOf_100 (fun s h => (hS s h).2.1 4 (by decide)) ?_
    exact sx_aret (pc := 102) dX3_fieldsOf_102 rfl (Or.inl ⟨_, rfl⟩) (Or.inr ⟨_, rfl⟩) (Nat.zero_le _) (Nat.zero_le _) (⟨rfl, rfl, Or.inr ⟨4, by decide, by decide, rfl⟩⟩)
  · refine sx_tableIn (pc := 1) (off := 102) (tgt := 103) dX3_fieldsOf_1 (by decide) (by decide) (by decide) (by decide) ?_
    refine sx_null (pc := 103) dX3_fieldsOf_103 ?_
    exact sx_aret (pc := 104) dX3_fieldsOf_104 rfl (Or.inl ⟨_, rfl⟩) (Or.inl rfl) (Nat.zero_le _) (Nat.zero_le _) (⟨rfl, rfl, Or.inl ⟨by first | decide | exact fK_none w_1, rfl⟩⟩)
  · refine sx_tableIn (pc := 1) (off := 90) (tgt := 91) dX3_fieldsOf_1 (by decide) (by decide) (by decide) (by decide) ?_
    refine sx_ldcS (pc := 91) dX3_fieldsOf_91 (fun s h => (hS s h).2.1 1 (by decide)) ?_
    exact sx_aret (pc := 93) dX3_fieldsOf_93 rfl (Or.inl ⟨_, rfl⟩) (Or.inr ⟨_, rfl⟩) (Nat.zero_le _) (Nat.zero_le _) (⟨rfl, rfl, Or.inr ⟨1, by decide, by decide, rfl⟩⟩)
  · refine sx_tableIn (pc := 1) (off := 93) (tgt := 94) dX3_fieldsOf_1 (by decide) (by decide) (by decide) (by decide) ?_
    refine sx_ldcS (pc := 94) dX3_fieldsOf_94 (fun s h => (hS s h).2.1 2 (by decide)) ?_
    exact sx_aret (pc := 96) dX3_fieldsOf_96 rfl (Or.inl ⟨_, rfl⟩) (Or.inr ⟨_, rfl⟩) (Nat.zero_le _) (Nat.zero_le _) (⟨rfl, rfl, Or.inr ⟨2, by decide, by decide, rfl⟩⟩)
  · refine sx_tableIn (pc := 1) (off := 102) (tgt := 103) dX3_fieldsOf_1 (by decide) (by decide) (by decide) (by decide) ?_
    refine sx_null (pc := 103) dX3_fieldsOf_103 ?_
    exact sx_aret (pc := 104) dX3_fieldsOf_104 rfl (Or.inl ⟨_, rfl⟩) (Or.inl rfl) (Nat.zero_le _) (Nat.zero_le _) (⟨rfl, rfl, Or.inl ⟨by first | decide | exact fK_none w_1, rfl⟩⟩)
  · refine sx_tableIn (pc := 1) (off := 102) (tgt := 103) dX3_fieldsOf_1 (by decide) (by decide) (by decide) (by decide) ?_
    refine sx_null (pc := 103) dX3_fieldsOf_103 ?_
    exact sx_aret (pc := 104) dX3_fieldsOf_104 rfl (Or.inl ⟨_, rfl⟩) (Or.inl rfl) (Nat.zero_le _) (Nat.zero_le _) (⟨rfl, rfl, Or.inl ⟨by first | decide | exact fK_none w_1, rfl⟩⟩)
  · refine sx_tableIn (pc := 1) (off := 102) (tgt := 103) dX3_fieldsOf_1 (by decide) (by decide) (by decide) (by decide) ?_
    refine sx_null (pc := 103) dX3_fieldsOf_103 ?_
    exact sx_aret (pc := 104) dX3_fieldsOf_104 rfl (Or.inl ⟨_, rfl⟩) (Or.inl rfl) (Nat.zero_le _) (Nat.zero_le _) (⟨rfl, rfl, Or.inl ⟨by first | decide | exact fK_none w_1, rfl⟩⟩)
  · refine sx_tableIn (pc := 1) (off := 102) (tgt := 103) dX3_fieldsOf_1 (by decide) (by decide) (by decide) (by decide) ?_
    refine sx_null (pc := 103) dX3_fieldsOf_103 ?_
    exact sx_aret (pc := 104) dX3_fieldsOf_104 rfl (Or.inl ⟨_, rfl⟩) (Or.inl rfl) (Nat.zero_le _) (Nat.zero_le _) (⟨rfl, rfl, Or.inl ⟨by first | decide | exact fK_none w_1, rfl⟩⟩)
  · refine sx_tableIn (pc := 1) (off := 102) (tgt := 103) dX3_fieldsOf_1 (by decide) (by decide) (by decide) (by decide) ?_
    refine sx_null (pc := 103) dX3_fieldsOf_103 ?_
    exact sx_aret (pc := 104) dX3_fieldsOf_104 rfl (Or.inl ⟨_, rfl⟩) (Or.inl rfl) (Nat.zero_le _) (Nat.zero_le _) (⟨rfl, rfl, Or.inl ⟨by first | decide | exact fK_none w_1, rfl⟩⟩)
  · refine sx_tableIn (pc := 1) (off := 102) (tgt := 103) dX3_fieldsOf_1 (by decide) (by decide) (by decide) (by decide) ?_
    refine sx_null (pc := 103) dX3_fieldsOf_103 ?_
    exact sx_aret (pc := 104) dX3_fieldsOf_104 rfl (Or.inl ⟨_, rfl⟩) (Or.inl rfl) (Nat.zero_le _) (Nat.zero_le _) (⟨rfl, rfl, Or.inl ⟨by first | decide | exact fK_none w_1, rfl⟩⟩)
  · refine sx_tableIn (pc := 1) (off := 96) (tgt := 97) dX3_fieldsOf_1 (by decide) (by decide) (by decide) (by decide) ?_
    refine sx_ldcS (pc := 97) dX3_fieldsOf_97 (fun s h => (hS s h).2.1 3 (by decide)) ?_
    exact sx_aret (pc := 99) dX3_fieldsOf_99 rfl (Or.inl ⟨_, rfl⟩) (Or.inr ⟨_, rfl⟩) (Nat.zero_le _) (Nat.zero_le _) (⟨rfl, rfl, Or.inr ⟨3, by decide, by decide, rfl⟩⟩)
  · refine sx_tableIn (pc := 1) (off := 87) (tgt := 88) dX3_fieldsOf_1 (by decide) (by decide) (by decide) (by decide) ?_
    refine sx_ldcS (pc := 88) dX3_fieldsOf_88 (fun s h => (hS s h).2.1 0 (by decide)) ?_
    exact sx_aret (pc := 90) dX3_fieldsOf_90 rfl (Or.inl ⟨_, rfl⟩) (Or.inr ⟨_, rfl⟩) (Nat.zero_le _) (Nat.zero_le _) (⟨rfl, rfl, Or.inr ⟨0, by decide, by decide, rfl⟩⟩)
  · refine sx_tableIn (pc := 1) (off := 90) (tgt := 91) dX3_fieldsOf_1 (by decide) (by decide) (by decide) (by decide) ?_
    refine sx_ldcS (pc := 91) dX3_fieldsOf_91 (fun s h => (hS s h).2.1 1 (by decide)) ?_
    exact sx_aret (pc := 93) dX3_fieldsOf_93 rfl (Or.inl ⟨_, rfl⟩) (Or.inr ⟨_, rfl⟩) (Nat.zero_le _) (Nat.zero_le _) (⟨rfl, rfl, Or.inr ⟨1, by decide, by decide, rfl⟩⟩)
  · refine sx_tableIn (pc := 1) (off := 87) (tgt := 88) dX3_fieldsOf_1 (by decide) (by decide) (by decide) (by decide) ?_
    refine sx_ldcS (pc := 88) dX3_fieldsOf_88 (fun s h => (hS s h).2.1 0 (by decide)) ?_
    exact sx_aret (pc := 90) dX3_fieldsOf_90 rfl (Or.inl ⟨_, rfl⟩) (Or.inr ⟨_, rfl⟩) (Nat.zero_le _) (Nat.zero_le _) (⟨rfl, rfl, Or.inr ⟨0, by decide, by decide, rfl⟩⟩)
  · refine sx_tableOut (pc := 1) (tgt := 103) dX3_fieldsOf_1 w_1 (by decide) ?_
    refine sx_null (pc := 103) dX3_fieldsOf_103 ?_
    exact sx_aret (pc := 104) dX3_fieldsOf_104 rfl (Or.inl ⟨_, rfl⟩) (Or.inl rfl) (Nat.zero_le _) (Nat.zero_le _) (⟨rfl, rfl, Or.inl ⟨by first | decide | exact fK_none w_1, rfl⟩⟩)
set_option maxHeartbeats 1000000 in
set_option maxRecDepth 20000 in
theorem l_rf_end {X : xD} {Ex : State → Prop} (hE : xEs X false shA.length Ex) {l : Launch} {k n a m : Nat} (hs : shA[k]? = some (shI 60)) (hn : n ≤ 60) (ha : a < n) (hm : m ≤ n) {lt : Int32} {μ0 μ : xM} (hC : Ch SM μ0 μ) (v : Int32) (q : Nat) (hq : a + 1 ≤ q) (hqn : q ≤ n) : sx l (rmN 1) X Ex false kX3_readField shA.length (xZ X false shA.length (fun r sh' μ' => shA = sh' ∧ Ch SM μ0 μ' ∧ ∃ x : Int32, r = some (.int x) ∧ (x = (-1) ∨ ∃ b, a < b ∧ b ≤ n ∧ x = nI b)) 0 0) 77 [some (.ref (X.2 + 94)), some (.int lt), some (.ref (X.2 + k)), some (.int (nI n)), some (.int (nI a)), some (.int (nI (a + 1))), some (.int (nI m)), some (.int v), some (.int (nI q))] [] shA μ 0 0 := by
  refine sx_iload (pc := 77) dX3_readField_77 rfl ?_
  refine sx_iload (pc := 79) dX3_readField_79 rfl ?_
  refine sx_icmp_eq (pc := 81) (tgt := 99) dX3_readField_81 (by decide) (fun c_81 => ?_) (fun c_81 => ?_)
  · have h_81t := c_81
    refine sx_iconst (pc := 99) (v := (-1)) dX3_readField_99 (by decide) ?_
    exact sx_iret (pc := 100) dX3_readField_100 rfl rfl (Nat.zero_le _) (Nat.zero_le _) (⟨rfl, hC, _, rfl, Or.inl rfl⟩)
  · have h_81f := c_81
    refine sx_iload (pc := 84) dX3_readField_84 rfl ?_
    refine sx_iload_n (pc := 86) dX3_readField_86 rfl rfl ?_
    refine sx_icmp_ge (pc := 87) (tgt := 99) dX3_readField_87 (by decide) (fun c_87 => ?_) (fun c_87 => ?_)
    · have h_87t := c_87
      refine sx_iconst (pc := 99) (v := (-1)) dX3_readField_99 (by decide) ?_
      exact sx_iret (pc := 100) dX3_readField_100 rfl rfl (Nat.zero_le _) (Nat.zero_le _) (⟨rfl, hC, _, rfl, Or.inl rfl⟩)
    · have h_87f := c_87
      have hlt : q < n := Nat.lt_of_not_le fun z => h_87f (nI_le z (by omega))
      refine sx_aload_n (pc := 90) dX3_readField_90 rfl rfl ?_
      refine sx_iload (pc := 91) dX3_readField_91 rfl ?_
      refine sx_iald (pc := 93) dX3_readField_93 hs (by decide) rfl (vp_in_nI (by omega) (by decide)) ?_
      refine sx_bipush (pc := 94) (v := 124) dX3_readField_94 (by decide) ?_
      refine sx_icmp_eq (pc := 96) (tgt := 101) dX3_readField_96 (by decide) (fun c_96 => ?_) (fun c_96 => ?_)
      · have h_96t := c_96
        refine sx_aload_n (pc := 101) dX3_readField_101 rfl rfl ?_
        refine sx_iload_n (pc := 102) dX3_readField_102 rfl rfl ?_
        refine sx_iload (pc := 103) dX3_readField_103 rfl ?_
        refine sx_callV (pc := 105) (As := [.int lt, .int v]) dX3_readField_105 (c_keep X Ex hE μ _ _) mX3_keepField lm_X3_75 rfl s_Me rfl ⟨Nat.le_of_ble_eq_true rfl, Nat.le_of_ble_eq_true rfl⟩ ⟨Nat.le_of_ble_eq_true rfl, Nat.le_of_ble_eq_true rfl⟩ (Nat.le_of_ble_eq_true rfl) hE (fun r_105 sh1 μ1 h_105 => ?_)
        obtain ⟨rfl, rfl, k_105⟩ := h_105
        refine sx_iload (pc := 108) dX3_readField_108 rfl ?_
        refine sx_iconst (pc := 110) (v := 1) dX3_readField_110 (by decide) ?_
        refine sx_iadd (pc := 111) dX3_readField_111 ?_
        rw [nI_1]
        exact sx_iret (pc := 112) dX3_readField_112 rfl rfl (Nat.zero_le _) (Nat.zero_le _) (⟨rfl, (Ch.trans hC k_105), _, rfl, Or.inr ⟨q + 1, by omega, by omega, rfl⟩⟩)
      · have h_96f := c_96
        refine sx_iconst (pc := 99) (v := (-1)) dX3_readField_99 (by decide) ?_
        exact sx_iret (pc := 100) dX3_readField_100 rfl rfl (Nat.zero_le _) (Nat.zero_le _) (⟨rfl, hC, _, rfl, Or.inl rfl⟩)
set_option maxHeartbeats 1000000 in
set_option maxRecDepth 20000 in
theorem l_rf {X : xD} {Ex : State → Prop} (hE : xEs X false shA.length Ex) {l : Launch} {k n a m : Nat} (hs : shA[k]? = some (shI 60)) (hn : n ≤ 60) (ha : a < n) (hm : m ≤ n) {lt : Int32} {μ0 μ : xM} (hC : Ch SM μ0 μ) : ∀ (t q : Nat) (v : Int32), m - q ≤ t → a + 1 ≤ q → q ≤ n → sx l (rmN 1) X Ex false kX3_readField shA.length (xZ X false shA.length (fun r sh' μ' => shA = sh' ∧ Ch SM μ0 μ' ∧ ∃ x : Int32, r = some (.int x) ∧ (x = (-1) ∨ ∃ b, a < b ∧ b ≤ n ∧ x = nI b)) 0 0) 39 [some (.ref (X.2 + 94)), some (.int lt), some (.ref (X.2 + k)), some (.int (nI n)), some (.int (nI a)), some (.int (nI (a + 1))), some (.int (nI m)), some (.int v), some (.int (nI q))] [] shA μ 0 0 := by
  intro t
  induction t with
  | zero =>
    intro q v ht hq hqn
    refine sx_iload (pc := 39) dX3_readField_39 rfl ?_
    refine sx_iload (pc := 41) dX3_readField_41 rfl ?_
    refine sx_icmp_ge (pc := 43) (tgt := 77) dX3_readField_43 (by decide) (fun c_43 => ?_) (fun c_43 => absurd (nI_le (a := m) (b := q) (by omega) (by omega)) c_43)
    exact l_rf_end hE hs hn ha hm hC _ _ hq hqn
  | succ t ih =>
    intro q v ht hq hqn
    refine sx_iload (pc := 39) dX3_readField_39 rfl ?_
    refine sx_iload (pc := 41) dX3_readField_41 rfl ?_
    refine sx_icmp_ge (pc := 43) (tgt := 77) dX3_readField_43 (by decide) (fun c_43 => ?_) (fun c_43 => ?_)
    · have h_43t := c_43
      exact l_rf_end hE hs hn ha hm hC _ _ hq hqn
    · have h_43f := c_43
      have hlt : q < m := Nat.lt_of_not_le fun z => h_43f (nI_le z (by omega))
      refine sx_aload_n (pc := 46) dX3_readField_46 rfl rfl ?_
      refine sx_iload (pc := 47) dX3_readField_47 rfl ?_
      refine sx_iald (pc := 49) dX3_readField_49 hs (by decide) rfl (vp_in_nI (by omega) (by decide)) ?_
      refine sx_callSN (host := "ExchangeWire") (pc := 50) (As := [.int (μ k (nI q).toNatClampNeg)]) dX3_readField_50 (c_isDigit X Ex false shA μ _) mX5_isDigit (by decide +kernel) rfl ⟨Nat.le_of_ble_eq_true rfl, Nat.le_of_ble_eq_true rfl⟩ ⟨Nat.le_of_ble_eq_true rfl, Nat.le_of_ble_eq_true rfl⟩ (Nat.le_of_ble_eq_true rfl) hE (fun r_50 sh1 μ1 h_50 => ?_)
      obtain ⟨rfl, rfl, x_50, rfl, hx_50⟩ := h_50
      refine sx_if_eq (pc := 53) (tgt := 77) dX3_readField_53 (by decide) (fun c_53 => ?_) (fun c_53 => ?_)
      · have h_53t := c_53
        exact l_rf_end hE hs hn ha hm hC _ _ hq hqn
      · have h_53f := c_53
        refine sx_iload (pc := 56) dX3_readField_56 rfl ?_
        refine sx_bipush (pc := 58) (v := 10) dX3_readField_58 (by decide) ?_
        refine sx_imul (pc := 60) dX3_readField_60 ?_
        refine sx_aload_n (pc := 61) dX3_readField_61 rfl rfl ?_
        refine sx_iload (pc := 62) dX3_readField_62 rfl ?_
        refine sx_iald (pc := 64) dX3_readField_64 hs (by decide) rfl (vp_in_nI (by omega) (by decide)) ?_
        refine sx_iadd (pc := 65) dX3_readField_65 ?_
        refine sx_bipush (pc := 66) (v := 48) dX3_readField_66 (by decide) ?_
        refine sx_isub (pc := 68) dX3_readField_68 ?_
        refine sx_istore (pc := 69) (L' := [some (.ref (X.2 + 94)), some (.int lt), some (.ref (X.2 + k)), some (.int (nI n)), some (.int (nI a)), some (.int (nI (a + 1))), some (.int (nI m)), some (.int (((v * 10) + (μ k (nI q).toNatClampNeg)) - 48)), some (.int (nI q))]) dX3_readField_69 (by decide) rfl ?_
        refine sx_iinc (pc := 71) (v := nI (q + 1)) (L' := [some (.ref (X.2 + 94)), some (.int lt), some (.ref (X.2 + k)), some (.int (nI n)), some (.int (nI a)), some (.int (nI (a + 1))), some (.int (nI m)), some (.int (((v * 10) + (μ k (nI q).toNatClampNeg)) - 48)), some (.int (nI (q + 1)))]) dX3_readField_71 rfl (nI_1 q) (by decide) rfl ?_
        refine sx_goto (pc := 74) (tgt := 39) dX3_readField_74 (by decide) ?_
        exact ih (q + 1) _ (by omega) (by omega) (by omega)
set_option maxHeartbeats 1000000 in
set_option maxRecDepth 20000 in
theorem c_readField (X : xD) (Ex : State → Prop) (hE : xEs X false shA.length Ex) (μ : xM) (k n a : Nat) (hs : shA[k]? = some (shI 60)) (hn : n ≤ 60) (ha : a ≤ n) (lt : Int32) : Ct X Ex false yX3_readField kX3_readField (rmN 1) [.ref (X.2 + 94), .int lt, .ref (X.2 + k), .int (nI n), .int (nI a)] shA μ (fun r sh' μ' => shA = sh' ∧ Ch SM μ μ' ∧ ∃ x : Int32, r = some (.int x) ∧ (x = (-1) ∨ ∃ b, a < b ∧ b ≤ n ∧ x = nI b)) := by
  refine Ct.of (L0 := [some (.ref (X.2 + 94)), some (.int lt), some (.ref (X.2 + k)), some (.int (nI n)), some (.int (nI a)), none, none, none, none]) (by decide) rfl (fun h => by cases h) (by simp [Value.category]) (Nat.le_of_ble_eq_true rfl) rfl (fun l => ?_)
  refine sx_iload (pc := 0) dX3_readField_0 rfl ?_
  refine sx_iload_n (pc := 2) dX3_readField_2 rfl rfl ?_
  refine sx_icmp_ge (pc := 3) (tgt := 14) dX3_readField_3 (by decide) (fun c_3 => ?_) (fun c_3 => ?_)
  · have h_3t := c_3
    refine sx_iconst (pc := 14) (v := (-1)) dX3_readField_14 (by decide) ?_
    exact sx_iret (pc := 15) dX3_readField_15 rfl rfl (Nat.zero_le _) (Nat.zero_le _) (⟨rfl, (Ch.rf), _, rfl, Or.inl rfl⟩)
  · have h_3f := c_3
    have hlt : a < n := Nat.lt_of_not_le fun z => h_3f (nI_le z (by omega))
    refine sx_aload_n (pc := 6) dX3_readField_6 rfl rfl ?_
    refine sx_iload (pc := 7) dX3_readField_7 rfl ?_
    refine sx_iald (pc := 9) dX3_readField_9 hs (by decide) rfl (vp_in_nI (by omega) (by decide)) ?_
    refine sx_iload_n (pc := 10) dX3_readField_10 rfl rfl ?_
    refine sx_icmp_eq (pc := 11) (tgt := 16) dX3_readField_11 (by decide) (fun c_11 => ?_) (fun c_11 => ?_)
    · have h_11t := c_11
      refine sx_iload (pc := 16) dX3_readField_16 rfl ?_
      refine sx_iconst (pc := 18) (v := 1) dX3_readField_18 (by decide) ?_
      refine sx_iadd (pc := 19) dX3_readField_19 ?_
      rw [nI_1]
      refine sx_istore (pc := 20) (L' := [some (.ref (X.2 + 94)), some (.int lt), some (.ref (X.2 + k)), some (.int (nI n)), some (.int (nI a)), some (.int (nI (a + 1))), none, none, none]) dX3_readField_20 (by decide) rfl ?_
      refine sx_iload_n (pc := 22) dX3_readField_22 rfl rfl ?_
      refine sx_iload (pc := 23) dX3_readField_23 rfl ?_
      refine sx_iconst (pc := 25) (v := 5) dX3_readField_25 (by decide) ?_
      refine sx_iadd (pc := 26) dX3_readField_26 ?_
      refine sx_mmin (pc := 27) dX3_readField_27 lm_X3_69 (Nat.le_of_ble_eq_true rfl) (Nat.le_of_ble_eq_true rfl) ?_
      rw [show (5 : Int32) = nI 5 from rfl, nI_add, mmin_nI (a := n) (b := a + 1 + 5) (by omega) (by omega)]
      refine sx_istore (pc := 30) (L' := [some (.ref (X.2 + 94)), some (.int lt), some (.ref (X.2 + k)), some (.int (nI n)), some (.int (nI a)), some (.int (nI (a + 1))), some (.int (nI (min n (a + 1 + 5)))), none, none]) dX3_readField_30 (by decide) rfl ?_
      refine sx_iconst (pc := 32) (v := 0) dX3_readField_32 (by decide) ?_
      refine sx_istore (pc := 33) (L' := [some (.ref (X.2 + 94)), some (.int lt), some (.ref (X.2 + k)), some (.int (nI n)), some (.int (nI a)), some (.int (nI (a + 1))), some (.int (nI (min n (a + 1 + 5)))), some (.int 0), none]) dX3_readField_33 (by decide) rfl ?_
      refine sx_iload (pc := 35) dX3_readField_35 rfl ?_
      refine sx_istore (pc := 37) (L' := [some (.ref (X.2 + 94)), some (.int lt), some (.ref (X.2 + k)), some (.int (nI n)), some (.int (nI a)), some (.int (nI (a + 1))), some (.int (nI (min n (a + 1 + 5)))), some (.int 0), some (.int (nI (a + 1)))]) dX3_readField_37 (by decide) rfl ?_
      exact l_rf hE hs hn hlt (Nat.min_le_left _ _) Ch.rf 60 _ _ (by omega) (Nat.le_refl _) (by omega)
    · have h_11f := c_11
      refine sx_iconst (pc := 14) (v := (-1)) dX3_readField_14 (by decide) ?_
      exact sx_iret (pc := 15) dX3_readField_15 rfl rfl (Nat.zero_le _) (Nat.zero_le _) (⟨rfl, (Ch.rf), _, rfl, Or.inl rfl⟩)
set_option maxHeartbeats 1000000 in
set_option maxRecDepth 20000 in
theorem l_read {X : xD} {Ex : State → Prop} (hE : xEs X false shA.length Ex) {sk sv : Nat → Nat} {fm : Nat} (hS : ∀ s, Ex s → ExS X sk sv fm s) {l : Launch} {k n : Nat} (hs : shA[k]? = some (shI 60)) (hn : n ≤ 60) {i : Nat} (hi : i < 5) {μ0 : xM} : ∀ (t j a : Nat) (μ : xM), sLen.getD i 0 - j ≤ t → j ≤ sLen.getD i 0 → 2 ≤ a → a ≤ n → Ch SM μ0 μ → sx l (rmN 4) X Ex false kX3_read shA.length (xZ X false shA.length (fun r sh' μ' => shA = sh' ∧ Ch SM μ0 μ' ∧ ∃ x : Int32, r = some (.int x) ∧ (x = 0 ∨ x = 1)) 0 0) 62 [some (.ref (X.2 + 94)), some (.ref (X.2 + k)), some (.int (nI n)), some (.ref (sk i)), some (.int (nI a)), some (.int (nI j))] [] shA μ 0 0 := by
  have hl3 : sLen.getD i 0 < 3 := by rcases (show i = 0 ∨ i = 1 ∨ i = 2 ∨ i = 3 ∨ i = 4 by omega) with rfl | rfl | rfl | rfl | rfl <;> decide
  intro t
  induction t with
  | zero =>
    intro j a μ ht hj ha2 han hC
    refine sx_iload (pc := 62) dX3_read_62 rfl ?_
    refine sx_aload_n (pc := 64) dX3_read_64 rfl rfl ?_
    refine sx_callO (pc := 65) (As := []) dX3_read_65 (j_length X Ex false shA μ hE hS i hi) mJ0_length_8abf5 lm_X3_38 rfl (fun s h => ((hS s h).1.1 i hi).1) ⟨Nat.le_of_ble_eq_true rfl, Nat.le_of_ble_eq_true rfl⟩ ⟨Nat.le_of_ble_eq_true rfl, Nat.le_of_ble_eq_true rfl⟩ (Nat.le_of_ble_eq_true rfl) hE (fun r_65 sh1 μ1 h_65 => ?_)
    obtain ⟨rfl, rfl, rfl⟩ := h_65
    refine sx_icmp_ge (pc := 68) (tgt := 101) dX3_read_68 (by decide) (fun c_68 => ?_) (fun c_68 => absurd (nI_le (by omega) (by omega)) c_68)
    refine sx_aload_n (pc := 101) dX3_read_101 rfl rfl ?_
    refine sx_iload_n (pc := 102) dX3_read_102 rfl rfl ?_
    refine sx_iload (pc := 103) dX3_read_103 rfl ?_
    refine sx_callS (pc := 105) (As := [.ref (X.2 + k), .int (nI n), .int (nI a)]) dX3_read_105 (c_endsWithSum X Ex hE μ k hs _ _ ⟨Int32.not_lt.mp (nI_pos (by omega)), nI_le han (by omega), nI_le hn (by decide)⟩) mX3_endsWithSum lm_X3_52 rfl ⟨Nat.le_of_ble_eq_true rfl, Nat.le_of_ble_eq_true rfl⟩ ⟨Nat.le_of_ble_eq_true rfl, Nat.le_of_ble_eq_true rfl⟩ (Nat.le_of_ble_eq_true rfl) hE (fun r_105 sh1 μ2 h_105 => ?_)
    obtain ⟨rfl, rfl, x_105, rfl, hx_105⟩ := h_105
    exact sx_iret (pc := 108) dX3_read_108 rfl (bool_n hx_105) (Nat.zero_le _) (Nat.zero_le _) (⟨rfl, hC, _, rfl, hx_105⟩)
  | succ t ih =>
    intro j a μ ht hj ha2 han hC
    refine sx_iload (pc := 62) dX3_read_62 rfl ?_
    refine sx_aload_n (pc := 64) dX3_read_64 rfl rfl ?_
    refine sx_callO (pc := 65) (As := []) dX3_read_65 (j_length X Ex false shA μ hE hS i hi) mJ0_length_8abf5 lm_X3_38 rfl (fun s h => ((hS s h).1.1 i hi).1) ⟨Nat.le_of_ble_eq_true rfl, Nat.le_of_ble_eq_true rfl⟩ ⟨Nat.le_of_ble_eq_true rfl, Nat.le_of_ble_eq_true rfl⟩ (Nat.le_of_ble_eq_true rfl) hE (fun r_65 sh1 μ1 h_65 => ?_)
    obtain ⟨rfl, rfl, rfl⟩ := h_65
    refine sx_icmp_ge (pc := 68) (tgt := 101) dX3_read_68 (by decide) (fun c_68 => ?_) (fun c_68 => ?_)
    · have h_68t := c_68
      refine sx_aload_n (pc := 101) dX3_read_101 rfl rfl ?_
      refine sx_iload_n (pc := 102) dX3_read_102 rfl rfl ?_
      refine sx_iload (pc := 103) dX3_read_103 rfl ?_
      refine sx_callS (pc := 105) (As := [.ref (X.2 + k), .int (nI n), .int (nI a)]) dX3_read_105 (c_endsWithSum X Ex hE μ k hs _ _ ⟨Int32.not_lt.mp (nI_pos (by omega)), nI_le han (by omega), nI_le hn (by decide)⟩) mX3_endsWithSum lm_X3_52 rfl ⟨Nat.le_of_ble_eq_true rfl, Nat.le_of_ble_eq_true rfl⟩ ⟨Nat.le_of_ble_eq_true rfl, Nat.le_of_ble_eq_true rfl⟩ (Nat.le_of_ble_eq_true rfl) hE (fun r_105 sh1 μ2 h_105 => ?_)
      obtain ⟨rfl, rfl, x_105, rfl, hx_105⟩ := h_105
      exact sx_iret (pc := 108) dX3_read_108 rfl (bool_n hx_105) (Nat.zero_le _) (Nat.zero_le _) (⟨rfl, hC, _, rfl, hx_105⟩)
    · have h_68f := c_68
      have hlt : j < sLen.getD i 0 := Nat.lt_of_not_le fun z => h_68f (nI_le z (by omega))
      refine sx_aload_n (pc := 71) dX3_read_71 rfl rfl ?_
      refine sx_aload_n (pc := 72) dX3_read_72 rfl rfl ?_
      refine sx_iload (pc := 73) dX3_read_73 rfl ?_
      refine sx_callO (pc := 75) (As := [.int (nI j)]) dX3_read_75 (j_charAt X Ex false shA μ hE hS i hi j hlt) mJ0_charAt_5068e lm_X3_44 rfl (fun s h => ((hS s h).1.1 i hi).1) ⟨Nat.le_of_ble_eq_true rfl, Nat.le_of_ble_eq_true rfl⟩ ⟨Nat.le_of_ble_eq_true rfl, Nat.le_of_ble_eq_true rfl⟩ (Nat.le_of_ble_eq_true rfl) hE (fun r_75 sh1 μ3 h_75 => ?_)
      obtain ⟨rfl, rfl, rfl⟩ := h_75
      refine sx_aload_n (pc := 78) dX3_read_78 rfl rfl ?_
      refine sx_iload_n (pc := 79) dX3_read_79 rfl rfl ?_
      refine sx_iload (pc := 80) dX3_read_80 rfl ?_
      refine sx_callV (pc := 82) (As := [.int ((sByt.getD i []).getD j 0), .ref (X.2 + k), .int (nI n), .int (nI a)]) dX3_read_82 (c_readField X Ex hE μ k n a hs hn han _) mX3_readField lm_X3_48 rfl s_Me rfl ⟨Nat.le_of_ble_eq_true rfl, Nat.le_of_ble_eq_true rfl⟩ ⟨Nat.le_of_ble_eq_true rfl, Nat.le_of_ble_eq_true rfl⟩ (Nat.le_of_ble_eq_true rfl) hE (fun r_82 sh1 μ4 h_82 => ?_)
      obtain ⟨rfl, k_82, x_82, rfl, hx_82⟩ := h_82
      rcases hx_82 with rfl | ⟨b, hb1, hb2, rfl⟩
      · skip
        refine sx_istore (pc := 85) (L' := [some (.ref (X.2 + 94)), some (.ref (X.2 + k)), some (.int (nI n)), some (.ref (sk i)), some (.int (-1)), some (.int (nI j))]) dX3_read_85 (by decide) rfl ?_
        refine sx_iload (pc := 87) dX3_read_87 rfl ?_
        refine sx_iconst (pc := 89) (v := (-1)) dX3_read_89 (by decide) ?_
        refine sx_icmp_ne (pc := 90) (tgt := 95) dX3_read_90 (by decide) (fun c_90 => absurd c_90 (by decide)) (fun c_90 => ?_)
        refine sx_iconst (pc := 93) (v := 0) dX3_read_93 (by decide) ?_
        exact sx_iret (pc := 94) dX3_read_94 rfl rfl (Nat.zero_le _) (Nat.zero_le _) (⟨rfl, (Ch.trans hC k_82), _, rfl, Or.inl rfl⟩)
      · skip
        refine sx_istore (pc := 85) (L' := [some (.ref (X.2 + 94)), some (.ref (X.2 + k)), some (.int (nI n)), some (.ref (sk i)), some (.int (nI b)), some (.int (nI j))]) dX3_read_85 (by decide) rfl ?_
        refine sx_iload (pc := 87) dX3_read_87 rfl ?_
        refine sx_iconst (pc := 89) (v := (-1)) dX3_read_89 (by decide) ?_
        refine sx_icmp_ne (pc := 90) (tgt := 95) dX3_read_90 (by decide) (fun c_90 => ?_) (fun c_90 => absurd c_90 (m1_ne (b := b) (by omega)))
        refine sx_iinc (pc := 95) (v := nI (j + 1)) (L' := [some (.ref (X.2 + 94)), some (.ref (X.2 + k)), some (.int (nI n)), some (.ref (sk i)), some (.int (nI b)), some (.int (nI (j + 1)))]) dX3_read_95 rfl (nI_1 j) (by decide) rfl ?_
        refine sx_goto (pc := 98) (tgt := 62) dX3_read_98 (by decide) ?_
        exact ih (j + 1) b _ (by omega) (by omega) (by omega) (by omega) (Ch.trans hC k_82)
set_option maxHeartbeats 1000000 in
set_option maxRecDepth 20000 in
theorem c_read (X : xD) (Ex : State → Prop) (hE : xEs X false shA.length Ex) (μ : xM) {sk sv : Nat → Nat} {fm : Nat} (hS : ∀ s, Ex s → ExS X sk sv fm s) (k : Nat) (hs : shA[k]? = some (shI 60)) (cnt : Int32) : Ct X Ex false yX3_read kX3_read (rmN 4) [.ref (X.2 + 94), .ref (X.2 + k), .int cnt] shA μ (fun r sh' μ' => shA = sh' ∧ Ch SM μ μ' ∧ ∃ x : Int32, r = some (.int x) ∧ (x = 0 ∨ x = 1)) := by
  refine Ct.of (L0 := [some (.ref (X.2 + 94)), some (.ref (X.2 + k)), some (.int cnt), none, none, none]) (by decide) rfl (fun h => by cases h) (by simp [Value.category]) (Nat.le_of_ble_eq_true rfl) rfl (fun l => ?_)
  refine sx_aload_n (pc := 0) dX3_read_0 rfl rfl ?_
  refine sx_callV (pc := 1) (As := []) dX3_read_1 (c_forget X Ex hE μ) mX3_forget lm_X3_27 rfl s_Me rfl ⟨Nat.le_of_ble_eq_true rfl, Nat.le_of_ble_eq_true rfl⟩ ⟨Nat.le_of_ble_eq_true rfl, Nat.le_of_ble_eq_true rfl⟩ (Nat.le_of_ble_eq_true rfl) hE (fun r_1 sh1 μ1 h_1 => ?_)
  obtain ⟨rfl, rfl, k_1⟩ := h_1
  refine sx_iload_n (pc := 4) dX3_read_4 rfl rfl ?_
  refine sx_iconst (pc := 5) (v := 2) dX3_read_5 (by decide) ?_
  refine sx_icmp_lt (pc := 6) (tgt := 15) dX3_read_6 (by decide) (fun c_6 => ?_) (fun c_6 => ?_)
  · have h_6t := c_6
    refine sx_iconst (pc := 15) (v := 0) dX3_read_15 (by decide) ?_
    exact sx_iret (pc := 16) dX3_read_16 rfl rfl (Nat.zero_le _) (Nat.zero_le _) (⟨rfl, (Ch.trans (Ch.rf) k_1), _, rfl, Or.inl rfl⟩)
  · have h_6f := c_6
    refine sx_iload_n (pc := 9) dX3_read_9 rfl rfl ?_
    refine sx_aload_n (pc := 10) dX3_read_10 rfl rfl ?_
    refine sx_alen (pc := 11) (v := 60) dX3_read_11 hs rfl (by decide) ?_
    refine sx_icmp_le (pc := 12) (tgt := 17) dX3_read_12 (by decide) (fun c_12 => ?_) (fun c_12 => ?_)
    · have h_12t := c_12
      obtain ⟨n, hn, rfl⟩ := nI_of2 (x := cnt) (M := 60) (n := 60) rfl (fun q => h_6f (Int32.lt_of_lt_of_le q (by decide))) h_12t
      have hn2 : 2 ≤ n := Nat.le_of_not_lt fun z => h_6f (nI_lt (a := n) (b := 2) z (by decide))
      refine sx_aload_n (pc := 17) dX3_read_17 rfl rfl ?_
      refine sx_iconst (pc := 18) (v := 0) dX3_read_18 (by decide) ?_
      refine sx_iald (pc := 19) dX3_read_19 hs (by decide) rfl (by unfold vp_in; decide) ?_
      refine sx_callS (pc := 20) (As := [.int (μ1 k (0 : Int32).toNatClampNeg)]) dX3_read_20 (c_fieldsOf X Ex hE μ1 hS _) mX3_fieldsOf lm_X3_30 rfl ⟨Nat.le_of_ble_eq_true rfl, Nat.le_of_ble_eq_true rfl⟩ ⟨Nat.le_of_ble_eq_true rfl, Nat.le_of_ble_eq_true rfl⟩ (Nat.le_of_ble_eq_true rfl) hE (fun r_20 sh1 μx h_20 => ?_)
      obtain ⟨rfl, rfl, h_20⟩ := h_20
      rcases h_20 with ⟨hK, rfl⟩ | ⟨i, hi, hK, rfl⟩
      · skip
        refine sx_astore_nN (pc := 23) (L' := [some (.ref (X.2 + 94)), some (.ref (X.2 + k)), some (.int (nI n)), some (.null), none, none]) dX3_read_23 rfl (by decide) rfl ?_
        refine sx_aload_nN (pc := 24) dX3_read_24 rfl rfl ?_
        refine sx_ifnullN (pc := 25) (tgt := 37) dX3_read_25 (by decide) ?_
        refine sx_iconst (pc := 37) (v := 0) dX3_read_37 (by decide) ?_
        exact sx_iret (pc := 38) dX3_read_38 rfl rfl (Nat.zero_le _) (Nat.zero_le _) (⟨rfl, (Ch.trans (Ch.rf) k_1), _, rfl, Or.inl rfl⟩)
      · skip
        refine sx_astore_n (pc := 23) (L' := [some (.ref (X.2 + 94)), some (.ref (X.2 + k)), some (.int (nI n)), some (.ref (sk i)), none, none]) dX3_read_23 rfl (by decide) rfl ?_
        refine sx_aload_n (pc := 24) dX3_read_24 rfl rfl ?_
        refine sx_ifnull (pc := 25) dX3_read_25 ?_
        refine sx_aload_n (pc := 28) dX3_read_28 rfl rfl ?_
        refine sx_iconst (pc := 29) (v := 1) dX3_read_29 (by decide) ?_
        refine sx_iald (pc := 30) dX3_read_30 hs (by decide) rfl (by unfold vp_in; decide) ?_
        refine sx_callSN (host := "ExchangeWire") (pc := 31) (As := [.int (μ1 k (1 : Int32).toNatClampNeg)]) dX3_read_31 (c_isDigit X Ex false shA μ1 _) mX5_isDigit (by decide +kernel) rfl ⟨Nat.le_of_ble_eq_true rfl, Nat.le_of_ble_eq_true rfl⟩ ⟨Nat.le_of_ble_eq_true rfl, Nat.le_of_ble_eq_true rfl⟩ (Nat.le_of_ble_eq_true rfl) hE (fun r_31 sh1 μ2 h_31 => ?_)
        obtain ⟨rfl, rfl, x_31, rfl, hx_31⟩ := h_31
        refine sx_if_ne (pc := 34) (tgt := 39) dX3_read_34 (by decide) (fun c_34 => ?_) (fun c_34 => ?_)
        · have h_34t := c_34
          refine sx_aload_n (pc := 39) dX3_read_39 rfl rfl ?_
          refine sx_aload_n (pc := 40) dX3_read_40 rfl rfl ?_
          refine sx_iconst (pc := 41) (v := 0) dX3_read_41 (by decide) ?_
          refine sx_iald (pc := 42) dX3_read_42 hs (by decide) rfl (by unfold vp_in; decide) ?_
          refine sx_puti (pc := 43) (ci := 3) (j := 0) (ty := .int) dX3_read_43 rfl s_Me rfl (by decide) lf_X3_9 rfl (by decide +kernel) rfl rfl (fun μ3 hμ3 => ?_)
          refine sx_aload_n (pc := 46) dX3_read_46 rfl rfl ?_
          refine sx_aload_n (pc := 47) dX3_read_47 rfl rfl ?_
          refine sx_iconst (pc := 48) (v := 1) dX3_read_48 (by decide) ?_
          refine sx_iald (pc := 49) dX3_read_49 hs (by decide) rfl (by unfold vp_in; decide) ?_
          refine sx_bipush (pc := 50) (v := 48) dX3_read_50 (by decide) ?_
          refine sx_isub (pc := 52) dX3_read_52 ?_
          refine sx_puti (pc := 53) (ci := 3) (j := 1) (ty := .int) dX3_read_53 rfl s_Me rfl (by decide) lf_X3_15 rfl (by decide +kernel) rfl rfl (fun μ4 hμ4 => ?_)
          refine sx_iconst (pc := 56) (v := 2) dX3_read_56 (by decide) ?_
          refine sx_istore (pc := 57) (L' := [some (.ref (X.2 + 94)), some (.ref (X.2 + k)), some (.int (nI n)), some (.ref (sk i)), some (.int 2), none]) dX3_read_57 (by decide) rfl ?_
          refine sx_iconst (pc := 59) (v := 0) dX3_read_59 (by decide) ?_
          refine sx_istore (pc := 60) (L' := [some (.ref (X.2 + 94)), some (.ref (X.2 + k)), some (.int (nI n)), some (.ref (sk i)), some (.int 2), some (.int 0)]) dX3_read_60 (by decide) rfl ?_
          exact l_read hE hS hs hn hi 2 0 2 _ (sl2 hi) (Nat.zero_le _) (Nat.le_refl _) hn2 (Ch.put (Ch.put (Ch.trans (Ch.rf) k_1) hμ3 (by omega) (LB.off hμ3 ⟨by omega, fun _ _ => by omega⟩)) hμ4 (by omega) (LB.off hμ4 ⟨by omega, fun _ _ => by omega⟩))
        · have h_34f := c_34
          refine sx_iconst (pc := 37) (v := 0) dX3_read_37 (by decide) ?_
          exact sx_iret (pc := 38) dX3_read_38 rfl rfl (Nat.zero_le _) (Nat.zero_le _) (⟨rfl, (Ch.trans (Ch.rf) k_1), _, rfl, Or.inl rfl⟩)
    · have h_12f := c_12
      refine sx_iconst (pc := 15) (v := 0) dX3_read_15 (by decide) ?_
      exact sx_iret (pc := 16) dX3_read_16 rfl rfl (Nat.zero_le _) (Nat.zero_le _) (⟨rfl, (Ch.trans (Ch.rf) k_1), _, rfl, Or.inl rfl⟩)
theorem gd_of {μ : xM} {i j : Nat} (hi : i < 5) (hK : fK (μ 94 0) = some i) (hj : sLen.getD i 0 ≤ j) (h : ∀ j2, j2 < j → (((sByt.getD i []).getD j2 0 = 97 → 0 ≤ μ 94 2 ∧ μ 94 2 < 30) ∧ ((sByt.getD i []).getD j2 0 = 98 → 0 ≤ μ 94 3 ∧ μ 94 3 < 30))) : GD μ := by
  intro i' hi'
  rw [hK] at hi'
  cases hi'
  rcases (show i = 0 ∨ i = 1 ∨ i = 2 ∨ i = 3 ∨ i = 4 by omega) with rfl | rfl | rfl | rfl | rfl
  · exact ⟨fun q => by omega, fun q => by omega⟩
  · have h5 : 2 ≤ j := hj
    exact ⟨fun _ => (h 1 (by omega)).2 rfl, fun _ => (h 0 (by omega)).1 rfl⟩
  · have h5 : 1 ≤ j := hj
    exact ⟨fun _ => (h 0 (by omega)).2 rfl, fun q => by omega⟩
  · have h5 : 1 ≤ j := hj
    exact ⟨fun q => by omega, fun _ => (h 0 (by omega)).1 rfl⟩
  · have h5 : 2 ≤ j := hj
    exact ⟨fun q => by omega, fun _ => (h 0 (by omega)).1 rfl⟩
theorem ch_ne {i j : Nat} (hi : i < 5) (hj : j < sLen.getD i 0) : (sByt.getD i []).getD j 0 ≠ (-1) ∧ narrow .int (.int ((sByt.getD i []).getD j 0)) = .int ((sByt.getD i []).getD j 0) := by
  rcases (show (i = 1 ∧ j = 0) ∨ (i = 1 ∧ j = 1) ∨ (i = 2 ∧ j = 0) ∨ (i = 3 ∧ j = 0) ∨ (i = 4 ∧ j = 0) ∨ (i = 4 ∧ j = 1) by rcases (show i = 0 ∨ i = 1 ∨ i = 2 ∨ i = 3 ∨ i = 4 by omega) with rfl | rfl | rfl | rfl | rfl <;> simp at hj <;> omega) with ⟨rfl, rfl⟩ | ⟨rfl, rfl⟩ | ⟨rfl, rfl⟩ | ⟨rfl, rfl⟩ | ⟨rfl, rfl⟩ | ⟨rfl, rfl⟩ <;> exact ⟨by decide, rfl⟩
set_option maxHeartbeats 1000000 in
set_option maxRecDepth 20000 in
theorem l_fb {X : xD} {Ex : State → Prop} (hE : xEs X false shA.length Ex) {sk sv : Nat → Nat} {fm : Nat} (hS : ∀ s, Ex s → ExS X sk sv fm s) {l : Launch} {i : Nat} (hi : i < 5) {μ : xM} (hK : fK (μ 94 0) = some i) : ∀ (t j : Nat), sLen.getD i 0 - j ≤ t → j ≤ sLen.getD i 0 → (∀ j2, j2 < j → (((sByt.getD i []).getD j2 0 = 97 → 0 ≤ μ 94 2 ∧ μ 94 2 < 30) ∧ ((sByt.getD i []).getD j2 0 = 98 → 0 ≤ μ 94 3 ∧ μ 94 3 < 30))) → sx l (rmN 4) X Ex false kX3_firstBadField shA.length (xZ X false shA.length (fun r sh' μ' => shA = sh' ∧ μ = μ' ∧ ∃ x : Int32, r = some (.int x) ∧ (x = (-1) → GD μ)) 0 0) 16 [some (.ref (X.2 + 94)), some (.ref (sk i)), some (.int (nI j))] [] shA μ 0 0 := by
  have hl3 : sLen.getD i 0 < 3 := by rcases (show i = 0 ∨ i = 1 ∨ i = 2 ∨ i = 3 ∨ i = 4 by omega) with rfl | rfl | rfl | rfl | rfl <;> decide
  intro t
  induction t with
  | zero =>
    intro j ht hj hG
    refine sx_iload_n (pc := 16) dX3_firstBadField_16 rfl rfl ?_
    refine sx_aload_n (pc := 17) dX3_firstBadField_17 rfl rfl ?_
    refine sx_callO (pc := 18) (As := []) dX3_firstBadField_18 (j_length X Ex false shA μ hE hS i hi) mJ0_length_8abf5 lm_X3_38 rfl (fun s h => ((hS s h).1.1 i hi).1) ⟨Nat.le_of_ble_eq_true rfl, Nat.le_of_ble_eq_true rfl⟩ ⟨Nat.le_of_ble_eq_true rfl, Nat.le_of_ble_eq_true rfl⟩ (Nat.le_of_ble_eq_true rfl) hE (fun r_18 sh1 μ1 h_18 => ?_)
    obtain ⟨rfl, rfl, rfl⟩ := h_18
    refine sx_icmp_ge (pc := 21) (tgt := 48) dX3_firstBadField_21 (by decide) (fun c_21 => ?_) (fun c_21 => absurd (nI_le (by omega) (by omega)) c_21)
    refine sx_iconst (pc := 48) (v := (-1)) dX3_firstBadField_48 (by decide) ?_
    exact sx_iret (pc := 49) dX3_firstBadField_49 rfl rfl (Nat.zero_le _) (Nat.zero_le _) (⟨rfl, rfl, _, rfl, fun _ => gd_of hi hK (j := j) (by omega) hG⟩)
  | succ t ih =>
    intro j ht hj hG
    refine sx_iload_n (pc := 16) dX3_firstBadField_16 rfl rfl ?_
    refine sx_aload_n (pc := 17) dX3_firstBadField_17 rfl rfl ?_
    refine sx_callO (pc := 18) (As := []) dX3_firstBadField_18 (j_length X Ex false shA μ hE hS i hi) mJ0_length_8abf5 lm_X3_38 rfl (fun s h => ((hS s h).1.1 i hi).1) ⟨Nat.le_of_ble_eq_true rfl, Nat.le_of_ble_eq_true rfl⟩ ⟨Nat.le_of_ble_eq_true rfl, Nat.le_of_ble_eq_true rfl⟩ (Nat.le_of_ble_eq_true rfl) hE (fun r_18 sh1 μ1 h_18 => ?_)
    obtain ⟨rfl, rfl, rfl⟩ := h_18
    refine sx_icmp_ge (pc := 21) (tgt := 48) dX3_firstBadField_21 (by decide) (fun c_21 => ?_) (fun c_21 => ?_)
    · have h_21t := c_21
      have hge : sLen.getD i 0 ≤ j := Nat.le_of_not_lt fun z => absurd (nI_lt z (by omega)) (Int32.not_lt.mpr h_21t)
      refine sx_iconst (pc := 48) (v := (-1)) dX3_firstBadField_48 (by decide) ?_
      exact sx_iret (pc := 49) dX3_firstBadField_49 rfl rfl (Nat.zero_le _) (Nat.zero_le _) (⟨rfl, rfl, _, rfl, fun _ => gd_of hi hK (j := j) hge hG⟩)
    · have h_21f := c_21
      have hlt : j < sLen.getD i 0 := Nat.lt_of_not_le fun z => h_21f (nI_le z (by omega))
      refine sx_aload_n (pc := 24) dX3_firstBadField_24 rfl rfl ?_
      refine sx_aload_n (pc := 25) dX3_firstBadField_25 rfl rfl ?_
      refine sx_iload_n (pc := 26) dX3_firstBadField_26 rfl rfl ?_
      refine sx_callO (pc := 27) (As := [.int (nI j)]) dX3_firstBadField_27 (j_charAt X Ex false shA μ hE hS i hi j hlt) mJ0_charAt_5068e lm_X3_44 rfl (fun s h => ((hS s h).1.1 i hi).1) ⟨Nat.le_of_ble_eq_true rfl, Nat.le_of_ble_eq_true rfl⟩ ⟨Nat.le_of_ble_eq_true rfl, Nat.le_of_ble_eq_true rfl⟩ (Nat.le_of_ble_eq_true rfl) hE (fun r_27 sh1 μ2 h_27 => ?_)
      obtain ⟨rfl, rfl, rfl⟩ := h_27
      refine sx_callV (pc := 30) (As := [.int ((sByt.getD i []).getD j 0)]) dX3_firstBadField_30 (c_good X Ex hE μ _) mX3_isGoodField lm_X3_56 rfl s_Me rfl ⟨Nat.le_of_ble_eq_true rfl, Nat.le_of_ble_eq_true rfl⟩ ⟨Nat.le_of_ble_eq_true rfl, Nat.le_of_ble_eq_true rfl⟩ (Nat.le_of_ble_eq_true rfl) hE (fun r_30 sh1 μ3 h_30 => ?_)
      obtain ⟨rfl, rfl, x_30, rfl, hx_30, hy_30⟩ := h_30
      refine sx_if_ne (pc := 33) (tgt := 42) dX3_firstBadField_33 (by decide) (fun c_33 => ?_) (fun c_33 => ?_)
      · have h_33t := c_33
        refine sx_iinc (pc := 42) (v := nI (j + 1)) (L' := [some (.ref (X.2 + 94)), some (.ref (sk i)), some (.int (nI (j + 1)))]) dX3_firstBadField_42 rfl (nI_1 j) (by decide) rfl ?_
        refine sx_goto (pc := 45) (tgt := 16) dX3_firstBadField_45 (by decide) ?_
        exact ih (j + 1) (by omega) (by omega) (fun j2 h2 => by rcases (show j2 < j ∨ j2 = j by omega) with q | rfl; exact hG j2 q; exact hy_30 h_33t)
      · have h_33f := c_33
        refine sx_aload_n (pc := 36) dX3_firstBadField_36 rfl rfl ?_
        refine sx_iload_n (pc := 37) dX3_firstBadField_37 rfl rfl ?_
        refine sx_callO (pc := 38) (As := [.int (nI j)]) dX3_firstBadField_38 (j_charAt X Ex false shA μ hE hS i hi j hlt) mJ0_charAt_5068e lm_X3_44 rfl (fun s h => ((hS s h).1.1 i hi).1) ⟨Nat.le_of_ble_eq_true rfl, Nat.le_of_ble_eq_true rfl⟩ ⟨Nat.le_of_ble_eq_true rfl, Nat.le_of_ble_eq_true rfl⟩ (Nat.le_of_ble_eq_true rfl) hE (fun r_38 sh1 μ4 h_38 => ?_)
        obtain ⟨rfl, rfl, rfl⟩ := h_38
        exact sx_iret (pc := 41) dX3_firstBadField_41 rfl (ch_ne hi hlt).2 (Nat.zero_le _) (Nat.zero_le _) (⟨rfl, rfl, _, rfl, fun q => absurd q (ch_ne hi hlt).1⟩)
set_option maxHeartbeats 1000000 in
set_option maxRecDepth 20000 in
theorem c_firstBad (X : xD) (Ex : State → Prop) (hE : xEs X false shA.length Ex) (μ : xM) {sk sv : Nat → Nat} {fm : Nat} (hS : ∀ s, Ex s → ExS X sk sv fm s) : Ct X Ex false yX3_firstBadField kX3_firstBadField (rmN 4) [.ref (X.2 + 94)] shA μ (fun r sh' μ' => shA = sh' ∧ μ = μ' ∧ ∃ x : Int32, r = some (.int x) ∧ (x = (-1) → GD μ)) := by
  refine Ct.of (L0 := [some (.ref (X.2 + 94)), none, none]) (by decide) rfl (fun h => by cases h) (by simp [Value.category]) (Nat.le_of_ble_eq_true rfl) rfl (fun l => ?_)
  refine sx_aload_n (pc := 0) dX3_firstBadField_0 rfl rfl ?_
  refine sx_geti (pc := 1) (ci := 3) (j := 0) dX3_firstBadField_1 rfl s_Me rfl (by decide) lf_X3_9 ?_
  refine sx_callS (pc := 4) (As := [.int (μ 94 0)]) dX3_firstBadField_4 (c_fieldsOf X Ex hE μ hS _) mX3_fieldsOf lm_X3_30 rfl ⟨Nat.le_of_ble_eq_true rfl, Nat.le_of_ble_eq_true rfl⟩ ⟨Nat.le_of_ble_eq_true rfl, Nat.le_of_ble_eq_true rfl⟩ (Nat.le_of_ble_eq_true rfl) hE (fun r_4 sh1 μx h_4 => ?_)
  obtain ⟨rfl, rfl, h_4⟩ := h_4
  rcases h_4 with ⟨hK, rfl⟩ | ⟨i, hi, hK, rfl⟩
  · skip
    refine sx_astore_nN (pc := 7) (L' := [some (.ref (X.2 + 94)), some (.null), none]) dX3_firstBadField_7 rfl (by decide) rfl ?_
    refine sx_aload_nN (pc := 8) dX3_firstBadField_8 rfl rfl ?_
    refine sx_ifnonnullN (pc := 9) dX3_firstBadField_9 ?_
    refine sx_iconst (pc := 12) (v := (-1)) dX3_firstBadField_12 (by decide) ?_
    exact sx_iret (pc := 13) dX3_firstBadField_13 rfl rfl (Nat.zero_le _) (Nat.zero_le _) (⟨rfl, rfl, _, rfl, fun _ i hi => by rw [hK] at hi; cases hi⟩)
  · skip
    refine sx_astore_n (pc := 7) (L' := [some (.ref (X.2 + 94)), some (.ref (sk i)), none]) dX3_firstBadField_7 rfl (by decide) rfl ?_
    refine sx_aload_n (pc := 8) dX3_firstBadField_8 rfl rfl ?_
    refine sx_ifnonnull (pc := 9) (tgt := 14) dX3_firstBadField_9 (by decide) ?_
    refine sx_iconst (pc := 14) (v := 0) dX3_firstBadField_14 (by decide) ?_
    refine sx_istore_n (pc := 15) (L' := [some (.ref (X.2 + 94)), some (.ref (sk i)), some (.int 0)]) dX3_firstBadField_15 rfl (by decide) rfl ?_
    exact l_fb hE hS hi hK 2 0 (sl2 hi) (Nat.zero_le _) (fun j2 h2 => absurd h2 (Nat.not_lt_zero _))
end
section
/-! the house -/
theorem inc30 {x : Int32} (h : 0 ≤ x ∧ x < 30) : 0 ≤ x + 1 ∧ x + 1 ≤ 30 := by
  obtain ⟨j, hj, rfl⟩ := nI_of (Int32.not_lt.mpr h.1)
  have h1 := h.2
  rw [show (30 : Int32) = nI 30 from rfl, nI_ltI (by omega) (by omega)] at h1
  rw [nI_1, show (30 : Int32) = nI 30 from rfl, nI_leI (by omega) (by omega)]
  exact ⟨nI_pos' (by omega), by omega⟩
theorem qlen_nat {μ : xM} (hL : LB μ) {i : Nat} (hi : i < 30) : ∃ q, q ≤ 30 ∧ μ 91 i = nI q := by
  obtain ⟨j, hj, e⟩ := nI_of2 (x := μ 91 i) (M := 30) (n := 30) rfl (Int32.not_lt.mpr (hL.2 i hi).1) (hL.2 i hi).2
  exact ⟨j, hj, e⟩
theorem lk5 (w : Int32) : w = 66 ∨ w = 67 ∨ w = 70 ∨ w = 72 ∨ w = 82 ∨ (¬ w = 66 ∧ ¬ w = 67 ∧ ¬ w = 70 ∧ ¬ w = 72 ∧ ¬ w = 82) := by
  by_cases h1 : w = 66
  · simp [h1]
  by_cases h2 : w = 67
  · simp [h2]
  by_cases h3 : w = 70
  · simp [h3]
  by_cases h4 : w = 72
  · simp [h4]
  by_cases h5 : w = 82
  · simp [h5]
  simp [h1, h2, h3, h4, h5]
theorem sw17 (w : Int32) : w = 66 ∨ w = 67 ∨ w = 68 ∨ w = 69 ∨ w = 70 ∨ w = 71 ∨ w = 72 ∨ w = 73 ∨ w = 74 ∨ w = 75 ∨ w = 76 ∨ w = 77 ∨ w = 78 ∨ w = 79 ∨ w = 80 ∨ w = 81 ∨ w = 82 ∨ (w.toInt < 66 ∨ 82 < w.toInt) := by
  have h := sw18 w
  rcases h with rfl | rfl | rfl | rfl | rfl | rfl | rfl | rfl | rfl | rfl | rfl | rfl | rfl | rfl | rfl | rfl | rfl | rfl | h
  iterate 17 (first | decide | skip)
  · decide
  · have h2 : w.toInt < 66 ∨ 82 < w.toInt := by omega
    simp [h2]
set_option maxHeartbeats 1000000 in
set_option maxRecDepth 20000 in
theorem l_drop_end {X : xD} {Ex : State → Prop} {l : Launch} {it : Int32} (ht : 0 ≤ it ∧ it < 30) {q : Nat} (hq : q ≤ 30) (hq0 : 0 < q) {μ0 : xM} {μ : xM} (hμq : μ 91 it.toNatClampNeg = nI q) (hC : Ch SH μ0 μ) (j : Int32) : sx l (rmN 0) X Ex false kX0_dropFirst shA.length (xZ X false shA.length (fun r sh' μ' => shA = sh' ∧ r = none ∧ Ch SH μ0 μ') 0 0) 46 [some (.ref (X.2 + 56)), some (.int it), some (.int j)] [] shA μ 0 0 := by
  have hi := clamp_lt (n := 30) ht.1 ht.2 (by decide)
  refine sx_aload_n (pc := 46) dX0_dropFirst_46 rfl rfl ?_
  refine sx_getr (pc := 47) (ci := 0) (j := 4) (r := 91) dX0_dropFirst_47 rfl s_Ho rfl (by decide) lf_X0_26 ?_
  refine sx_iload_n (pc := 50) dX0_dropFirst_50 rfl rfl ?_
  refine sx_dup2 (pc := 51) dX0_dropFirst_51 rfl rfl ?_
  refine sx_iald (pc := 52) dX0_dropFirst_52 s_qlen (by decide) rfl (vp_in_lt (n := 30) ht.1 ht.2 (by decide)) ?_
  refine sx_iconst (pc := 53) (v := 1) dX0_dropFirst_53 (by decide) ?_
  refine sx_isub (pc := 54) dX0_dropFirst_54 ?_
  refine sx_iast (pc := 55) dX0_dropFirst_55 s_qlen (by decide) rfl (vp_in_lt (n := 30) ht.1 ht.2 (by decide)) (fun μ1 hμ1 => ?_)
  exact sx_vret (pc := 56) dX0_dropFirst_56 rfl (Nat.zero_le _) (Nat.zero_le _) (⟨rfl, rfl, (Ch.put hC hμ1 (by omega) (LB.qln hμ1 (fun _ => by rw [hμq, show (1 : Int32) = nI 1 from rfl, pk_sub hq0]; exact ⟨nI_pos' (by omega), nI_le (b := 30) (by omega) (by decide)⟩)))⟩)
set_option maxHeartbeats 1000000 in
set_option maxRecDepth 20000 in
theorem l_drop {X : xD} {Ex : State → Prop} {l : Launch} {it : Int32} (ht : 0 ≤ it ∧ it < 30) {q : Nat} (hq : q ≤ 30) (hq0 : 0 < q) {μ0 : xM} : ∀ (t j : Nat) (μ : xM), q - j ≤ t → 1 ≤ j → j ≤ q → μ 91 it.toNatClampNeg = nI q → Ch SH μ0 μ → sx l (rmN 0) X Ex false kX0_dropFirst shA.length (xZ X false shA.length (fun r sh' μ' => shA = sh' ∧ r = none ∧ Ch SH μ0 μ') 0 0) 12 [some (.ref (X.2 + 56)), some (.int it), some (.int (nI j))] [] shA μ 0 0 := by
  have hi := clamp_lt (n := 30) ht.1 ht.2 (by decide)
  intro t
  induction t with
  | zero =>
    intro j μ htt hj1 hj hμq hC
    refine sx_iload_n (pc := 12) dX0_dropFirst_12 rfl rfl ?_
    refine sx_aload_n (pc := 13) dX0_dropFirst_13 rfl rfl ?_
    refine sx_getr (pc := 14) (ci := 0) (j := 4) (r := 91) dX0_dropFirst_14 rfl s_Ho rfl (by decide) lf_X0_26 ?_
    refine sx_iload_n (pc := 17) dX0_dropFirst_17 rfl rfl ?_
    refine sx_iald (pc := 18) dX0_dropFirst_18 s_qlen (by decide) rfl (vp_in_lt (n := 30) ht.1 ht.2 (by decide)) ?_
    refine sx_icmp_ge (pc := 19) (tgt := 46) dX0_dropFirst_19 (by decide) (fun c_19 => ?_) (fun c_19 => absurd (by rw [hμq]; exact nI_le (by omega) (by omega)) c_19)
    exact l_drop_end ht hq hq0 hμq hC _
  | succ t ih =>
    intro j μ htt hj1 hj hμq hC
    refine sx_iload_n (pc := 12) dX0_dropFirst_12 rfl rfl ?_
    refine sx_aload_n (pc := 13) dX0_dropFirst_13 rfl rfl ?_
    refine sx_getr (pc := 14) (ci := 0) (j := 4) (r := 91) dX0_dropFirst_14 rfl s_Ho rfl (by decide) lf_X0_26 ?_
    refine sx_iload_n (pc := 17) dX0_dropFirst_17 rfl rfl ?_
    refine sx_iald (pc := 18) dX0_dropFirst_18 s_qlen (by decide) rfl (vp_in_lt (n := 30) ht.1 ht.2 (by decide)) ?_
    refine sx_icmp_ge (pc := 19) (tgt := 46) dX0_dropFirst_19 (by decide) (fun c_19 => ?_) (fun c_19 => ?_)
    · have h_19t := c_19
      exact l_drop_end ht hq hq0 hμq hC _
    · have h_19f := c_19
      have hlt : j < q := Nat.lt_of_not_le fun z => h_19f (by rw [hμq]; exact nI_le z (by omega))
      refine sx_aload_n (pc := 22) dX0_dropFirst_22 rfl rfl ?_
      refine sx_getr (pc := 23) (ci := 0) (j := 3) (r := 60) dX0_dropFirst_23 rfl s_Ho rfl (by decide) lf_X0_23 ?_
      refine sx_iload_n (pc := 26) dX0_dropFirst_26 rfl rfl ?_
      refine sx_aald (pc := 27) (r := 61 + it.toNatClampNeg) dX0_dropFirst_27 s_queues rfl rfl (vp_in_lt (n := 30) ht.1 ht.2 (by decide)) (el_queues _ hi) ?_
      refine sx_iload_n (pc := 28) dX0_dropFirst_28 rfl rfl ?_
      refine sx_iconst (pc := 29) (v := 1) dX0_dropFirst_29 (by decide) ?_
      refine sx_isub (pc := 30) dX0_dropFirst_30 ?_
      rw [show (1 : Int32) = nI 1 from rfl, pk_sub hj1]
      refine sx_aload_n (pc := 31) dX0_dropFirst_31 rfl rfl ?_
      refine sx_getr (pc := 32) (ci := 0) (j := 3) (r := 60) dX0_dropFirst_32 rfl s_Ho rfl (by decide) lf_X0_23 ?_
      refine sx_iload_n (pc := 35) dX0_dropFirst_35 rfl rfl ?_
      refine sx_aald (pc := 36) (r := 61 + it.toNatClampNeg) dX0_dropFirst_36 s_queues rfl rfl (vp_in_lt (n := 30) ht.1 ht.2 (by decide)) (el_queues _ hi) ?_
      refine sx_iload_n (pc := 37) dX0_dropFirst_37 rfl rfl ?_
      refine sx_iald (pc := 38) dX0_dropFirst_38 (s_qrow _ hi) (by decide) rfl (vp_in_nI (by omega) (by decide)) ?_
      refine sx_iast (pc := 39) dX0_dropFirst_39 (s_qrow _ hi) (by decide) rfl (vp_in_nI (by omega) (by decide)) (fun μ1 hμ1 => ?_)
      refine sx_iinc (pc := 40) (v := nI (j + 1)) (L' := [some (.ref (X.2 + 56)), some (.int it), some (.int (nI (j + 1)))]) dX0_dropFirst_40 rfl (nI_1 j) (by decide) rfl ?_
      refine sx_goto (pc := 43) (tgt := 12) dX0_dropFirst_43 (by decide) ?_
      exact ih (j + 1) _ (by omega) (by omega) (by omega) (by rw [hμ1, xup_at, if_neg (by omega)]; exact hμq) (Ch.put hC hμ1 (by omega) (LB.off hμ1 ⟨by omega, fun _ _ => by omega⟩))
set_option maxHeartbeats 1000000 in
set_option maxRecDepth 20000 in
theorem c_drop (X : xD) (Ex : State → Prop) (hE : xEs X false shA.length Ex) (μ : xM) (it : Int32) (ht : 0 ≤ it ∧ it < 30) (hL : LB μ) : Ct X Ex false yX0_dropFirst kX0_dropFirst (rmN 0) [.ref (X.2 + 56), .int it] shA μ (fun r sh' μ' => shA = sh' ∧ r = none ∧ Ch SH μ μ') := by
  refine Ct.of (L0 := [some (.ref (X.2 + 56)), some (.int it), none]) (by decide) rfl (fun h => by cases h) (by simp [Value.category]) (Nat.le_of_ble_eq_true rfl) rfl (fun l => ?_)
  have hi := clamp_lt (n := 30) ht.1 ht.2 (by decide)
  obtain ⟨q, hq, hμq⟩ := qlen_nat hL hi
  refine sx_aload_n (pc := 0) dX0_dropFirst_0 rfl rfl ?_
  refine sx_getr (pc := 1) (ci := 0) (j := 4) (r := 91) dX0_dropFirst_1 rfl s_Ho rfl (by decide) lf_X0_26 ?_
  refine sx_iload_n (pc := 4) dX0_dropFirst_4 rfl rfl ?_
  refine sx_iald (pc := 5) dX0_dropFirst_5 s_qlen (by decide) rfl (vp_in_lt (n := 30) ht.1 ht.2 (by decide)) ?_
  refine sx_if_ne (pc := 6) (tgt := 10) dX0_dropFirst_6 (by decide) (fun c_6 => ?_) (fun c_6 => ?_)
  · have h_6t := c_6
    refine sx_iconst (pc := 10) (v := 1) dX0_dropFirst_10 (by decide) ?_
    refine sx_istore_n (pc := 11) (L' := [some (.ref (X.2 + 56)), some (.int it), some (.int 1)]) dX0_dropFirst_11 rfl (by decide) rfl ?_
    exact l_drop ht hq (Nat.pos_of_ne_zero fun z => h_6t (by rw [hμq, z]; rfl)) 30 1 _ (by omega) (Nat.le_refl _) (Nat.pos_of_ne_zero fun z => h_6t (by rw [hμq, z]; rfl)) hμq Ch.rf
  · have h_6f := c_6
    exact sx_vret (pc := 9) dX0_dropFirst_9 rfl (Nat.zero_le _) (Nat.zero_le _) (⟨rfl, rfl, (Ch.rf)⟩)
set_option maxHeartbeats 1000000 in
set_option maxRecDepth 20000 in
theorem c_lend (X : xD) (Ex : State → Prop) (hE : xEs X false shA.length Ex) (μ : xM) (ps : Int32) (hp : 0 ≤ ps ∧ ps < 30) (it : Int32) (ht : 0 ≤ it ∧ it < 30) (hL : LB μ) : Ct X Ex false yX0_lend kX0_lend (rmN 1) [.ref (X.2 + 56), .int ps, .int it] shA μ (fun r sh' μ' => shA = sh' ∧ Ch SH μ μ' ∧ ∃ x : Int32, r = some (.int x) ∧ (x = 0 ∨ x = 1)) := by
  refine Ct.of (L0 := [some (.ref (X.2 + 56)), some (.int ps), some (.int it), none]) (by decide) rfl (fun h => by cases h) (by simp [Value.category]) (Nat.le_of_ble_eq_true rfl) rfl (fun l => ?_)
  have hi := clamp_lt (n := 30) ht.1 ht.2 (by decide)
  refine sx_aload_n (pc := 0) dX0_lend_0 rfl rfl ?_
  refine sx_getr (pc := 1) (ci := 0) (j := 4) (r := 91) dX0_lend_1 rfl s_Ho rfl (by decide) lf_X0_26 ?_
  refine sx_iload_n (pc := 4) dX0_lend_4 rfl rfl ?_
  refine sx_iald (pc := 5) dX0_lend_5 s_qlen (by decide) rfl (vp_in_lt (n := 30) ht.1 ht.2 (by decide)) ?_
  refine sx_if_eq (pc := 6) (tgt := 21) dX0_lend_6 (by decide) (fun c_6 => ?_) (fun c_6 => ?_)
  · have h_6t := c_6
    refine sx_iconst (pc := 21) (v := 1) dX0_lend_21 (by decide) ?_
    refine sx_goto (pc := 22) (tgt := 26) dX0_lend_22 (by decide) ?_
    refine sx_istore_n (pc := 26) (L' := [some (.ref (X.2 + 56)), some (.int ps), some (.int it), some (.int 1)]) dX0_lend_26 rfl (by decide) rfl ?_
    refine sx_aload_n (pc := 27) dX0_lend_27 rfl rfl ?_
    refine sx_getr (pc := 28) (ci := 0) (j := 1) (r := 58) dX0_lend_28 rfl s_Ho rfl (by decide) lf_X0_15 ?_
    refine sx_iload_n (pc := 31) dX0_lend_31 rfl rfl ?_
    refine sx_iald (pc := 32) dX0_lend_32 s_borr (by decide) rfl (vp_in_lt (n := 30) ht.1 ht.2 (by decide)) ?_
    refine sx_iconst (pc := 33) (v := (-1)) dX0_lend_33 (by decide) ?_
    refine sx_icmp_ne (pc := 34) (tgt := 53) dX0_lend_34 (by decide) (fun c_34 => ?_) (fun c_34 => ?_)
    · have h_34t := c_34
      refine sx_iconst (pc := 53) (v := 0) dX0_lend_53 (by decide) ?_
      exact sx_iret (pc := 54) dX0_lend_54 rfl rfl (Nat.zero_le _) (Nat.zero_le _) (⟨rfl, (Ch.rf), _, rfl, by decide⟩)
    · have h_34f := c_34
      refine sx_iload_n (pc := 37) dX0_lend_37 rfl rfl ?_
      refine sx_if_eq (pc := 38) (tgt := 53) dX0_lend_38 (by decide) (fun c_38 => absurd c_38 (by decide)) (fun c_38 => ?_)
      refine sx_aload_n (pc := 41) dX0_lend_41 rfl rfl ?_
      refine sx_getr (pc := 42) (ci := 0) (j := 0) (r := 57) dX0_lend_42 rfl s_Ho rfl (by decide) lf_X0_9 ?_
      refine sx_iload_n (pc := 45) dX0_lend_45 rfl rfl ?_
      refine sx_iald (pc := 46) dX0_lend_46 s_debts (by decide) rfl (vp_in_lt (n := 30) hp.1 hp.2 (by decide)) ?_
      refine sx_sipush (pc := 47) (v := 500) dX0_lend_47 (by decide) ?_
      refine sx_icmp_le (pc := 50) (tgt := 55) dX0_lend_50 (by decide) (fun c_50 => ?_) (fun c_50 => ?_)
      · have h_50t := c_50
        refine sx_aload_n (pc := 55) dX0_lend_55 rfl rfl ?_
        refine sx_iload_n (pc := 56) dX0_lend_56 rfl rfl ?_
        refine sx_callV (pc := 57) (As := [.int it]) dX0_lend_57 (c_drop X Ex hE μ _ ht hL) mX0_dropFirst lm_X0_65 rfl s_Ho rfl ⟨Nat.le_of_ble_eq_true rfl, Nat.le_of_ble_eq_true rfl⟩ ⟨Nat.le_of_ble_eq_true rfl, Nat.le_of_ble_eq_true rfl⟩ (Nat.le_of_ble_eq_true rfl) hE (fun r_57 sh1 μ1 h_57 => ?_)
        obtain ⟨rfl, rfl, k_57⟩ := h_57
        refine sx_aload_n (pc := 60) dX0_lend_60 rfl rfl ?_
        refine sx_getr (pc := 61) (ci := 0) (j := 1) (r := 58) dX0_lend_61 rfl s_Ho rfl (by decide) lf_X0_15 ?_
        refine sx_iload_n (pc := 64) dX0_lend_64 rfl rfl ?_
        refine sx_iload_n (pc := 65) dX0_lend_65 rfl rfl ?_
        refine sx_iast (pc := 66) dX0_lend_66 s_borr (by decide) rfl (vp_in_lt (n := 30) ht.1 ht.2 (by decide)) (fun μ2 hμ2 => ?_)
        refine sx_aload_n (pc := 67) dX0_lend_67 rfl rfl ?_
        refine sx_getr (pc := 68) (ci := 0) (j := 2) (r := 59) dX0_lend_68 rfl s_Ho rfl (by decide) lf_X0_18 ?_
        refine sx_iload_n (pc := 71) dX0_lend_71 rfl rfl ?_
        refine sx_iconst (pc := 72) (v := 0) dX0_lend_72 (by decide) ?_
        refine sx_iast (pc := 73) dX0_lend_73 s_rene (by decide) rfl (vp_in_lt (n := 30) ht.1 ht.2 (by decide)) (fun μ3 hμ3 => ?_)
        refine sx_iconst (pc := 74) (v := 1) dX0_lend_74 (by decide) ?_
        exact sx_iret (pc := 75) dX0_lend_75 rfl rfl (Nat.zero_le _) (Nat.zero_le _) (⟨rfl, (Ch.put (Ch.put (Ch.trans (Ch.rf) k_57) hμ2 (by omega) (LB.off hμ2 ⟨by omega, fun _ _ => by omega⟩)) hμ3 (by omega) (LB.off hμ3 ⟨by omega, fun _ _ => by omega⟩)), _, rfl, by decide⟩)
      · have h_50f := c_50
        refine sx_iconst (pc := 53) (v := 0) dX0_lend_53 (by decide) ?_
        exact sx_iret (pc := 54) dX0_lend_54 rfl rfl (Nat.zero_le _) (Nat.zero_le _) (⟨rfl, (Ch.rf), _, rfl, by decide⟩)
  · have h_6f := c_6
    refine sx_aload_n (pc := 9) dX0_lend_9 rfl rfl ?_
    refine sx_getr (pc := 10) (ci := 0) (j := 3) (r := 60) dX0_lend_10 rfl s_Ho rfl (by decide) lf_X0_23 ?_
    refine sx_iload_n (pc := 13) dX0_lend_13 rfl rfl ?_
    refine sx_aald (pc := 14) (r := 61 + it.toNatClampNeg) dX0_lend_14 s_queues rfl rfl (vp_in_lt (n := 30) ht.1 ht.2 (by decide)) (el_queues _ hi) ?_
    refine sx_iconst (pc := 15) (v := 0) dX0_lend_15 (by decide) ?_
    refine sx_iald (pc := 16) dX0_lend_16 (s_qrow _ hi) (by decide) rfl (by unfold vp_in; decide) ?_
    refine sx_iload_n (pc := 17) dX0_lend_17 rfl rfl ?_
    refine sx_icmp_ne (pc := 18) (tgt := 25) dX0_lend_18 (by decide) (fun c_18 => ?_) (fun c_18 => ?_)
    · have h_18t := c_18
      refine sx_iconst (pc := 25) (v := 0) dX0_lend_25 (by decide) ?_
      refine sx_istore_n (pc := 26) (L' := [some (.ref (X.2 + 56)), some (.int ps), some (.int it), some (.int 0)]) dX0_lend_26 rfl (by decide) rfl ?_
      refine sx_aload_n (pc := 27) dX0_lend_27 rfl rfl ?_
      refine sx_getr (pc := 28) (ci := 0) (j := 1) (r := 58) dX0_lend_28 rfl s_Ho rfl (by decide) lf_X0_15 ?_
      refine sx_iload_n (pc := 31) dX0_lend_31 rfl rfl ?_
      refine sx_iald (pc := 32) dX0_lend_32 s_borr (by decide) rfl (vp_in_lt (n := 30) ht.1 ht.2 (by decide)) ?_
      refine sx_iconst (pc := 33) (v := (-1)) dX0_lend_33 (by decide) ?_
      refine sx_icmp_ne (pc := 34) (tgt := 53) dX0_lend_34 (by decide) (fun c_34 => ?_) (fun c_34 => ?_)
      · have h_34t := c_34
        refine sx_iconst (pc := 53) (v := 0) dX0_lend_53 (by decide) ?_
        exact sx_iret (pc := 54) dX0_lend_54 rfl rfl (Nat.zero_le _) (Nat.zero_le _) (⟨rfl, (Ch.rf), _, rfl, by decide⟩)
      · have h_34f := c_34
        refine sx_iload_n (pc := 37) dX0_lend_37 rfl rfl ?_
        refine sx_if_eq (pc := 38) (tgt := 53) dX0_lend_38 (by decide) (fun c_38 => ?_) (fun c_38 => absurd c_38 (by decide))
        refine sx_iconst (pc := 53) (v := 0) dX0_lend_53 (by decide) ?_
        exact sx_iret (pc := 54) dX0_lend_54 rfl rfl (Nat.zero_le _) (Nat.zero_le _) (⟨rfl, (Ch.rf), _, rfl, by decide⟩)
    · have h_18f := c_18
      refine sx_iconst (pc := 21) (v := 1) dX0_lend_21 (by decide) ?_
      refine sx_goto (pc := 22) (tgt := 26) dX0_lend_22 (by decide) ?_
      refine sx_istore_n (pc := 26) (L' := [some (.ref (X.2 + 56)), some (.int ps), some (.int it), some (.int 1)]) dX0_lend_26 rfl (by decide) rfl ?_
      refine sx_aload_n (pc := 27) dX0_lend_27 rfl rfl ?_
      refine sx_getr (pc := 28) (ci := 0) (j := 1) (r := 58) dX0_lend_28 rfl s_Ho rfl (by decide) lf_X0_15 ?_
      refine sx_iload_n (pc := 31) dX0_lend_31 rfl rfl ?_
      refine sx_iald (pc := 32) dX0_lend_32 s_borr (by decide) rfl (vp_in_lt (n := 30) ht.1 ht.2 (by decide)) ?_
      refine sx_iconst (pc := 33) (v := (-1)) dX0_lend_33 (by decide) ?_
      refine sx_icmp_ne (pc := 34) (tgt := 53) dX0_lend_34 (by decide) (fun c_34 => ?_) (fun c_34 => ?_)
      · have h_34t := c_34
        refine sx_iconst (pc := 53) (v := 0) dX0_lend_53 (by decide) ?_
        exact sx_iret (pc := 54) dX0_lend_54 rfl rfl (Nat.zero_le _) (Nat.zero_le _) (⟨rfl, (Ch.rf), _, rfl, by decide⟩)
      · have h_34f := c_34
        refine sx_iload_n (pc := 37) dX0_lend_37 rfl rfl ?_
        refine sx_if_eq (pc := 38) (tgt := 53) dX0_lend_38 (by decide) (fun c_38 => absurd c_38 (by decide)) (fun c_38 => ?_)
        refine sx_aload_n (pc := 41) dX0_lend_41 rfl rfl ?_
        refine sx_getr (pc := 42) (ci := 0) (j := 0) (r := 57) dX0_lend_42 rfl s_Ho rfl (by decide) lf_X0_9 ?_
        refine sx_iload_n (pc := 45) dX0_lend_45 rfl rfl ?_
        refine sx_iald (pc := 46) dX0_lend_46 s_debts (by decide) rfl (vp_in_lt (n := 30) hp.1 hp.2 (by decide)) ?_
        refine sx_sipush (pc := 47) (v := 500) dX0_lend_47 (by decide) ?_
        refine sx_icmp_le (pc := 50) (tgt := 55) dX0_lend_50 (by decide) (fun c_50 => ?_) (fun c_50 => ?_)
        · have h_50t := c_50
          refine sx_aload_n (pc := 55) dX0_lend_55 rfl rfl ?_
          refine sx_iload_n (pc := 56) dX0_lend_56 rfl rfl ?_
          refine sx_callV (pc := 57) (As := [.int it]) dX0_lend_57 (c_drop X Ex hE μ _ ht hL) mX0_dropFirst lm_X0_65 rfl s_Ho rfl ⟨Nat.le_of_ble_eq_true rfl, Nat.le_of_ble_eq_true rfl⟩ ⟨Nat.le_of_ble_eq_true rfl, Nat.le_of_ble_eq_true rfl⟩ (Nat.le_of_ble_eq_true rfl) hE (fun r_57 sh1 μ4 h_57 => ?_)
          obtain ⟨rfl, rfl, k_57⟩ := h_57
          refine sx_aload_n (pc := 60) dX0_lend_60 rfl rfl ?_
          refine sx_getr (pc := 61) (ci := 0) (j := 1) (r := 58) dX0_lend_61 rfl s_Ho rfl (by decide) lf_X0_15 ?_
          refine sx_iload_n (pc := 64) dX0_lend_64 rfl rfl ?_
          refine sx_iload_n (pc := 65) dX0_lend_65 rfl rfl ?_
          refine sx_iast (pc := 66) dX0_lend_66 s_borr (by decide) rfl (vp_in_lt (n := 30) ht.1 ht.2 (by decide)) (fun μ5 hμ5 => ?_)
          refine sx_aload_n (pc := 67) dX0_lend_67 rfl rfl ?_
          refine sx_getr (pc := 68) (ci := 0) (j := 2) (r := 59) dX0_lend_68 rfl s_Ho rfl (by decide) lf_X0_18 ?_
          refine sx_iload_n (pc := 71) dX0_lend_71 rfl rfl ?_
          refine sx_iconst (pc := 72) (v := 0) dX0_lend_72 (by decide) ?_
          refine sx_iast (pc := 73) dX0_lend_73 s_rene (by decide) rfl (vp_in_lt (n := 30) ht.1 ht.2 (by decide)) (fun μ6 hμ6 => ?_)
          refine sx_iconst (pc := 74) (v := 1) dX0_lend_74 (by decide) ?_
          exact sx_iret (pc := 75) dX0_lend_75 rfl rfl (Nat.zero_le _) (Nat.zero_le _) (⟨rfl, (Ch.put (Ch.put (Ch.trans (Ch.rf) k_57) hμ5 (by omega) (LB.off hμ5 ⟨by omega, fun _ _ => by omega⟩)) hμ6 (by omega) (LB.off hμ6 ⟨by omega, fun _ _ => by omega⟩)), _, rfl, by decide⟩)
        · have h_50f := c_50
          refine sx_iconst (pc := 53) (v := 0) dX0_lend_53 (by decide) ?_
          exact sx_iret (pc := 54) dX0_lend_54 rfl rfl (Nat.zero_le _) (Nat.zero_le _) (⟨rfl, (Ch.rf), _, rfl, by decide⟩)
set_option maxHeartbeats 1000000 in
set_option maxRecDepth 20000 in
theorem c_bring (X : xD) (Ex : State → Prop) (hE : xEs X false shA.length Ex) (μ : xM) (it : Int32) (ht : 0 ≤ it ∧ it < 30) : Ct X Ex false yX0_bringBack kX0_bringBack (rmN 0) [.ref (X.2 + 56), .int it] shA μ (fun r sh' μ' => shA = sh' ∧ Ch SH μ μ' ∧ ∃ x : Int32, r = some (.int x) ∧ (x = 0 ∨ x = 1)) := by
  refine Ct.of (L0 := [some (.ref (X.2 + 56)), some (.int it)]) (by decide) rfl (fun h => by cases h) (by simp [Value.category]) (Nat.le_of_ble_eq_true rfl) rfl (fun l => ?_)
  refine sx_aload_n (pc := 0) dX0_bringBack_0 rfl rfl ?_
  refine sx_getr (pc := 1) (ci := 0) (j := 1) (r := 58) dX0_bringBack_1 rfl s_Ho rfl (by decide) lf_X0_15 ?_
  refine sx_iload_n (pc := 4) dX0_bringBack_4 rfl rfl ?_
  refine sx_iald (pc := 5) dX0_bringBack_5 s_borr (by decide) rfl (vp_in_lt (n := 30) ht.1 ht.2 (by decide)) ?_
  refine sx_iconst (pc := 6) (v := (-1)) dX0_bringBack_6 (by decide) ?_
  refine sx_icmp_ne (pc := 7) (tgt := 12) dX0_bringBack_7 (by decide) (fun c_7 => ?_) (fun c_7 => ?_)
  · have h_7t := c_7
    refine sx_aload_n (pc := 12) dX0_bringBack_12 rfl rfl ?_
    refine sx_getr (pc := 13) (ci := 0) (j := 1) (r := 58) dX0_bringBack_13 rfl s_Ho rfl (by decide) lf_X0_15 ?_
    refine sx_iload_n (pc := 16) dX0_bringBack_16 rfl rfl ?_
    refine sx_iconst (pc := 17) (v := (-1)) dX0_bringBack_17 (by decide) ?_
    refine sx_iast (pc := 18) dX0_bringBack_18 s_borr (by decide) rfl (vp_in_lt (n := 30) ht.1 ht.2 (by decide)) (fun μ1 hμ1 => ?_)
    refine sx_iconst (pc := 19) (v := 1) dX0_bringBack_19 (by decide) ?_
    exact sx_iret (pc := 20) dX0_bringBack_20 rfl rfl (Nat.zero_le _) (Nat.zero_le _) (⟨rfl, (Ch.put (Ch.rf) hμ1 (by omega) (LB.off hμ1 ⟨by omega, fun _ _ => by omega⟩)), _, rfl, by decide⟩)
  · have h_7f := c_7
    refine sx_iconst (pc := 10) (v := 0) dX0_bringBack_10 (by decide) ?_
    exact sx_iret (pc := 11) dX0_bringBack_11 rfl rfl (Nat.zero_le _) (Nat.zero_le _) (⟨rfl, (Ch.rf), _, rfl, by decide⟩)
set_option maxHeartbeats 1000000 in
set_option maxRecDepth 20000 in
theorem c_pay (X : xD) (Ex : State → Prop) (hE : xEs X false shA.length Ex) (μ : xM) (ps : Int32) (hp : 0 ≤ ps ∧ ps < 30) (c : Int32) : Ct X Ex false yX0_pay kX0_pay (rmN 0) [.ref (X.2 + 56), .int ps, .int c] shA μ (fun r sh' μ' => shA = sh' ∧ Ch SH μ μ' ∧ ∃ x : Int32, r = some (.int x) ∧ (x = 0 ∨ x = 1)) := by
  refine Ct.of (L0 := [some (.ref (X.2 + 56)), some (.int ps), some (.int c)]) (by decide) rfl (fun h => by cases h) (by simp [Value.category]) (Nat.le_of_ble_eq_true rfl) rfl (fun l => ?_)
  refine sx_iload_n (pc := 0) dX0_pay_0 rfl rfl ?_
  refine sx_aload_n (pc := 1) dX0_pay_1 rfl rfl ?_
  refine sx_getr (pc := 2) (ci := 0) (j := 0) (r := 57) dX0_pay_2 rfl s_Ho rfl (by decide) lf_X0_9 ?_
  refine sx_iload_n (pc := 5) dX0_pay_5 rfl rfl ?_
  refine sx_iald (pc := 6) dX0_pay_6 s_debts (by decide) rfl (vp_in_lt (n := 30) hp.1 hp.2 (by decide)) ?_
  refine sx_icmp_le (pc := 7) (tgt := 12) dX0_pay_7 (by decide) (fun c_7 => ?_) (fun c_7 => ?_)
  · have h_7t := c_7
    refine sx_aload_n (pc := 12) dX0_pay_12 rfl rfl ?_
    refine sx_getr (pc := 13) (ci := 0) (j := 0) (r := 57) dX0_pay_13 rfl s_Ho rfl (by decide) lf_X0_9 ?_
    refine sx_iload_n (pc := 16) dX0_pay_16 rfl rfl ?_
    refine sx_dup2 (pc := 17) dX0_pay_17 rfl rfl ?_
    refine sx_iald (pc := 18) dX0_pay_18 s_debts (by decide) rfl (vp_in_lt (n := 30) hp.1 hp.2 (by decide)) ?_
    refine sx_iload_n (pc := 19) dX0_pay_19 rfl rfl ?_
    refine sx_isub (pc := 20) dX0_pay_20 ?_
    refine sx_iast (pc := 21) dX0_pay_21 s_debts (by decide) rfl (vp_in_lt (n := 30) hp.1 hp.2 (by decide)) (fun μ1 hμ1 => ?_)
    refine sx_iconst (pc := 22) (v := 1) dX0_pay_22 (by decide) ?_
    exact sx_iret (pc := 23) dX0_pay_23 rfl rfl (Nat.zero_le _) (Nat.zero_le _) (⟨rfl, (Ch.put (Ch.rf) hμ1 (by omega) (LB.off hμ1 ⟨by omega, fun _ _ => by omega⟩)), _, rfl, by decide⟩)
  · have h_7f := c_7
    refine sx_iconst (pc := 10) (v := 0) dX0_pay_10 (by decide) ?_
    exact sx_iret (pc := 11) dX0_pay_11 rfl rfl (Nat.zero_le _) (Nat.zero_le _) (⟨rfl, (Ch.rf), _, rfl, by decide⟩)
set_option maxHeartbeats 1000000 in
set_option maxRecDepth 20000 in
theorem l_inq {X : xD} {Ex : State → Prop} {l : Launch} {ps : Int32} {it : Int32} (ht : 0 ≤ it ∧ it < 30) {q : Nat} (hq : q ≤ 30) {μ : xM} (hμq : μ 91 it.toNatClampNeg = nI q) : ∀ (t j : Nat), q - j ≤ t → j ≤ q → sx l (rmN 0) X Ex false kX0_isInQueue shA.length (xZ X false shA.length (fun r sh' μ' => shA = sh' ∧ μ = μ' ∧ ∃ x : Int32, r = some (.int x) ∧ (x = 0 ∨ x = 1)) 0 0) 2 [some (.ref (X.2 + 56)), some (.int ps), some (.int it), some (.int (nI j))] [] shA μ 0 0 := by
  have hi := clamp_lt (n := 30) ht.1 ht.2 (by decide)
  intro t
  induction t with
  | zero =>
    intro j htt hj
    refine sx_iload_n (pc := 2) dX0_isInQueue_2 rfl rfl ?_
    refine sx_aload_n (pc := 3) dX0_isInQueue_3 rfl rfl ?_
    refine sx_getr (pc := 4) (ci := 0) (j := 4) (r := 91) dX0_isInQueue_4 rfl s_Ho rfl (by decide) lf_X0_26 ?_
    refine sx_iload_n (pc := 7) dX0_isInQueue_7 rfl rfl ?_
    refine sx_iald (pc := 8) dX0_isInQueue_8 s_qlen (by decide) rfl (vp_in_lt (n := 30) ht.1 ht.2 (by decide)) ?_
    refine sx_icmp_ge (pc := 9) (tgt := 32) dX0_isInQueue_9 (by decide) (fun c_9 => ?_) (fun c_9 => absurd (by rw [hμq]; exact nI_le (by omega) (by omega)) c_9)
    refine sx_iconst (pc := 32) (v := 0) dX0_isInQueue_32 (by decide) ?_
    exact sx_iret (pc := 33) dX0_isInQueue_33 rfl rfl (Nat.zero_le _) (Nat.zero_le _) (⟨rfl, rfl, _, rfl, by decide⟩)
  | succ t ih =>
    intro j htt hj
    refine sx_iload_n (pc := 2) dX0_isInQueue_2 rfl rfl ?_
    refine sx_aload_n (pc := 3) dX0_isInQueue_3 rfl rfl ?_
    refine sx_getr (pc := 4) (ci := 0) (j := 4) (r := 91) dX0_isInQueue_4 rfl s_Ho rfl (by decide) lf_X0_26 ?_
    refine sx_iload_n (pc := 7) dX0_isInQueue_7 rfl rfl ?_
    refine sx_iald (pc := 8) dX0_isInQueue_8 s_qlen (by decide) rfl (vp_in_lt (n := 30) ht.1 ht.2 (by decide)) ?_
    refine sx_icmp_ge (pc := 9) (tgt := 32) dX0_isInQueue_9 (by decide) (fun c_9 => ?_) (fun c_9 => ?_)
    · have h_9t := c_9
      refine sx_iconst (pc := 32) (v := 0) dX0_isInQueue_32 (by decide) ?_
      exact sx_iret (pc := 33) dX0_isInQueue_33 rfl rfl (Nat.zero_le _) (Nat.zero_le _) (⟨rfl, rfl, _, rfl, by decide⟩)
    · have h_9f := c_9
      have hlt : j < q := Nat.lt_of_not_le fun z => h_9f (by rw [hμq]; exact nI_le z (by omega))
      refine sx_aload_n (pc := 12) dX0_isInQueue_12 rfl rfl ?_
      refine sx_getr (pc := 13) (ci := 0) (j := 3) (r := 60) dX0_isInQueue_13 rfl s_Ho rfl (by decide) lf_X0_23 ?_
      refine sx_iload_n (pc := 16) dX0_isInQueue_16 rfl rfl ?_
      refine sx_aald (pc := 17) (r := 61 + it.toNatClampNeg) dX0_isInQueue_17 s_queues rfl rfl (vp_in_lt (n := 30) ht.1 ht.2 (by decide)) (el_queues _ hi) ?_
      refine sx_iload_n (pc := 18) dX0_isInQueue_18 rfl rfl ?_
      refine sx_iald (pc := 19) dX0_isInQueue_19 (s_qrow _ hi) (by decide) rfl (vp_in_nI (by omega) (by decide)) ?_
      refine sx_iload_n (pc := 20) dX0_isInQueue_20 rfl rfl ?_
      refine sx_icmp_ne (pc := 21) (tgt := 26) dX0_isInQueue_21 (by decide) (fun c_21 => ?_) (fun c_21 => ?_)
      · have h_21t := c_21
        refine sx_iinc (pc := 26) (v := nI (j + 1)) (L' := [some (.ref (X.2 + 56)), some (.int ps), some (.int it), some (.int (nI (j + 1)))]) dX0_isInQueue_26 rfl (nI_1 j) (by decide) rfl ?_
        refine sx_goto (pc := 29) (tgt := 2) dX0_isInQueue_29 (by decide) ?_
        exact ih (j + 1) (by omega) (by omega)
      · have h_21f := c_21
        refine sx_iconst (pc := 24) (v := 1) dX0_isInQueue_24 (by decide) ?_
        exact sx_iret (pc := 25) dX0_isInQueue_25 rfl rfl (Nat.zero_le _) (Nat.zero_le _) (⟨rfl, rfl, _, rfl, by decide⟩)
set_option maxHeartbeats 1000000 in
set_option maxRecDepth 20000 in
theorem c_inq (X : xD) (Ex : State → Prop) (hE : xEs X false shA.length Ex) (μ : xM) (ps : Int32) (it : Int32) (ht : 0 ≤ it ∧ it < 30) (hL : LB μ) : Ct X Ex false yX0_isInQueue kX0_isInQueue (rmN 0) [.ref (X.2 + 56), .int ps, .int it] shA μ (fun r sh' μ' => shA = sh' ∧ μ = μ' ∧ ∃ x : Int32, r = some (.int x) ∧ (x = 0 ∨ x = 1)) := by
  refine Ct.of (L0 := [some (.ref (X.2 + 56)), some (.int ps), some (.int it), none]) (by decide) rfl (fun h => by cases h) (by simp [Value.category]) (Nat.le_of_ble_eq_true rfl) rfl (fun l => ?_)
  have hi := clamp_lt (n := 30) ht.1 ht.2 (by decide)
  obtain ⟨q, hq, hμq⟩ := qlen_nat hL hi
  refine sx_iconst (pc := 0) (v := 0) dX0_isInQueue_0 (by decide) ?_
  refine sx_istore_n (pc := 1) (L' := [some (.ref (X.2 + 56)), some (.int ps), some (.int it), some (.int 0)]) dX0_isInQueue_1 rfl (by decide) rfl ?_
  exact l_inq ht hq hμq 30 0 (by omega) (Nat.zero_le _)
set_option maxHeartbeats 1000000 in
set_option maxRecDepth 20000 in
theorem c_queueUp (X : xD) (Ex : State → Prop) (hE : xEs X false shA.length Ex) (μ : xM) (ps : Int32) (hp : 0 ≤ ps ∧ ps < 30) (it : Int32) (ht : 0 ≤ it ∧ it < 30) (hL : LB μ) : Ct X Ex false yX0_queueUp kX0_queueUp (rmN 1) [.ref (X.2 + 56), .int ps, .int it] shA μ (fun r sh' μ' => shA = sh' ∧ Ch SH μ μ' ∧ ∃ x : Int32, r = some (.int x) ∧ (x = 0 ∨ x = 1)) := by
  refine Ct.of (L0 := [some (.ref (X.2 + 56)), some (.int ps), some (.int it), none, none]) (by decide) rfl (fun h => by cases h) (by simp [Value.category]) (Nat.le_of_ble_eq_true rfl) rfl (fun l => ?_)
  have hi := clamp_lt (n := 30) ht.1 ht.2 (by decide)
  refine sx_aload_n (pc := 0) dX0_queueUp_0 rfl rfl ?_
  refine sx_getr (pc := 1) (ci := 0) (j := 1) (r := 58) dX0_queueUp_1 rfl s_Ho rfl (by decide) lf_X0_15 ?_
  refine sx_iload_n (pc := 4) dX0_queueUp_4 rfl rfl ?_
  refine sx_iald (pc := 5) dX0_queueUp_5 s_borr (by decide) rfl (vp_in_lt (n := 30) ht.1 ht.2 (by decide)) ?_
  refine sx_iconst (pc := 6) (v := (-1)) dX0_queueUp_6 (by decide) ?_
  refine sx_icmp_eq (pc := 7) (tgt := 24) dX0_queueUp_7 (by decide) (fun c_7 => ?_) (fun c_7 => ?_)
  · have h_7t := c_7
    refine sx_iconst (pc := 24) (v := 0) dX0_queueUp_24 (by decide) ?_
    refine sx_istore_n (pc := 25) (L' := [some (.ref (X.2 + 56)), some (.int ps), some (.int it), some (.int 0), none]) dX0_queueUp_25 rfl (by decide) rfl ?_
    refine sx_aload_n (pc := 26) dX0_queueUp_26 rfl rfl ?_
    refine sx_getr (pc := 27) (ci := 0) (j := 4) (r := 91) dX0_queueUp_27 rfl s_Ho rfl (by decide) lf_X0_26 ?_
    refine sx_iload_n (pc := 30) dX0_queueUp_30 rfl rfl ?_
    refine sx_iald (pc := 31) dX0_queueUp_31 s_qlen (by decide) rfl (vp_in_lt (n := 30) ht.1 ht.2 (by decide)) ?_
    refine sx_istore (pc := 32) (L' := [some (.ref (X.2 + 56)), some (.int ps), some (.int it), some (.int 0), some (.int (μ 91 it.toNatClampNeg))]) dX0_queueUp_32 (by decide) rfl ?_
    refine sx_iload_n (pc := 34) dX0_queueUp_34 rfl rfl ?_
    refine sx_if_eq (pc := 35) (tgt := 57) dX0_queueUp_35 (by decide) (fun c_35 => ?_) (fun c_35 => absurd c_35 (by decide))
    refine sx_iconst (pc := 57) (v := 0) dX0_queueUp_57 (by decide) ?_
    exact sx_iret (pc := 58) dX0_queueUp_58 rfl rfl (Nat.zero_le _) (Nat.zero_le _) (⟨rfl, (Ch.rf), _, rfl, by decide⟩)
  · have h_7f := c_7
    refine sx_aload_n (pc := 10) dX0_queueUp_10 rfl rfl ?_
    refine sx_getr (pc := 11) (ci := 0) (j := 1) (r := 58) dX0_queueUp_11 rfl s_Ho rfl (by decide) lf_X0_15 ?_
    refine sx_iload_n (pc := 14) dX0_queueUp_14 rfl rfl ?_
    refine sx_iald (pc := 15) dX0_queueUp_15 s_borr (by decide) rfl (vp_in_lt (n := 30) ht.1 ht.2 (by decide)) ?_
    refine sx_iload_n (pc := 16) dX0_queueUp_16 rfl rfl ?_
    refine sx_icmp_eq (pc := 17) (tgt := 24) dX0_queueUp_17 (by decide) (fun c_17 => ?_) (fun c_17 => ?_)
    · have h_17t := c_17
      refine sx_iconst (pc := 24) (v := 0) dX0_queueUp_24 (by decide) ?_
      refine sx_istore_n (pc := 25) (L' := [some (.ref (X.2 + 56)), some (.int ps), some (.int it), some (.int 0), none]) dX0_queueUp_25 rfl (by decide) rfl ?_
      refine sx_aload_n (pc := 26) dX0_queueUp_26 rfl rfl ?_
      refine sx_getr (pc := 27) (ci := 0) (j := 4) (r := 91) dX0_queueUp_27 rfl s_Ho rfl (by decide) lf_X0_26 ?_
      refine sx_iload_n (pc := 30) dX0_queueUp_30 rfl rfl ?_
      refine sx_iald (pc := 31) dX0_queueUp_31 s_qlen (by decide) rfl (vp_in_lt (n := 30) ht.1 ht.2 (by decide)) ?_
      refine sx_istore (pc := 32) (L' := [some (.ref (X.2 + 56)), some (.int ps), some (.int it), some (.int 0), some (.int (μ 91 it.toNatClampNeg))]) dX0_queueUp_32 (by decide) rfl ?_
      refine sx_iload_n (pc := 34) dX0_queueUp_34 rfl rfl ?_
      refine sx_if_eq (pc := 35) (tgt := 57) dX0_queueUp_35 (by decide) (fun c_35 => ?_) (fun c_35 => absurd c_35 (by decide))
      refine sx_iconst (pc := 57) (v := 0) dX0_queueUp_57 (by decide) ?_
      exact sx_iret (pc := 58) dX0_queueUp_58 rfl rfl (Nat.zero_le _) (Nat.zero_le _) (⟨rfl, (Ch.rf), _, rfl, by decide⟩)
    · have h_17f := c_17
      refine sx_iconst (pc := 20) (v := 1) dX0_queueUp_20 (by decide) ?_
      refine sx_goto (pc := 21) (tgt := 25) dX0_queueUp_21 (by decide) ?_
      refine sx_istore_n (pc := 25) (L' := [some (.ref (X.2 + 56)), some (.int ps), some (.int it), some (.int 1), none]) dX0_queueUp_25 rfl (by decide) rfl ?_
      refine sx_aload_n (pc := 26) dX0_queueUp_26 rfl rfl ?_
      refine sx_getr (pc := 27) (ci := 0) (j := 4) (r := 91) dX0_queueUp_27 rfl s_Ho rfl (by decide) lf_X0_26 ?_
      refine sx_iload_n (pc := 30) dX0_queueUp_30 rfl rfl ?_
      refine sx_iald (pc := 31) dX0_queueUp_31 s_qlen (by decide) rfl (vp_in_lt (n := 30) ht.1 ht.2 (by decide)) ?_
      refine sx_istore (pc := 32) (L' := [some (.ref (X.2 + 56)), some (.int ps), some (.int it), some (.int 1), some (.int (μ 91 it.toNatClampNeg))]) dX0_queueUp_32 (by decide) rfl ?_
      refine sx_iload_n (pc := 34) dX0_queueUp_34 rfl rfl ?_
      refine sx_if_eq (pc := 35) (tgt := 57) dX0_queueUp_35 (by decide) (fun c_35 => absurd c_35 (by decide)) (fun c_35 => ?_)
      refine sx_aload_n (pc := 38) dX0_queueUp_38 rfl rfl ?_
      refine sx_iload_n (pc := 39) dX0_queueUp_39 rfl rfl ?_
      refine sx_iload_n (pc := 40) dX0_queueUp_40 rfl rfl ?_
      refine sx_callV (pc := 41) (As := [.int ps, .int it]) dX0_queueUp_41 (c_inq X Ex hE μ _ _ ht hL) mX0_isInQueue lm_X0_69 rfl s_Ho rfl ⟨Nat.le_of_ble_eq_true rfl, Nat.le_of_ble_eq_true rfl⟩ ⟨Nat.le_of_ble_eq_true rfl, Nat.le_of_ble_eq_true rfl⟩ (Nat.le_of_ble_eq_true rfl) hE (fun r_41 sh1 μ1 h_41 => ?_)
      obtain ⟨rfl, rfl, x_41, rfl, hx_41⟩ := h_41
      refine sx_if_ne (pc := 44) (tgt := 57) dX0_queueUp_44 (by decide) (fun c_44 => ?_) (fun c_44 => ?_)
      · have h_44t := c_44
        refine sx_iconst (pc := 57) (v := 0) dX0_queueUp_57 (by decide) ?_
        exact sx_iret (pc := 58) dX0_queueUp_58 rfl rfl (Nat.zero_le _) (Nat.zero_le _) (⟨rfl, (Ch.rf), _, rfl, by decide⟩)
      · have h_44f := c_44
        refine sx_iload (pc := 47) dX0_queueUp_47 rfl ?_
        refine sx_bipush (pc := 49) (v := 30) dX0_queueUp_49 (by decide) ?_
        refine sx_callSN (host := "ExchangeWire") (pc := 51) (As := [.int (μ 91 it.toNatClampNeg), .int 30]) dX0_queueUp_51 (c_isBelow X Ex false shA μ _ _) mX5_isBelow (by decide +kernel) rfl ⟨Nat.le_of_ble_eq_true rfl, Nat.le_of_ble_eq_true rfl⟩ ⟨Nat.le_of_ble_eq_true rfl, Nat.le_of_ble_eq_true rfl⟩ (Nat.le_of_ble_eq_true rfl) hE (fun r_51 sh1 μ2 h_51 => ?_)
        obtain ⟨rfl, rfl, x_51, rfl, hx_51⟩ := h_51
        refine sx_if_ne (pc := 54) (tgt := 59) dX0_queueUp_54 (by decide) (fun c_54 => ?_) (fun c_54 => ?_)
        · have h_54t := c_54
          refine sx_aload_n (pc := 59) dX0_queueUp_59 rfl rfl ?_
          refine sx_getr (pc := 60) (ci := 0) (j := 3) (r := 60) dX0_queueUp_60 rfl s_Ho rfl (by decide) lf_X0_23 ?_
          refine sx_iload_n (pc := 63) dX0_queueUp_63 rfl rfl ?_
          refine sx_aald (pc := 64) (r := 61 + it.toNatClampNeg) dX0_queueUp_64 s_queues rfl rfl (vp_in_lt (n := 30) ht.1 ht.2 (by decide)) (el_queues _ hi) ?_
          refine sx_iload (pc := 65) dX0_queueUp_65 rfl ?_
          refine sx_iload_n (pc := 67) dX0_queueUp_67 rfl rfl ?_
          refine sx_iast (pc := 68) dX0_queueUp_68 (s_qrow _ hi) (by decide) rfl (vp_in_lt (n := 30) (isB_t hx_51 h_54t).1 (isB_t hx_51 h_54t).2 (by decide)) (fun μ3 hμ3 => ?_)
          refine sx_aload_n (pc := 69) dX0_queueUp_69 rfl rfl ?_
          refine sx_getr (pc := 70) (ci := 0) (j := 4) (r := 91) dX0_queueUp_70 rfl s_Ho rfl (by decide) lf_X0_26 ?_
          refine sx_iload_n (pc := 73) dX0_queueUp_73 rfl rfl ?_
          refine sx_iload (pc := 74) dX0_queueUp_74 rfl ?_
          refine sx_iconst (pc := 76) (v := 1) dX0_queueUp_76 (by decide) ?_
          refine sx_iadd (pc := 77) dX0_queueUp_77 ?_
          refine sx_iast (pc := 78) dX0_queueUp_78 s_qlen (by decide) rfl (vp_in_lt (n := 30) ht.1 ht.2 (by decide)) (fun μ4 hμ4 => ?_)
          refine sx_iconst (pc := 79) (v := 1) dX0_queueUp_79 (by decide) ?_
          exact sx_iret (pc := 80) dX0_queueUp_80 rfl rfl (Nat.zero_le _) (Nat.zero_le _) (⟨rfl, (Ch.put (Ch.put (Ch.rf) hμ3 (by omega) (LB.off hμ3 ⟨by omega, fun _ _ => by omega⟩)) hμ4 (by omega) (LB.qln hμ4 (fun _ => inc30 (isB_t hx_51 h_54t)))), _, rfl, by decide⟩)
        · have h_54f := c_54
          refine sx_iconst (pc := 57) (v := 0) dX0_queueUp_57 (by decide) ?_
          exact sx_iret (pc := 58) dX0_queueUp_58 rfl rfl (Nat.zero_le _) (Nat.zero_le _) (⟨rfl, (Ch.rf), _, rfl, by decide⟩)
set_option maxHeartbeats 1000000 in
set_option maxRecDepth 20000 in
theorem c_renew (X : xD) (Ex : State → Prop) (hE : xEs X false shA.length Ex) (μ : xM) (ps : Int32) (hp : 0 ≤ ps ∧ ps < 30) (it : Int32) (ht : 0 ≤ it ∧ it < 30) : Ct X Ex false yX0_renew kX0_renew (rmN 0) [.ref (X.2 + 56), .int ps, .int it] shA μ (fun r sh' μ' => shA = sh' ∧ Ch SH μ μ' ∧ ∃ x : Int32, r = some (.int x) ∧ (x = 0 ∨ x = 1)) := by
  refine Ct.of (L0 := [some (.ref (X.2 + 56)), some (.int ps), some (.int it), none]) (by decide) rfl (fun h => by cases h) (by simp [Value.category]) (Nat.le_of_ble_eq_true rfl) rfl (fun l => ?_)
  have hi := clamp_lt (n := 30) ht.1 ht.2 (by decide)
  refine sx_aload_n (pc := 0) dX0_renew_0 rfl rfl ?_
  refine sx_getr (pc := 1) (ci := 0) (j := 1) (r := 58) dX0_renew_1 rfl s_Ho rfl (by decide) lf_X0_15 ?_
  refine sx_iload_n (pc := 4) dX0_renew_4 rfl rfl ?_
  refine sx_iald (pc := 5) dX0_renew_5 s_borr (by decide) rfl (vp_in_lt (n := 30) ht.1 ht.2 (by decide)) ?_
  refine sx_iload_n (pc := 6) dX0_renew_6 rfl rfl ?_
  refine sx_icmp_ne (pc := 7) (tgt := 14) dX0_renew_7 (by decide) (fun c_7 => ?_) (fun c_7 => ?_)
  · have h_7t := c_7
    refine sx_iconst (pc := 14) (v := 0) dX0_renew_14 (by decide) ?_
    refine sx_istore_n (pc := 15) (L' := [some (.ref (X.2 + 56)), some (.int ps), some (.int it), some (.int 0)]) dX0_renew_15 rfl (by decide) rfl ?_
    refine sx_iload_n (pc := 16) dX0_renew_16 rfl rfl ?_
    refine sx_if_eq (pc := 17) (tgt := 39) dX0_renew_17 (by decide) (fun c_17 => ?_) (fun c_17 => absurd c_17 (by decide))
    refine sx_iconst (pc := 39) (v := 0) dX0_renew_39 (by decide) ?_
    exact sx_iret (pc := 40) dX0_renew_40 rfl rfl (Nat.zero_le _) (Nat.zero_le _) (⟨rfl, (Ch.rf), _, rfl, by decide⟩)
  · have h_7f := c_7
    refine sx_iconst (pc := 10) (v := 1) dX0_renew_10 (by decide) ?_
    refine sx_goto (pc := 11) (tgt := 15) dX0_renew_11 (by decide) ?_
    refine sx_istore_n (pc := 15) (L' := [some (.ref (X.2 + 56)), some (.int ps), some (.int it), some (.int 1)]) dX0_renew_15 rfl (by decide) rfl ?_
    refine sx_iload_n (pc := 16) dX0_renew_16 rfl rfl ?_
    refine sx_if_eq (pc := 17) (tgt := 39) dX0_renew_17 (by decide) (fun c_17 => absurd c_17 (by decide)) (fun c_17 => ?_)
    refine sx_aload_n (pc := 20) dX0_renew_20 rfl rfl ?_
    refine sx_getr (pc := 21) (ci := 0) (j := 4) (r := 91) dX0_renew_21 rfl s_Ho rfl (by decide) lf_X0_26 ?_
    refine sx_iload_n (pc := 24) dX0_renew_24 rfl rfl ?_
    refine sx_iald (pc := 25) dX0_renew_25 s_qlen (by decide) rfl (vp_in_lt (n := 30) ht.1 ht.2 (by decide)) ?_
    refine sx_if_gt (pc := 26) (tgt := 39) dX0_renew_26 (by decide) (fun c_26 => ?_) (fun c_26 => ?_)
    · have h_26t := c_26
      refine sx_iconst (pc := 39) (v := 0) dX0_renew_39 (by decide) ?_
      exact sx_iret (pc := 40) dX0_renew_40 rfl rfl (Nat.zero_le _) (Nat.zero_le _) (⟨rfl, (Ch.rf), _, rfl, by decide⟩)
    · have h_26f := c_26
      refine sx_aload_n (pc := 29) dX0_renew_29 rfl rfl ?_
      refine sx_getr (pc := 30) (ci := 0) (j := 2) (r := 59) dX0_renew_30 rfl s_Ho rfl (by decide) lf_X0_18 ?_
      refine sx_iload_n (pc := 33) dX0_renew_33 rfl rfl ?_
      refine sx_iald (pc := 34) dX0_renew_34 s_rene (by decide) rfl (vp_in_lt (n := 30) ht.1 ht.2 (by decide)) ?_
      refine sx_iconst (pc := 35) (v := 2) dX0_renew_35 (by decide) ?_
      refine sx_icmp_lt (pc := 36) (tgt := 41) dX0_renew_36 (by decide) (fun c_36 => ?_) (fun c_36 => ?_)
      · have h_36t := c_36
        refine sx_aload_n (pc := 41) dX0_renew_41 rfl rfl ?_
        refine sx_getr (pc := 42) (ci := 0) (j := 2) (r := 59) dX0_renew_42 rfl s_Ho rfl (by decide) lf_X0_18 ?_
        refine sx_iload_n (pc := 45) dX0_renew_45 rfl rfl ?_
        refine sx_dup2 (pc := 46) dX0_renew_46 rfl rfl ?_
        refine sx_iald (pc := 47) dX0_renew_47 s_rene (by decide) rfl (vp_in_lt (n := 30) ht.1 ht.2 (by decide)) ?_
        refine sx_iconst (pc := 48) (v := 1) dX0_renew_48 (by decide) ?_
        refine sx_iadd (pc := 49) dX0_renew_49 ?_
        refine sx_iast (pc := 50) dX0_renew_50 s_rene (by decide) rfl (vp_in_lt (n := 30) ht.1 ht.2 (by decide)) (fun μ1 hμ1 => ?_)
        refine sx_iconst (pc := 51) (v := 1) dX0_renew_51 (by decide) ?_
        exact sx_iret (pc := 52) dX0_renew_52 rfl rfl (Nat.zero_le _) (Nat.zero_le _) (⟨rfl, (Ch.put (Ch.rf) hμ1 (by omega) (LB.off hμ1 ⟨by omega, fun _ _ => by omega⟩)), _, rfl, by decide⟩)
      · have h_36f := c_36
        refine sx_iconst (pc := 39) (v := 0) dX0_renew_39 (by decide) ?_
        exact sx_iret (pc := 40) dX0_renew_40 rfl rfl (Nat.zero_le _) (Nat.zero_le _) (⟨rfl, (Ch.rf), _, rfl, by decide⟩)
set_option maxHeartbeats 1000000 in
set_option maxRecDepth 20000 in
theorem l_items {X : xD} {Ex : State → Prop} {l : Launch} {ps : Int32} {μ : xM} : ∀ (t j : Nat) (v : Int32), 30 - j ≤ t → j ≤ 30 → sx l (rmN 0) X Ex false kX0_itemsOf shA.length (xZ X false shA.length (fun r sh' μ' => shA = sh' ∧ μ = μ' ∧ ∃ x : Int32, r = some (.int x)) 0 0) 4 [some (.ref (X.2 + 56)), some (.int ps), some (.int v), some (.int (nI j))] [] shA μ 0 0 := by
  intro t
  induction t with
  | zero =>
    intro j v htt hj
    refine sx_iload_n (pc := 4) dX0_itemsOf_4 rfl rfl ?_
    refine sx_bipush (pc := 5) (v := 30) dX0_itemsOf_5 (by decide) ?_
    refine sx_icmp_ge (pc := 7) (tgt := 29) dX0_itemsOf_7 (by decide) (fun c_7 => ?_) (fun c_7 => absurd (nI_le (a := 30) (b := j) (by omega) (by omega)) c_7)
    refine sx_iload_n (pc := 29) dX0_itemsOf_29 rfl rfl ?_
    exact sx_iret (pc := 30) dX0_itemsOf_30 rfl rfl (Nat.zero_le _) (Nat.zero_le _) (⟨rfl, rfl, _, rfl⟩)
  | succ t ih =>
    intro j v htt hj
    refine sx_iload_n (pc := 4) dX0_itemsOf_4 rfl rfl ?_
    refine sx_bipush (pc := 5) (v := 30) dX0_itemsOf_5 (by decide) ?_
    refine sx_icmp_ge (pc := 7) (tgt := 29) dX0_itemsOf_7 (by decide) (fun c_7 => ?_) (fun c_7 => ?_)
    · have h_7t := c_7
      refine sx_iload_n (pc := 29) dX0_itemsOf_29 rfl rfl ?_
      exact sx_iret (pc := 30) dX0_itemsOf_30 rfl rfl (Nat.zero_le _) (Nat.zero_le _) (⟨rfl, rfl, _, rfl⟩)
    · have h_7f := c_7
      have hlt : j < 30 := Nat.lt_of_not_le fun z => h_7f (nI_le (a := 30) z (by omega))
      refine sx_aload_n (pc := 10) dX0_itemsOf_10 rfl rfl ?_
      refine sx_getr (pc := 11) (ci := 0) (j := 1) (r := 58) dX0_itemsOf_11 rfl s_Ho rfl (by decide) lf_X0_15 ?_
      refine sx_iload_n (pc := 14) dX0_itemsOf_14 rfl rfl ?_
      refine sx_iald (pc := 15) dX0_itemsOf_15 s_borr (by decide) rfl (vp_in_nI (by omega) (by decide)) ?_
      refine sx_iload_n (pc := 16) dX0_itemsOf_16 rfl rfl ?_
      refine sx_icmp_ne (pc := 17) (tgt := 23) dX0_itemsOf_17 (by decide) (fun c_17 => ?_) (fun c_17 => ?_)
      · have h_17t := c_17
        refine sx_iinc (pc := 23) (v := nI (j + 1)) (L' := [some (.ref (X.2 + 56)), some (.int ps), some (.int v), some (.int (nI (j + 1)))]) dX0_itemsOf_23 rfl (nI_1 j) (by decide) rfl ?_
        refine sx_goto (pc := 26) (tgt := 4) dX0_itemsOf_26 (by decide) ?_
        exact ih (j + 1) _ (by omega) (by omega)
      · have h_17f := c_17
        refine sx_iinc (pc := 20) (v := v + 1) (L' := [some (.ref (X.2 + 56)), some (.int ps), some (.int (v + 1)), some (.int (nI j))]) dX0_itemsOf_20 rfl rfl (by decide) rfl ?_
        refine sx_iinc (pc := 23) (v := nI (j + 1)) (L' := [some (.ref (X.2 + 56)), some (.int ps), some (.int (v + 1)), some (.int (nI (j + 1)))]) dX0_itemsOf_23 rfl (nI_1 j) (by decide) rfl ?_
        refine sx_goto (pc := 26) (tgt := 4) dX0_itemsOf_26 (by decide) ?_
        exact ih (j + 1) _ (by omega) (by omega)
set_option maxHeartbeats 1000000 in
set_option maxRecDepth 20000 in
theorem c_items (X : xD) (Ex : State → Prop) (hE : xEs X false shA.length Ex) (μ : xM) (ps : Int32) : Ct X Ex false yX0_itemsOf kX0_itemsOf (rmN 0) [.ref (X.2 + 56), .int ps] shA μ (fun r sh' μ' => shA = sh' ∧ μ = μ' ∧ ∃ x : Int32, r = some (.int x)) := by
  refine Ct.of (L0 := [some (.ref (X.2 + 56)), some (.int ps), none, none]) (by decide) rfl (fun h => by cases h) (by simp [Value.category]) (Nat.le_of_ble_eq_true rfl) rfl (fun l => ?_)
  refine sx_iconst (pc := 0) (v := 0) dX0_itemsOf_0 (by decide) ?_
  refine sx_istore_n (pc := 1) (L' := [some (.ref (X.2 + 56)), some (.int ps), some (.int 0), none]) dX0_itemsOf_1 rfl (by decide) rfl ?_
  refine sx_iconst (pc := 2) (v := 0) dX0_itemsOf_2 (by decide) ?_
  refine sx_istore_n (pc := 3) (L' := [some (.ref (X.2 + 56)), some (.int ps), some (.int 0), some (.int 0)]) dX0_itemsOf_3 rfl (by decide) rfl ?_
  exact l_items 30 0 0 (by omega) (Nat.zero_le _)
set_option maxHeartbeats 1000000 in
set_option maxRecDepth 20000 in
theorem c_decide (X : xD) (Ex : State → Prop) (hE : xEs X false shA.length Ex) (μ : xM) (hG : GD μ) (hL : LB μ) : Ct X Ex false yX0_decide kX0_decide (rmN 2) [.ref (X.2 + 56), .ref (X.2 + 94)] shA μ (fun r sh' μ' => shA = sh' ∧ Ch SH μ μ' ∧ ∃ x : Int32, r = some (.int x) ∧ (x = 0 ∨ x = 1)) := by
  refine Ct.of (L0 := [some (.ref (X.2 + 56)), some (.ref (X.2 + 94))]) (by decide) rfl (fun h => by cases h) (by simp [Value.category]) (Nat.le_of_ble_eq_true rfl) rfl (fun l => ?_)
  refine sx_aload_n (pc := 0) dX0_decide_0 rfl rfl ?_
  refine sx_geti (pc := 1) (ci := 3) (j := 0) dX0_decide_1 rfl s_Me rfl (by decide) lf_X0_29 ?_
  generalize hkd : μ 94 0 = kd
  rcases lk5 kd with rfl | rfl | rfl | rfl | rfl | w_4
  · refine sx_lookup (pc := 4) (off := 65) (tgt := 69) dX0_decide_4 (by decide) (by decide) (by decide) ?_
    refine sx_aload_n (pc := 69) dX0_decide_69 rfl rfl ?_
    refine sx_aload_n (pc := 70) dX0_decide_70 rfl rfl ?_
    refine sx_geti (pc := 71) (ci := 3) (j := 3) dX0_decide_71 rfl s_Me rfl (by decide) lf_X0_38 ?_
    refine sx_callV (pc := 74) (As := [.int (μ 94 3)]) dX0_decide_74 (c_bring X Ex hE μ _ ((hG 2 (by rw [hkd]; decide)).1 (by decide))) mX0_bringBack lm_X0_45 rfl s_Ho rfl ⟨Nat.le_of_ble_eq_true rfl, Nat.le_of_ble_eq_true rfl⟩ ⟨Nat.le_of_ble_eq_true rfl, Nat.le_of_ble_eq_true rfl⟩ (Nat.le_of_ble_eq_true rfl) hE (fun r_74 sh1 μ1 h_74 => ?_)
    obtain ⟨rfl, k_74, x_74, rfl, hx_74⟩ := h_74
    exact sx_iret (pc := 77) dX0_decide_77 rfl (bool_n hx_74) (Nat.zero_le _) (Nat.zero_le _) (⟨rfl, (Ch.trans (Ch.rf) k_74), _, rfl, hx_74⟩)
  · refine sx_lookup (pc := 4) (off := 52) (tgt := 56) dX0_decide_4 (by decide) (by decide) (by decide) ?_
    refine sx_aload_n (pc := 56) dX0_decide_56 rfl rfl ?_
    refine sx_aload_n (pc := 57) dX0_decide_57 rfl rfl ?_
    refine sx_geti (pc := 58) (ci := 3) (j := 2) dX0_decide_58 rfl s_Me rfl (by decide) lf_X0_35 ?_
    refine sx_aload_n (pc := 61) dX0_decide_61 rfl rfl ?_
    refine sx_geti (pc := 62) (ci := 3) (j := 3) dX0_decide_62 rfl s_Me rfl (by decide) lf_X0_38 ?_
    refine sx_callV (pc := 65) (As := [.int (μ 94 2), .int (μ 94 3)]) dX0_decide_65 (c_lend X Ex hE μ _ ((hG 1 (by rw [hkd]; decide)).2 (by decide)) _ ((hG 1 (by rw [hkd]; decide)).1 (by decide)) hL) mX0_lend lm_X0_41 rfl s_Ho rfl ⟨Nat.le_of_ble_eq_true rfl, Nat.le_of_ble_eq_true rfl⟩ ⟨Nat.le_of_ble_eq_true rfl, Nat.le_of_ble_eq_true rfl⟩ (Nat.le_of_ble_eq_true rfl) hE (fun r_65 sh1 μ2 h_65 => ?_)
    obtain ⟨rfl, k_65, x_65, rfl, hx_65⟩ := h_65
    exact sx_iret (pc := 68) dX0_decide_68 rfl (bool_n hx_65) (Nat.zero_le _) (Nat.zero_le _) (⟨rfl, (Ch.trans (Ch.rf) k_65), _, rfl, hx_65⟩)
  · refine sx_lookup (pc := 4) (off := 74) (tgt := 78) dX0_decide_4 (by decide) (by decide) (by decide) ?_
    refine sx_aload_n (pc := 78) dX0_decide_78 rfl rfl ?_
    refine sx_aload_n (pc := 79) dX0_decide_79 rfl rfl ?_
    refine sx_geti (pc := 80) (ci := 3) (j := 2) dX0_decide_80 rfl s_Me rfl (by decide) lf_X0_35 ?_
    refine sx_aload_n (pc := 83) dX0_decide_83 rfl rfl ?_
    refine sx_geti (pc := 84) (ci := 3) (j := 4) dX0_decide_84 rfl s_Me rfl (by decide) lf_X0_49 ?_
    refine sx_callV (pc := 87) (As := [.int (μ 94 2), .int (μ 94 4)]) dX0_decide_87 (c_pay X Ex hE μ _ ((hG 4 (by rw [hkd]; decide)).2 (by decide)) _) mX0_pay lm_X0_52 rfl s_Ho rfl ⟨Nat.le_of_ble_eq_true rfl, Nat.le_of_ble_eq_true rfl⟩ ⟨Nat.le_of_ble_eq_true rfl, Nat.le_of_ble_eq_true rfl⟩ (Nat.le_of_ble_eq_true rfl) hE (fun r_87 sh1 μ3 h_87 => ?_)
    obtain ⟨rfl, k_87, x_87, rfl, hx_87⟩ := h_87
    exact sx_iret (pc := 90) dX0_decide_90 rfl (bool_n hx_87) (Nat.zero_le _) (Nat.zero_le _) (⟨rfl, (Ch.trans (Ch.rf) k_87), _, rfl, hx_87⟩)
  · refine sx_lookup (pc := 4) (off := 87) (tgt := 91) dX0_decide_4 (by decide) (by decide) (by decide) ?_
    refine sx_aload_n (pc := 91) dX0_decide_91 rfl rfl ?_
    refine sx_aload_n (pc := 92) dX0_decide_92 rfl rfl ?_
    refine sx_geti (pc := 93) (ci := 3) (j := 2) dX0_decide_93 rfl s_Me rfl (by decide) lf_X0_35 ?_
    refine sx_aload_n (pc := 96) dX0_decide_96 rfl rfl ?_
    refine sx_geti (pc := 97) (ci := 3) (j := 3) dX0_decide_97 rfl s_Me rfl (by decide) lf_X0_38 ?_
    refine sx_callV (pc := 100) (As := [.int (μ 94 2), .int (μ 94 3)]) dX0_decide_100 (c_queueUp X Ex hE μ _ ((hG 1 (by rw [hkd]; decide)).2 (by decide)) _ ((hG 1 (by rw [hkd]; decide)).1 (by decide)) hL) mX0_queueUp lm_X0_55 rfl s_Ho rfl ⟨Nat.le_of_ble_eq_true rfl, Nat.le_of_ble_eq_true rfl⟩ ⟨Nat.le_of_ble_eq_true rfl, Nat.le_of_ble_eq_true rfl⟩ (Nat.le_of_ble_eq_true rfl) hE (fun r_100 sh1 μ4 h_100 => ?_)
    obtain ⟨rfl, k_100, x_100, rfl, hx_100⟩ := h_100
    exact sx_iret (pc := 103) dX0_decide_103 rfl (bool_n hx_100) (Nat.zero_le _) (Nat.zero_le _) (⟨rfl, (Ch.trans (Ch.rf) k_100), _, rfl, hx_100⟩)
  · refine sx_lookup (pc := 4) (off := 100) (tgt := 104) dX0_decide_4 (by decide) (by decide) (by decide) ?_
    refine sx_aload_n (pc := 104) dX0_decide_104 rfl rfl ?_
    refine sx_aload_n (pc := 105) dX0_decide_105 rfl rfl ?_
    refine sx_geti (pc := 106) (ci := 3) (j := 2) dX0_decide_106 rfl s_Me rfl (by decide) lf_X0_35 ?_
    refine sx_aload_n (pc := 109) dX0_decide_109 rfl rfl ?_
    refine sx_geti (pc := 110) (ci := 3) (j := 3) dX0_decide_110 rfl s_Me rfl (by decide) lf_X0_38 ?_
    refine sx_callV (pc := 113) (As := [.int (μ 94 2), .int (μ 94 3)]) dX0_decide_113 (c_renew X Ex hE μ _ ((hG 1 (by rw [hkd]; decide)).2 (by decide)) _ ((hG 1 (by rw [hkd]; decide)).1 (by decide))) mX0_renew lm_X0_58 rfl s_Ho rfl ⟨Nat.le_of_ble_eq_true rfl, Nat.le_of_ble_eq_true rfl⟩ ⟨Nat.le_of_ble_eq_true rfl, Nat.le_of_ble_eq_true rfl⟩ (Nat.le_of_ble_eq_true rfl) hE (fun r_113 sh1 μ5 h_113 => ?_)
    obtain ⟨rfl, k_113, x_113, rfl, hx_113⟩ := h_113
    exact sx_iret (pc := 116) dX0_decide_116 rfl (bool_n hx_113) (Nat.zero_le _) (Nat.zero_le _) (⟨rfl, (Ch.trans (Ch.rf) k_113), _, rfl, hx_113⟩)
  · refine sx_lookup (pc := 4) (off := 113) (tgt := 117) dX0_decide_4 (by decide) (by show Op.lookupswitch.offset [(66, 65), (67, 52), (70, 74), (72, 87), (82, 100)] 113 _ = _; rw [lv_osw (k := 66) (a := 66) w_4.1 (by decide), lv_osw (k := 67) (a := 67) w_4.2.1 (by decide), lv_osw (k := 70) (a := 70) w_4.2.2.1 (by decide), lv_osw (k := 72) (a := 72) w_4.2.2.2.1 (by decide), lv_osw (k := 82) (a := 82) w_4.2.2.2.2 (by decide)]; rfl) (by decide) ?_
    refine sx_iconst (pc := 117) (v := 1) dX0_decide_117 (by decide) ?_
    exact sx_iret (pc := 118) dX0_decide_118 rfl rfl (Nat.zero_le _) (Nat.zero_le _) (⟨rfl, (Ch.rf), _, rfl, by decide⟩)
set_option maxHeartbeats 1000000 in
set_option maxRecDepth 20000 in
theorem c_figure (X : xD) (Ex : State → Prop) (hE : xEs X false shA.length Ex) (μ : xM) (hG : GD μ) : Ct X Ex false yX0_figureFor kX0_figureFor (rmN 1) [.ref (X.2 + 56), .ref (X.2 + 94)] shA μ (fun r sh' μ' => shA = sh' ∧ μ = μ' ∧ ∃ x : Int32, r = some (.int x)) := by
  refine Ct.of (L0 := [some (.ref (X.2 + 56)), some (.ref (X.2 + 94))]) (by decide) rfl (fun h => by cases h) (by simp [Value.category]) (Nat.le_of_ble_eq_true rfl) rfl (fun l => ?_)
  refine sx_aload_n (pc := 0) dX0_figureFor_0 rfl rfl ?_
  refine sx_geti (pc := 1) (ci := 3) (j := 0) dX0_figureFor_1 rfl s_Me rfl (by decide) lf_X0_29 ?_
  generalize hkd : μ 94 0 = kd
  rcases sw17 kd with rfl | rfl | rfl | rfl | rfl | rfl | rfl | rfl | rfl | rfl | rfl | rfl | rfl | rfl | rfl | rfl | rfl | w_4
  · refine sx_tableIn (pc := 4) (off := 93) (tgt := 97) dX0_figureFor_4 (by decide) (by decide) (by decide) (by decide) ?_
    refine sx_aload_n (pc := 97) dX0_figureFor_97 rfl rfl ?_
    refine sx_getr (pc := 98) (ci := 0) (j := 4) (r := 91) dX0_figureFor_98 rfl s_Ho rfl (by decide) lf_X0_26 ?_
    refine sx_aload_n (pc := 101) dX0_figureFor_101 rfl rfl ?_
    refine sx_geti (pc := 102) (ci := 3) (j := 3) dX0_figureFor_102 rfl s_Me rfl (by decide) lf_X0_38 ?_
    refine sx_iald (pc := 105) dX0_figureFor_105 s_qlen (by decide) rfl (by first | exact (vp_in_lt (n := 30) ((hG 2 (by rw [hkd]; decide)).1 (by decide)).1 ((hG 2 (by rw [hkd]; decide)).1 (by decide)).2 (by decide)) | exact (vp_in_lt (n := 30) ((hG 1 (by rw [hkd]; decide)).1 (by decide)).1 ((hG 1 (by rw [hkd]; decide)).1 (by decide)).2 (by decide))) ?_
    exact sx_iret (pc := 106) dX0_figureFor_106 rfl rfl (Nat.zero_le _) (Nat.zero_le _) (⟨rfl, rfl, _, rfl⟩)
  · refine sx_tableIn (pc := 4) (off := 84) (tgt := 88) dX0_figureFor_4 (by decide) (by decide) (by decide) (by decide) ?_
    refine sx_aload_n (pc := 88) dX0_figureFor_88 rfl rfl ?_
    refine sx_aload_n (pc := 89) dX0_figureFor_89 rfl rfl ?_
    refine sx_geti (pc := 90) (ci := 3) (j := 2) dX0_figureFor_90 rfl s_Me rfl (by decide) lf_X0_35 ?_
    refine sx_callV (pc := 93) (As := [.int (μ 94 2)]) dX0_figureFor_93 (c_items X Ex hE μ _) mX0_itemsOf lm_X0_61 rfl s_Ho rfl ⟨Nat.le_of_ble_eq_true rfl, Nat.le_of_ble_eq_true rfl⟩ ⟨Nat.le_of_ble_eq_true rfl, Nat.le_of_ble_eq_true rfl⟩ (Nat.le_of_ble_eq_true rfl) hE (fun r_93 sh1 μ1 h_93 => ?_)
    obtain ⟨rfl, rfl, x_93, rfl⟩ := h_93
    exact sx_iret (pc := 96) dX0_figureFor_96 rfl rfl (Nat.zero_le _) (Nat.zero_le _) (⟨rfl, rfl, _, rfl⟩)
  · refine sx_tableIn (pc := 4) (off := 152) (tgt := 156) dX0_figureFor_4 (by decide) (by decide) (by decide) (by decide) ?_
    refine sx_iconst (pc := 156) (v := 0) dX0_figureFor_156 (by decide) ?_
    exact sx_iret (pc := 157) dX0_figureFor_157 rfl rfl (Nat.zero_le _) (Nat.zero_le _) (⟨rfl, rfl, _, rfl⟩)
  · refine sx_tableIn (pc := 4) (off := 152) (tgt := 156) dX0_figureFor_4 (by decide) (by decide) (by decide) (by decide) ?_
    refine sx_iconst (pc := 156) (v := 0) dX0_figureFor_156 (by decide) ?_
    exact sx_iret (pc := 157) dX0_figureFor_157 rfl rfl (Nat.zero_le _) (Nat.zero_le _) (⟨rfl, rfl, _, rfl⟩)
  · refine sx_tableIn (pc := 4) (off := 103) (tgt := 107) dX0_figureFor_4 (by decide) (by decide) (by decide) (by decide) ?_
    refine sx_aload_n (pc := 107) dX0_figureFor_107 rfl rfl ?_
    refine sx_getr (pc := 108) (ci := 0) (j := 0) (r := 57) dX0_figureFor_108 rfl s_Ho rfl (by decide) lf_X0_9 ?_
    refine sx_aload_n (pc := 111) dX0_figureFor_111 rfl rfl ?_
    refine sx_geti (pc := 112) (ci := 3) (j := 2) dX0_figureFor_112 rfl s_Me rfl (by decide) lf_X0_35 ?_
    refine sx_iald (pc := 115) dX0_figureFor_115 s_debts (by decide) rfl (by first | exact (vp_in_lt (n := 30) ((hG 3 (by rw [hkd]; decide)).2 (by decide)).1 ((hG 3 (by rw [hkd]; decide)).2 (by decide)).2 (by decide)) | exact (vp_in_lt (n := 30) ((hG 4 (by rw [hkd]; decide)).2 (by decide)).1 ((hG 4 (by rw [hkd]; decide)).2 (by decide)).2 (by decide))) ?_
    exact sx_iret (pc := 116) dX0_figureFor_116 rfl rfl (Nat.zero_le _) (Nat.zero_le _) (⟨rfl, rfl, _, rfl⟩)
  · refine sx_tableIn (pc := 4) (off := 152) (tgt := 156) dX0_figureFor_4 (by decide) (by decide) (by decide) (by decide) ?_
    refine sx_iconst (pc := 156) (v := 0) dX0_figureFor_156 (by decide) ?_
    exact sx_iret (pc := 157) dX0_figureFor_157 rfl rfl (Nat.zero_le _) (Nat.zero_le _) (⟨rfl, rfl, _, rfl⟩)
  · refine sx_tableIn (pc := 4) (off := 93) (tgt := 97) dX0_figureFor_4 (by decide) (by decide) (by decide) (by decide) ?_
    refine sx_aload_n (pc := 97) dX0_figureFor_97 rfl rfl ?_
    refine sx_getr (pc := 98) (ci := 0) (j := 4) (r := 91) dX0_figureFor_98 rfl s_Ho rfl (by decide) lf_X0_26 ?_
    refine sx_aload_n (pc := 101) dX0_figureFor_101 rfl rfl ?_
    refine sx_geti (pc := 102) (ci := 3) (j := 3) dX0_figureFor_102 rfl s_Me rfl (by decide) lf_X0_38 ?_
    refine sx_iald (pc := 105) dX0_figureFor_105 s_qlen (by decide) rfl (by first | exact (vp_in_lt (n := 30) ((hG 2 (by rw [hkd]; decide)).1 (by decide)).1 ((hG 2 (by rw [hkd]; decide)).1 (by decide)).2 (by decide)) | exact (vp_in_lt (n := 30) ((hG 1 (by rw [hkd]; decide)).1 (by decide)).1 ((hG 1 (by rw [hkd]; decide)).1 (by decide)).2 (by decide))) ?_
    exact sx_iret (pc := 106) dX0_figureFor_106 rfl rfl (Nat.zero_le _) (Nat.zero_le _) (⟨rfl, rfl, _, rfl⟩)
  · refine sx_tableIn (pc := 4) (off := 113) (tgt := 117) dX0_figureFor_4 (by decide) (by decide) (by decide) (by decide) ?_
    refine sx_aload_n (pc := 117) dX0_figureFor_117 rfl rfl ?_
    refine sx_getr (pc := 118) (ci := 0) (j := 1) (r := 58) dX0_figureFor_118 rfl s_Ho rfl (by decide) lf_X0_15 ?_
    refine sx_aload_n (pc := 121) dX0_figureFor_121 rfl rfl ?_
    refine sx_geti (pc := 122) (ci := 3) (j := 3) dX0_figureFor_122 rfl s_Me rfl (by decide) lf_X0_38 ?_
    refine sx_iald (pc := 125) dX0_figureFor_125 s_borr (by decide) rfl (vp_in_lt (n := 30) ((hG 2 (by rw [hkd]; decide)).1 (by decide)).1 ((hG 2 (by rw [hkd]; decide)).1 (by decide)).2 (by decide)) ?_
    refine sx_iconst (pc := 126) (v := (-1)) dX0_figureFor_126 (by decide) ?_
    refine sx_icmp_ne (pc := 127) (tgt := 134) dX0_figureFor_127 (by decide) (fun c_127 => ?_) (fun c_127 => ?_)
    · have h_127t := c_127
      refine sx_aload_n (pc := 134) dX0_figureFor_134 rfl rfl ?_
      refine sx_getr (pc := 135) (ci := 0) (j := 1) (r := 58) dX0_figureFor_135 rfl s_Ho rfl (by decide) lf_X0_15 ?_
      refine sx_aload_n (pc := 138) dX0_figureFor_138 rfl rfl ?_
      refine sx_geti (pc := 139) (ci := 3) (j := 3) dX0_figureFor_139 rfl s_Me rfl (by decide) lf_X0_38 ?_
      refine sx_iald (pc := 142) dX0_figureFor_142 s_borr (by decide) rfl (vp_in_lt (n := 30) ((hG 2 (by rw [hkd]; decide)).1 (by decide)).1 ((hG 2 (by rw [hkd]; decide)).1 (by decide)).2 (by decide)) ?_
      refine sx_iconst (pc := 143) (v := 1) dX0_figureFor_143 (by decide) ?_
      refine sx_iadd (pc := 144) dX0_figureFor_144 ?_
      exact sx_iret (pc := 145) dX0_figureFor_145 rfl rfl (Nat.zero_le _) (Nat.zero_le _) (⟨rfl, rfl, _, rfl⟩)
    · have h_127f := c_127
      refine sx_iconst (pc := 130) (v := 0) dX0_figureFor_130 (by decide) ?_
      refine sx_goto (pc := 131) (tgt := 145) dX0_figureFor_131 (by decide) ?_
      exact sx_iret (pc := 145) dX0_figureFor_145 rfl rfl (Nat.zero_le _) (Nat.zero_le _) (⟨rfl, rfl, _, rfl⟩)
  · refine sx_tableIn (pc := 4) (off := 152) (tgt := 156) dX0_figureFor_4 (by decide) (by decide) (by decide) (by decide) ?_
    refine sx_iconst (pc := 156) (v := 0) dX0_figureFor_156 (by decide) ?_
    exact sx_iret (pc := 157) dX0_figureFor_157 rfl rfl (Nat.zero_le _) (Nat.zero_le _) (⟨rfl, rfl, _, rfl⟩)
  · refine sx_tableIn (pc := 4) (off := 152) (tgt := 156) dX0_figureFor_4 (by decide) (by decide) (by decide) (by decide) ?_
    refine sx_iconst (pc := 156) (v := 0) dX0_figureFor_156 (by decide) ?_
    exact sx_iret (pc := 157) dX0_figureFor_157 rfl rfl (Nat.zero_le _) (Nat.zero_le _) (⟨rfl, rfl, _, rfl⟩)
  · refine sx_tableIn (pc := 4) (off := 152) (tgt := 156) dX0_figureFor_4 (by decide) (by decide) (by decide) (by decide) ?_
    refine sx_iconst (pc := 156) (v := 0) dX0_figureFor_156 (by decide) ?_
    exact sx_iret (pc := 157) dX0_figureFor_157 rfl rfl (Nat.zero_le _) (Nat.zero_le _) (⟨rfl, rfl, _, rfl⟩)
  · refine sx_tableIn (pc := 4) (off := 152) (tgt := 156) dX0_figureFor_4 (by decide) (by decide) (by decide) (by decide) ?_
    refine sx_iconst (pc := 156) (v := 0) dX0_figureFor_156 (by decide) ?_
    exact sx_iret (pc := 157) dX0_figureFor_157 rfl rfl (Nat.zero_le _) (Nat.zero_le _) (⟨rfl, rfl, _, rfl⟩)
  · refine sx_tableIn (pc := 4) (off := 152) (tgt := 156) dX0_figureFor_4 (by decide) (by decide) (by decide) (by decide) ?_
    refine sx_iconst (pc := 156) (v := 0) dX0_figureFor_156 (by decide) ?_
    exact sx_iret (pc := 157) dX0_figureFor_157 rfl rfl (Nat.zero_le _) (Nat.zero_le _) (⟨rfl, rfl, _, rfl⟩)
  · refine sx_tableIn (pc := 4) (off := 152) (tgt := 156) dX0_figureFor_4 (by decide) (by decide) (by decide) (by decide) ?_
    refine sx_iconst (pc := 156) (v := 0) dX0_figureFor_156 (by decide) ?_
    exact sx_iret (pc := 157) dX0_figureFor_157 rfl rfl (Nat.zero_le _) (Nat.zero_le _) (⟨rfl, rfl, _, rfl⟩)
  · refine sx_tableIn (pc := 4) (off := 103) (tgt := 107) dX0_figureFor_4 (by decide) (by decide) (by decide) (by decide) ?_
    refine sx_aload_n (pc := 107) dX0_figureFor_107 rfl rfl ?_
    refine sx_getr (pc := 108) (ci := 0) (j := 0) (r := 57) dX0_figureFor_108 rfl s_Ho rfl (by decide) lf_X0_9 ?_
    refine sx_aload_n (pc := 111) dX0_figureFor_111 rfl rfl ?_
    refine sx_geti (pc := 112) (ci := 3) (j := 2) dX0_figureFor_112 rfl s_Me rfl (by decide) lf_X0_35 ?_
    refine sx_iald (pc := 115) dX0_figureFor_115 s_debts (by decide) rfl (by first | exact (vp_in_lt (n := 30) ((hG 3 (by rw [hkd]; decide)).2 (by decide)).1 ((hG 3 (by rw [hkd]; decide)).2 (by decide)).2 (by decide)) | exact (vp_in_lt (n := 30) ((hG 4 (by rw [hkd]; decide)).2 (by decide)).1 ((hG 4 (by rw [hkd]; decide)).2 (by decide)).2 (by decide))) ?_
    exact sx_iret (pc := 116) dX0_figureFor_116 rfl rfl (Nat.zero_le _) (Nat.zero_le _) (⟨rfl, rfl, _, rfl⟩)
  · refine sx_tableIn (pc := 4) (off := 152) (tgt := 156) dX0_figureFor_4 (by decide) (by decide) (by decide) (by decide) ?_
    refine sx_iconst (pc := 156) (v := 0) dX0_figureFor_156 (by decide) ?_
    exact sx_iret (pc := 157) dX0_figureFor_157 rfl rfl (Nat.zero_le _) (Nat.zero_le _) (⟨rfl, rfl, _, rfl⟩)
  · refine sx_tableIn (pc := 4) (off := 142) (tgt := 146) dX0_figureFor_4 (by decide) (by decide) (by decide) (by decide) ?_
    refine sx_aload_n (pc := 146) dX0_figureFor_146 rfl rfl ?_
    refine sx_getr (pc := 147) (ci := 0) (j := 2) (r := 59) dX0_figureFor_147 rfl s_Ho rfl (by decide) lf_X0_18 ?_
    refine sx_aload_n (pc := 150) dX0_figureFor_150 rfl rfl ?_
    refine sx_geti (pc := 151) (ci := 3) (j := 3) dX0_figureFor_151 rfl s_Me rfl (by decide) lf_X0_38 ?_
    refine sx_iald (pc := 154) dX0_figureFor_154 s_rene (by decide) rfl (vp_in_lt (n := 30) ((hG 1 (by rw [hkd]; decide)).1 (by decide)).1 ((hG 1 (by rw [hkd]; decide)).1 (by decide)).2 (by decide)) ?_
    exact sx_iret (pc := 155) dX0_figureFor_155 rfl rfl (Nat.zero_le _) (Nat.zero_le _) (⟨rfl, rfl, _, rfl⟩)
  · refine sx_tableOut (pc := 4) (tgt := 156) dX0_figureFor_4 w_4 (by decide) ?_
    refine sx_iconst (pc := 156) (v := 0) dX0_figureFor_156 (by decide) ?_
    exact sx_iret (pc := 157) dX0_figureFor_157 rfl rfl (Nat.zero_le _) (Nat.zero_le _) (⟨rfl, rfl, _, rfl⟩)
theorem jix {c : Int32} (h : 0 ≤ c ∧ c < 1000) (t : Nat) (ht : t < 5) : vp_in (if t = 0 then c * 5 else c * 5 + nI t) 5000 := by
  obtain ⟨j, hj, rfl⟩ := nI_of (Int32.not_lt.mpr h.1)
  have h1 := h.2
  rw [show (1000 : Int32) = nI 1000 from rfl, nI_ltI (by omega) (by omega)] at h1
  rw [show (5 : Int32) = nI 5 from rfl, pk_mul]
  by_cases h0 : t = 0
  · rw [if_pos h0]; exact vp_in_nI (by omega) (by decide)
  · rw [if_neg h0, nI_add]; exact vp_in_nI (by omega) (by decide)
set_option maxHeartbeats 1000000 in
set_option maxRecDepth 20000 in
theorem c_jadd (X : xD) (Ex : State → Prop) (hE : xEs X false shA.length Ex) (μ : xM) (dv : Int32) : Ct X Ex false yX1_add kX1_add (rmN 1) [.ref (X.2 + 92), .int dv, .ref (X.2 + 94)] shA μ (fun r sh' μ' => shA = sh' ∧ r = none ∧ Ch SJ μ μ') := by
  refine Ct.of (L0 := [some (.ref (X.2 + 92)), some (.int dv), some (.ref (X.2 + 94)), none]) (by decide) rfl (fun h => by cases h) (by simp [Value.category]) (Nat.le_of_ble_eq_true rfl) rfl (fun l => ?_)
  refine sx_aload_n (pc := 0) dX1_add_0 rfl rfl ?_
  refine sx_geti (pc := 1) (ci := 1) (j := 1) dX1_add_1 rfl s_Jo rfl (by decide) lf_X1_15 ?_
  refine sx_sipush (pc := 4) (v := 1000) dX1_add_4 (by decide) ?_
  refine sx_callSN (host := "ExchangeWire") (pc := 7) (As := [.int (μ 92 1), .int 1000]) dX1_add_7 (c_isBelow X Ex false shA μ _ _) mX5_isBelow (by decide +kernel) rfl ⟨Nat.le_of_ble_eq_true rfl, Nat.le_of_ble_eq_true rfl⟩ ⟨Nat.le_of_ble_eq_true rfl, Nat.le_of_ble_eq_true rfl⟩ (Nat.le_of_ble_eq_true rfl) hE (fun r_7 sh1 μ1 h_7 => ?_)
  obtain ⟨rfl, rfl, x_7, rfl, hx_7⟩ := h_7
  refine sx_if_eq (pc := 10) (tgt := 75) dX1_add_10 (by decide) (fun c_10 => ?_) (fun c_10 => ?_)
  · have h_10t := c_10
    refine sx_aload_n (pc := 75) dX1_add_75 rfl rfl ?_
    refine sx_dup (pc := 76) dX1_add_76 rfl ?_
    refine sx_geti (pc := 77) (ci := 1) (j := 1) dX1_add_77 rfl s_Jo rfl (by decide) lf_X1_15 ?_
    refine sx_iconst (pc := 80) (v := 1) dX1_add_80 (by decide) ?_
    refine sx_iadd (pc := 81) dX1_add_81 ?_
    refine sx_puti (pc := 82) (ci := 1) (j := 1) (ty := .int) dX1_add_82 rfl s_Jo rfl (by decide) lf_X1_15 rfl (by decide +kernel) rfl rfl (fun μ2 hμ2 => ?_)
    exact sx_vret (pc := 85) dX1_add_85 rfl (Nat.zero_le _) (Nat.zero_le _) (⟨rfl, rfl, (Ch.put (Ch.rf) hμ2 (by omega) (LB.off hμ2 ⟨by omega, fun _ _ => by omega⟩))⟩)
  · have h_10f := c_10
    refine sx_aload_n (pc := 13) dX1_add_13 rfl rfl ?_
    refine sx_geti (pc := 14) (ci := 1) (j := 1) dX1_add_14 rfl s_Jo rfl (by decide) lf_X1_15 ?_
    refine sx_iconst (pc := 17) (v := 5) dX1_add_17 (by decide) ?_
    refine sx_imul (pc := 18) dX1_add_18 ?_
    refine sx_istore_n (pc := 19) (L' := [some (.ref (X.2 + 92)), some (.int dv), some (.ref (X.2 + 94)), some (.int ((μ 92 1) * 5))]) dX1_add_19 rfl (by decide) rfl ?_
    refine sx_aload_n (pc := 20) dX1_add_20 rfl rfl ?_
    refine sx_getr (pc := 21) (ci := 1) (j := 0) (r := 93) dX1_add_21 rfl s_Jo rfl (by decide) lf_X1_11 ?_
    refine sx_iload_n (pc := 24) dX1_add_24 rfl rfl ?_
    refine sx_iload_n (pc := 25) dX1_add_25 rfl rfl ?_
    refine sx_iast (pc := 26) dX1_add_26 s_parts (by decide) rfl (jix (isB_t hx_7 h_10f) 0 (by decide)) (fun μ3 hμ3 => ?_)
    refine sx_aload_n (pc := 27) dX1_add_27 rfl rfl ?_
    refine sx_getr (pc := 28) (ci := 1) (j := 0) (r := 93) dX1_add_28 rfl s_Jo rfl (by decide) lf_X1_11 ?_
    refine sx_iload_n (pc := 31) dX1_add_31 rfl rfl ?_
    refine sx_iconst (pc := 32) (v := 1) dX1_add_32 (by decide) ?_
    refine sx_iadd (pc := 33) dX1_add_33 ?_
    refine sx_aload_n (pc := 34) dX1_add_34 rfl rfl ?_
    refine sx_geti (pc := 35) (ci := 3) (j := 0) dX1_add_35 rfl s_Me rfl (by decide) lf_X1_23 ?_
    refine sx_iast (pc := 38) dX1_add_38 s_parts (by decide) rfl (jix (isB_t hx_7 h_10f) 1 (by decide)) (fun μ4 hμ4 => ?_)
    refine sx_aload_n (pc := 39) dX1_add_39 rfl rfl ?_
    refine sx_getr (pc := 40) (ci := 1) (j := 0) (r := 93) dX1_add_40 rfl s_Jo rfl (by decide) lf_X1_11 ?_
    refine sx_iload_n (pc := 43) dX1_add_43 rfl rfl ?_
    refine sx_iconst (pc := 44) (v := 2) dX1_add_44 (by decide) ?_
    refine sx_iadd (pc := 45) dX1_add_45 ?_
    refine sx_aload_n (pc := 46) dX1_add_46 rfl rfl ?_
    refine sx_geti (pc := 47) (ci := 3) (j := 3) dX1_add_47 rfl s_Me rfl (by decide) lf_X1_28 ?_
    refine sx_iast (pc := 50) dX1_add_50 s_parts (by decide) rfl (jix (isB_t hx_7 h_10f) 2 (by decide)) (fun μ5 hμ5 => ?_)
    refine sx_aload_n (pc := 51) dX1_add_51 rfl rfl ?_
    refine sx_getr (pc := 52) (ci := 1) (j := 0) (r := 93) dX1_add_52 rfl s_Jo rfl (by decide) lf_X1_11 ?_
    refine sx_iload_n (pc := 55) dX1_add_55 rfl rfl ?_
    refine sx_iconst (pc := 56) (v := 3) dX1_add_56 (by decide) ?_
    refine sx_iadd (pc := 57) dX1_add_57 ?_
    refine sx_aload_n (pc := 58) dX1_add_58 rfl rfl ?_
    refine sx_geti (pc := 59) (ci := 3) (j := 2) dX1_add_59 rfl s_Me rfl (by decide) lf_X1_31 ?_
    refine sx_iast (pc := 62) dX1_add_62 s_parts (by decide) rfl (jix (isB_t hx_7 h_10f) 3 (by decide)) (fun μ6 hμ6 => ?_)
    refine sx_aload_n (pc := 63) dX1_add_63 rfl rfl ?_
    refine sx_getr (pc := 64) (ci := 1) (j := 0) (r := 93) dX1_add_64 rfl s_Jo rfl (by decide) lf_X1_11 ?_
    refine sx_iload_n (pc := 67) dX1_add_67 rfl rfl ?_
    refine sx_iconst (pc := 68) (v := 4) dX1_add_68 (by decide) ?_
    refine sx_iadd (pc := 69) dX1_add_69 ?_
    refine sx_aload_n (pc := 70) dX1_add_70 rfl rfl ?_
    refine sx_geti (pc := 71) (ci := 3) (j := 1) dX1_add_71 rfl s_Me rfl (by decide) lf_X1_34 ?_
    refine sx_iast (pc := 74) dX1_add_74 s_parts (by decide) rfl (jix (isB_t hx_7 h_10f) 4 (by decide)) (fun μ7 hμ7 => ?_)
    refine sx_aload_n (pc := 75) dX1_add_75 rfl rfl ?_
    refine sx_dup (pc := 76) dX1_add_76 rfl ?_
    refine sx_geti (pc := 77) (ci := 1) (j := 1) dX1_add_77 rfl s_Jo rfl (by decide) lf_X1_15 ?_
    refine sx_iconst (pc := 80) (v := 1) dX1_add_80 (by decide) ?_
    refine sx_iadd (pc := 81) dX1_add_81 ?_
    refine sx_puti (pc := 82) (ci := 1) (j := 1) (ty := .int) dX1_add_82 rfl s_Jo rfl (by decide) lf_X1_15 rfl (by decide +kernel) rfl rfl (fun μ8 hμ8 => ?_)
    exact sx_vret (pc := 85) dX1_add_85 rfl (Nat.zero_le _) (Nat.zero_le _) (⟨rfl, rfl, (Ch.put (Ch.put (Ch.put (Ch.put (Ch.put (Ch.put (Ch.rf) hμ3 (by omega) (LB.off hμ3 ⟨by omega, fun _ _ => by omega⟩)) hμ4 (by omega) (LB.off hμ4 ⟨by omega, fun _ _ => by omega⟩)) hμ5 (by omega) (LB.off hμ5 ⟨by omega, fun _ _ => by omega⟩)) hμ6 (by omega) (LB.off hμ6 ⟨by omega, fun _ _ => by omega⟩)) hμ7 (by omega) (LB.off hμ7 ⟨by omega, fun _ _ => by omega⟩)) hμ8 (by omega) (LB.off hμ8 ⟨by omega, fun _ _ => by omega⟩))⟩)
end
section
/-! a message is done -/
abbrev SC : Nat → Prop := fun a => 57 ≤ a ∧ a ≤ 94
abbrev SD (d : Nat) : Nat → Prop := fun a => (57 ≤ a ∧ a ≤ 94) ∨ a = 2 + 9 * d ∨ a = 2 + 9 * d + 4 ∨ a = 2 + 9 * d + 5
abbrev SEd (d : Nat) : Nat → Prop := fun a => (57 ≤ a ∧ a ≤ 94) ∨ a = 2 + 9 * d ∨ (2 + 9 * d + 2 ≤ a ∧ a ≤ 2 + 9 * d + 5)
theorem gd_b {μ μ1 : xM} {v : Int32} (e : μ1 = xup μ 94 2 v) (hk : μ 94 0 = 66) (h : GD μ) : GD μ1 := by
  intro i hi
  have e0 : μ1 94 0 = 66 := by rw [e, xup_at, if_neg (by omega)]; exact hk
  have e3 : μ1 94 3 = μ 94 3 := by rw [e, xup_at, if_neg (by omega)]
  rw [e0] at hi
  have hi2 : i = 2 := by
    have : fK 66 = some 2 := by decide
    rw [this] at hi
    exact (Option.some.inj hi).symm
  subst hi2
  rw [e3]
  exact ⟨fun _ => (h 2 (by rw [hk]; decide)).1 (by decide), fun q => by omega⟩
theorem gd_ch {μ μ1 : xM} (e : μ1 94 = μ 94) (h : GD μ) : GD μ1 := by
  unfold GD
  rw [e]
  exact h
def Dm (d : Nat) (μ μ' : xM) : Prop := Ch (SD d) μ μ' ∧ ∀ j, j = 1 ∨ j = 2 ∨ j = 11 → μ' (2 + 9 * d) j = μ (2 + 9 * d) j
theorem Dm.rf {d : Nat} {μ : xM} : Dm d μ μ := ⟨Ch.rf, fun _ _ => rfl⟩
theorem Dm.put {d : Nat} {μ μ1 μ2 : xM} {j : Nat} {v : Int32} (h : Dm d μ μ1) (e : μ2 = xup μ1 (2 + 9 * d) j v) (hd : d < 6) (hj : j ≠ 1 ∧ j ≠ 2 ∧ j ≠ 11) : Dm d μ μ2 :=
  ⟨Ch.put h.1 e (by omega) (LB.off e ⟨by omega, fun _ _ => by omega⟩), fun i hi => by rw [e, xup_at, if_neg (by omega)]; exact h.2 i hi⟩
theorem Dm.tr {d : Nat} {S : Nat → Prop} {μ μ1 μ2 : xM} (h : Dm d μ μ1) (k : Ch S μ1 μ2) (hs : ∀ a, S a → SD d a ∧ a ≠ 2 + 9 * d) : Dm d μ μ2 :=
  ⟨Ch.trans h.1 k (fun a ha => (hs a ha).1), fun i hi => by rw [k.1 (2 + 9 * d) (fun z => (hs _ z).2 rfl)]; exact h.2 i hi⟩
def E0 (d : Nat) (μ μ' : xM) : Prop := Ch (SEd d) μ μ' ∧ (∀ j, j = 2 ∨ j = 11 → μ' (2 + 9 * d) j = μ (2 + 9 * d) j) ∧ μ' (2 + 9 * d) 1 = 0
theorem E0.mk {d : Nat} {μ μ1 μ2 : xM} (h : Ch SM μ μ1) (e : μ2 = xup μ1 (2 + 9 * d) 1 0) (hd : d < 6) : E0 d μ μ2 :=
  ⟨Ch.put (Ch.trans Ch.rf h (fun a (ha : a = 94) => by show SEd d a; omega)) e (by show SEd d _; omega) (LB.off e ⟨by omega, fun _ _ => by omega⟩), fun j hj => by rw [e, xup_at, if_neg (by omega), h.1 _ (by show ¬ (_ = 94); omega)], by rw [e, xup_at, if_pos ⟨rfl, rfl⟩]⟩
theorem E0.put {d : Nat} {μ μ1 μ2 : xM} {j : Nat} {v : Int32} (h : E0 d μ μ1) (e : μ2 = xup μ1 (2 + 9 * d) j v) (hd : d < 6) (hj : j ≠ 1 ∧ j ≠ 2 ∧ j ≠ 11) : E0 d μ μ2 :=
  ⟨Ch.put h.1 e (by show SEd d _; omega) (LB.off e ⟨by omega, fun _ _ => by omega⟩), fun i hi => by rw [e, xup_at, if_neg (by omega)]; exact h.2.1 i hi, by rw [e, xup_at, if_neg (by omega)]; exact h.2.2⟩
theorem E0.tr {d : Nat} {S : Nat → Prop} {μ μ1 μ2 : xM} (h : E0 d μ μ1) (k : Ch S μ1 μ2) (hs : ∀ a, S a → SEd d a ∧ a ≠ 2 + 9 * d) : E0 d μ μ2 := by
  have e := k.1 (2 + 9 * d) (fun z => (hs _ z).2 rfl)
  exact ⟨Ch.trans h.1 k (fun a ha => (hs a ha).1), fun i hi => by rw [e]; exact h.2.1 i hi, by rw [e]; exact h.2.2⟩
theorem E0.dm {d : Nat} {μ μ1 μ2 : xM} (h : E0 d μ μ1) (k : Dm d μ1 μ2) : E0 d μ μ2 :=
  ⟨Ch.trans h.1 k.1 (fun a (ha : (57 ≤ a ∧ a ≤ 94) ∨ a = 2 + 9 * d ∨ a = 2 + 9 * d + 4 ∨ a = 2 + 9 * d + 5) => by show SEd d a; omega), fun i hi => by rw [k.2 i (by omega)]; exact h.2.1 i hi, by rw [k.2 1 (by omega)]; exact h.2.2⟩
set_option maxHeartbeats 1000000 in
set_option maxRecDepth 20000 in
theorem c_carry (X : xD) (Ex : State → Prop) (hE : xEs X false shA.length Ex) (μ : xM) (dv : Int32) (hG : GD μ) (hL : LB μ) : Ct X Ex false yX5_carryOut kX5_carryOut (rmN 3) [.ref (X.2 + 0), .int dv] shA μ (fun r sh' μ' => shA = sh' ∧ Ch SC μ μ' ∧ GD μ' ∧ ∃ x : Int32, r = some (.int x) ∧ (x = 0 ∨ x = 1)) := by
  refine Ct.of (L0 := [some (.ref (X.2 + 0)), some (.int dv), none]) (by decide) rfl (fun h => by cases h) (by simp [Value.category]) (Nat.le_of_ble_eq_true rfl) rfl (fun l => ?_)
  refine sx_aload_n (pc := 0) dX5_carryOut_0 rfl rfl ?_
  refine sx_getr (pc := 1) (ci := 5) (j := 3) (r := 94) dX5_carryOut_1 rfl s_EW rfl (by decide) lf_X5_33 ?_
  refine sx_geti (pc := 4) (ci := 3) (j := 0) dX5_carryOut_4 rfl s_Me rfl (by decide) lf_X5_140 ?_
  refine sx_bipush (pc := 7) (v := 66) dX5_carryOut_7 (by decide) ?_
  refine sx_icmp_ne (pc := 9) (tgt := 34) dX5_carryOut_9 (by decide) (fun c_9 => ?_) (fun c_9 => ?_)
  · have h_9t := c_9
    have hGm : GD μ := by first | exact hG | exact gd_b hμ h_9f hG
    have hLm : LB μ := by first | exact hL | exact LB.off hμ ⟨by omega, fun _ _ => by omega⟩ hL
    refine sx_aload_n (pc := 34) dX5_carryOut_34 rfl rfl ?_
    refine sx_getr (pc := 35) (ci := 5) (j := 1) (r := 56) dX5_carryOut_35 rfl s_EW rfl (by decide) lf_X5_19 ?_
    refine sx_aload_n (pc := 38) dX5_carryOut_38 rfl rfl ?_
    refine sx_getr (pc := 39) (ci := 5) (j := 3) (r := 94) dX5_carryOut_39 rfl s_EW rfl (by decide) lf_X5_33 ?_
    refine sx_callV (pc := 42) (As := [.ref (X.2 + 94)]) dX5_carryOut_42 (c_decide X Ex hE μ hGm hLm) mX0_decide lm_X5_185 rfl s_Ho rfl ⟨Nat.le_of_ble_eq_true rfl, Nat.le_of_ble_eq_true rfl⟩ ⟨Nat.le_of_ble_eq_true rfl, Nat.le_of_ble_eq_true rfl⟩ (Nat.le_of_ble_eq_true rfl) hE (fun r_42 sh1 μ1 h_42 => ?_)
    obtain ⟨rfl, k_42, x_42, rfl, hx_42⟩ := h_42
    refine sx_istore_n (pc := 45) (L' := [some (.ref (X.2 + 0)), some (.int dv), some (.int x_42)]) dX5_carryOut_45 rfl (by decide) rfl ?_
    refine sx_iload_n (pc := 46) dX5_carryOut_46 rfl rfl ?_
    refine sx_if_eq (pc := 47) (tgt := 72) dX5_carryOut_47 (by decide) (fun c_47 => ?_) (fun c_47 => ?_)
    · have h_47t := c_47
      refine sx_iload_n (pc := 72) dX5_carryOut_72 rfl rfl ?_
      exact sx_iret (pc := 73) dX5_carryOut_73 rfl (bool_n hx_42) (Nat.zero_le _) (Nat.zero_le _) (⟨rfl, (Ch.trans (Ch.rf) k_42 (fun a (h : 57 ≤ a ∧ a ≤ 91) => by show SC a; omega)), by first | exact gd_ch (k_69.1 94 (by omega)) (gd_ch (k_42.1 94 (by omega)) hGm) | exact gd_ch (k_42.1 94 (by omega)) hGm, _, rfl, hx_42⟩)
    · have h_47f := c_47
      refine sx_aload_n (pc := 50) dX5_carryOut_50 rfl rfl ?_
      refine sx_getr (pc := 51) (ci := 5) (j := 3) (r := 94) dX5_carryOut_51 rfl s_EW rfl (by decide) lf_X5_33 ?_
      refine sx_callV (pc := 54) (As := []) dX5_carryOut_54 (c_changes X Ex hE μ1) mX3_changesTheHouse lm_X5_189 rfl s_Me rfl ⟨Nat.le_of_ble_eq_true rfl, Nat.le_of_ble_eq_true rfl⟩ ⟨Nat.le_of_ble_eq_true rfl, Nat.le_of_ble_eq_true rfl⟩ (Nat.le_of_ble_eq_true rfl) hE (fun r_54 sh1 μ2 h_54 => ?_)
      obtain ⟨rfl, rfl, x_54, rfl, hx_54⟩ := h_54
      refine sx_if_eq (pc := 57) (tgt := 72) dX5_carryOut_57 (by decide) (fun c_57 => ?_) (fun c_57 => ?_)
      · have h_57t := c_57
        refine sx_iload_n (pc := 72) dX5_carryOut_72 rfl rfl ?_
        exact sx_iret (pc := 73) dX5_carryOut_73 rfl (bool_n hx_42) (Nat.zero_le _) (Nat.zero_le _) (⟨rfl, (Ch.trans (Ch.rf) k_42 (fun a (h : 57 ≤ a ∧ a ≤ 91) => by show SC a; omega)), by first | exact gd_ch (k_69.1 94 (by omega)) (gd_ch (k_42.1 94 (by omega)) hGm) | exact gd_ch (k_42.1 94 (by omega)) hGm, _, rfl, hx_42⟩)
      · have h_57f := c_57
        refine sx_aload_n (pc := 60) dX5_carryOut_60 rfl rfl ?_
        refine sx_getr (pc := 61) (ci := 5) (j := 2) (r := 92) dX5_carryOut_61 rfl s_EW rfl (by decide) lf_X5_26 ?_
        refine sx_iload_n (pc := 64) dX5_carryOut_64 rfl rfl ?_
        refine sx_aload_n (pc := 65) dX5_carryOut_65 rfl rfl ?_
        refine sx_getr (pc := 66) (ci := 5) (j := 3) (r := 94) dX5_carryOut_66 rfl s_EW rfl (by decide) lf_X5_33 ?_
        refine sx_callV (pc := 69) (As := [.int dv, .ref (X.2 + 94)]) dX5_carryOut_69 (c_jadd X Ex hE μ1 _) mX1_add lm_X5_193 rfl s_Jo rfl ⟨Nat.le_of_ble_eq_true rfl, Nat.le_of_ble_eq_true rfl⟩ ⟨Nat.le_of_ble_eq_true rfl, Nat.le_of_ble_eq_true rfl⟩ (Nat.le_of_ble_eq_true rfl) hE (fun r_69 sh1 μ3 h_69 => ?_)
        obtain ⟨rfl, rfl, k_69⟩ := h_69
        refine sx_iload_n (pc := 72) dX5_carryOut_72 rfl rfl ?_
        exact sx_iret (pc := 73) dX5_carryOut_73 rfl (bool_n hx_42) (Nat.zero_le _) (Nat.zero_le _) (⟨rfl, (Ch.trans (Ch.trans (Ch.rf) k_42 (fun a (h : 57 ≤ a ∧ a ≤ 91) => by show SC a; omega)) k_69 (fun a (h : a = 92 ∨ a = 93) => by show SC a; omega)), by first | exact gd_ch (k_69.1 94 (by omega)) (gd_ch (k_42.1 94 (by omega)) hGm) | exact gd_ch (k_42.1 94 (by omega)) hGm, _, rfl, hx_42⟩)
  · have h_9f := c_9
    refine sx_aload_n (pc := 12) dX5_carryOut_12 rfl rfl ?_
    refine sx_getr (pc := 13) (ci := 5) (j := 3) (r := 94) dX5_carryOut_13 rfl s_EW rfl (by decide) lf_X5_33 ?_
    refine sx_aload_n (pc := 16) dX5_carryOut_16 rfl rfl ?_
    refine sx_getr (pc := 17) (ci := 5) (j := 1) (r := 56) dX5_carryOut_17 rfl s_EW rfl (by decide) lf_X5_19 ?_
    refine sx_getr (pc := 20) (ci := 0) (j := 1) (r := 58) dX5_carryOut_20 rfl s_Ho rfl (by decide) lf_X5_176 ?_
    refine sx_aload_n (pc := 23) dX5_carryOut_23 rfl rfl ?_
    refine sx_getr (pc := 24) (ci := 5) (j := 3) (r := 94) dX5_carryOut_24 rfl s_EW rfl (by decide) lf_X5_33 ?_
    refine sx_geti (pc := 27) (ci := 3) (j := 3) dX5_carryOut_27 rfl s_Me rfl (by decide) lf_X5_179 ?_
    refine sx_iald (pc := 30) dX5_carryOut_30 s_borr (by decide) rfl (vp_in_lt (n := 30) ((hG 2 (by rw [h_9f]; decide)).1 (by decide)).1 ((hG 2 (by rw [h_9f]; decide)).1 (by decide)).2 (by decide)) ?_
    refine sx_puti (pc := 31) (ci := 3) (j := 2) (ty := .int) dX5_carryOut_31 rfl s_Me rfl (by decide) lf_X5_182 rfl (by decide +kernel) rfl rfl (fun μ4 hμ4 => ?_)
    have hGm : GD μ4 := by first | exact hG | exact gd_b hμ4 h_9f hG
    have hLm : LB μ4 := by first | exact hL | exact LB.off hμ4 ⟨by omega, fun _ _ => by omega⟩ hL
    refine sx_aload_n (pc := 34) dX5_carryOut_34 rfl rfl ?_
    refine sx_getr (pc := 35) (ci := 5) (j := 1) (r := 56) dX5_carryOut_35 rfl s_EW rfl (by decide) lf_X5_19 ?_
    refine sx_aload_n (pc := 38) dX5_carryOut_38 rfl rfl ?_
    refine sx_getr (pc := 39) (ci := 5) (j := 3) (r := 94) dX5_carryOut_39 rfl s_EW rfl (by decide) lf_X5_33 ?_
    refine sx_callV (pc := 42) (As := [.ref (X.2 + 94)]) dX5_carryOut_42 (c_decide X Ex hE μ4 hGm hLm) mX0_decide lm_X5_185 rfl s_Ho rfl ⟨Nat.le_of_ble_eq_true rfl, Nat.le_of_ble_eq_true rfl⟩ ⟨Nat.le_of_ble_eq_true rfl, Nat.le_of_ble_eq_true rfl⟩ (Nat.le_of_ble_eq_true rfl) hE (fun r_42 sh1 μ5 h_42 => ?_)
    obtain ⟨rfl, k_42, x_42, rfl, hx_42⟩ := h_42
    refine sx_istore_n (pc := 45) (L' := [some (.ref (X.2 + 0)), some (.int dv), some (.int x_42)]) dX5_carryOut_45 rfl (by decide) rfl ?_
    refine sx_iload_n (pc := 46) dX5_carryOut_46 rfl rfl ?_
    refine sx_if_eq (pc := 47) (tgt := 72) dX5_carryOut_47 (by decide) (fun c_47 => ?_) (fun c_47 => ?_)
    · have h_47t := c_47
      refine sx_iload_n (pc := 72) dX5_carryOut_72 rfl rfl ?_
      exact sx_iret (pc := 73) dX5_carryOut_73 rfl (bool_n hx_42) (Nat.zero_le _) (Nat.zero_le _) (⟨rfl, (Ch.trans (Ch.put (Ch.rf) hμ4 (by show SC _; omega) (LB.off hμ4 ⟨by omega, fun _ _ => by omega⟩)) k_42 (fun a (h : 57 ≤ a ∧ a ≤ 91) => by show SC a; omega)), by first | exact gd_ch (k_69.1 94 (by omega)) (gd_ch (k_42.1 94 (by omega)) hGm) | exact gd_ch (k_42.1 94 (by omega)) hGm, _, rfl, hx_42⟩)
    · have h_47f := c_47
      refine sx_aload_n (pc := 50) dX5_carryOut_50 rfl rfl ?_
      refine sx_getr (pc := 51) (ci := 5) (j := 3) (r := 94) dX5_carryOut_51 rfl s_EW rfl (by decide) lf_X5_33 ?_
      refine sx_callV (pc := 54) (As := []) dX5_carryOut_54 (c_changes X Ex hE μ5) mX3_changesTheHouse lm_X5_189 rfl s_Me rfl ⟨Nat.le_of_ble_eq_true rfl, Nat.le_of_ble_eq_true rfl⟩ ⟨Nat.le_of_ble_eq_true rfl, Nat.le_of_ble_eq_true rfl⟩ (Nat.le_of_ble_eq_true rfl) hE (fun r_54 sh1 μ6 h_54 => ?_)
      obtain ⟨rfl, rfl, x_54, rfl, hx_54⟩ := h_54
      refine sx_if_eq (pc := 57) (tgt := 72) dX5_carryOut_57 (by decide) (fun c_57 => ?_) (fun c_57 => ?_)
      · have h_57t := c_57
        refine sx_iload_n (pc := 72) dX5_carryOut_72 rfl rfl ?_
        exact sx_iret (pc := 73) dX5_carryOut_73 rfl (bool_n hx_42) (Nat.zero_le _) (Nat.zero_le _) (⟨rfl, (Ch.trans (Ch.put (Ch.rf) hμ4 (by show SC _; omega) (LB.off hμ4 ⟨by omega, fun _ _ => by omega⟩)) k_42 (fun a (h : 57 ≤ a ∧ a ≤ 91) => by show SC a; omega)), by first | exact gd_ch (k_69.1 94 (by omega)) (gd_ch (k_42.1 94 (by omega)) hGm) | exact gd_ch (k_42.1 94 (by omega)) hGm, _, rfl, hx_42⟩)
      · have h_57f := c_57
        refine sx_aload_n (pc := 60) dX5_carryOut_60 rfl rfl ?_
        refine sx_getr (pc := 61) (ci := 5) (j := 2) (r := 92) dX5_carryOut_61 rfl s_EW rfl (by decide) lf_X5_26 ?_
        refine sx_iload_n (pc := 64) dX5_carryOut_64 rfl rfl ?_
        refine sx_aload_n (pc := 65) dX5_carryOut_65 rfl rfl ?_
        refine sx_getr (pc := 66) (ci := 5) (j := 3) (r := 94) dX5_carryOut_66 rfl s_EW rfl (by decide) lf_X5_33 ?_
        refine sx_callV (pc := 69) (As := [.int dv, .ref (X.2 + 94)]) dX5_carryOut_69 (c_jadd X Ex hE μ5 _) mX1_add lm_X5_193 rfl s_Jo rfl ⟨Nat.le_of_ble_eq_true rfl, Nat.le_of_ble_eq_true rfl⟩ ⟨Nat.le_of_ble_eq_true rfl, Nat.le_of_ble_eq_true rfl⟩ (Nat.le_of_ble_eq_true rfl) hE (fun r_69 sh1 μ7 h_69 => ?_)
        obtain ⟨rfl, rfl, k_69⟩ := h_69
        refine sx_iload_n (pc := 72) dX5_carryOut_72 rfl rfl ?_
        exact sx_iret (pc := 73) dX5_carryOut_73 rfl (bool_n hx_42) (Nat.zero_le _) (Nat.zero_le _) (⟨rfl, (Ch.trans (Ch.trans (Ch.put (Ch.rf) hμ4 (by show SC _; omega) (LB.off hμ4 ⟨by omega, fun _ _ => by omega⟩)) k_42 (fun a (h : 57 ≤ a ∧ a ≤ 91) => by show SC a; omega)) k_69 (fun a (h : a = 92 ∨ a = 93) => by show SC a; omega)), by first | exact gd_ch (k_69.1 94 (by omega)) (gd_ch (k_42.1 94 (by omega)) hGm) | exact gd_ch (k_42.1 94 (by omega)) hGm, _, rfl, hx_42⟩)
set_option maxHeartbeats 1000000 in
set_option maxRecDepth 20000 in
theorem c_doMessage (X : xD) (Ex : State → Prop) (hE : xEs X false shA.length Ex) (μ : xM) {sk sv : Nat → Nat} {fm : Nat} (hS : ∀ s, Ex s → ExS X sk sv fm s) (dv : Int32) (d : Nat) (hd : d < 6) (hL : LB μ) : Ct X Ex false yX5_doMessage kX5_doMessage (rmN 5) [.ref (X.2 + 0), .int dv, .ref (X.2 + (2 + 9 * d))] shA μ (fun r sh' μ' => shA = sh' ∧ r = none ∧ Dm d μ μ') := by
  refine Ct.of (L0 := [some (.ref (X.2 + 0)), some (.int dv), some (.ref (X.2 + (2 + 9 * d))), none, none]) (by decide) rfl (fun h => by cases h) (by simp [Value.category]) (Nat.le_of_ble_eq_true rfl) rfl (fun l => ?_)
  refine sx_aload_n (pc := 0) dX5_doMessage_0 rfl rfl ?_
  refine sx_aload_n (pc := 1) dX5_doMessage_1 rfl rfl ?_
  refine sx_getr (pc := 2) (ci := 5) (j := 3) (r := 94) dX5_doMessage_2 rfl s_EW rfl (by decide) lf_X5_33 ?_
  refine sx_geti (pc := 5) (ci := 3) (j := 1) dX5_doMessage_5 rfl s_Me rfl (by decide) lf_X5_150 ?_
  refine sx_puti (pc := 8) (ci := 2) (j := 4) (ty := .int) dX5_doMessage_8 rfl (s_Line _ hd) rfl (by decide) lf_X5_116 rfl (by decide +kernel) rfl rfl (fun μ1 hμ1 => ?_)
  refine sx_aload_n (pc := 11) dX5_doMessage_11 rfl rfl ?_
  refine sx_getr (pc := 12) (ci := 5) (j := 3) (r := 94) dX5_doMessage_12 rfl s_EW rfl (by decide) lf_X5_33 ?_
  refine sx_geti (pc := 15) (ci := 3) (j := 0) dX5_doMessage_15 rfl s_Me rfl (by decide) lf_X5_140 ?_
  refine sx_bipush (pc := 18) (v := 83) dX5_doMessage_18 (by decide) ?_
  refine sx_icmp_ne (pc := 20) (tgt := 28) dX5_doMessage_20 (by decide) (fun c_20 => ?_) (fun c_20 => ?_)
  · have h_20t := c_20
    refine sx_aload_n (pc := 28) dX5_doMessage_28 rfl rfl ?_
    refine sx_getr (pc := 29) (ci := 5) (j := 3) (r := 94) dX5_doMessage_29 rfl s_EW rfl (by decide) lf_X5_33 ?_
    refine sx_callV (pc := 32) (As := []) dX5_doMessage_32 (c_firstBad X Ex hE μ1 hS) mX3_firstBadField lm_X5_160 rfl s_Me rfl ⟨Nat.le_of_ble_eq_true rfl, Nat.le_of_ble_eq_true rfl⟩ ⟨Nat.le_of_ble_eq_true rfl, Nat.le_of_ble_eq_true rfl⟩ (Nat.le_of_ble_eq_true rfl) hE (fun r_32 sh1 μ2 h_32 => ?_)
    obtain ⟨rfl, rfl, x_32, rfl, hx_32⟩ := h_32
    refine sx_istore_n (pc := 35) (L' := [some (.ref (X.2 + 0)), some (.int dv), some (.ref (X.2 + (2 + 9 * d))), some (.int x_32), none]) dX5_doMessage_35 rfl (by decide) rfl ?_
    refine sx_aload_n (pc := 36) dX5_doMessage_36 rfl rfl ?_
    refine sx_geti (pc := 37) (ci := 2) (j := 3) dX5_doMessage_37 rfl (s_Line _ hd) rfl (by decide) lf_X5_119 ?_
    refine sx_if_ne (pc := 40) (tgt := 57) dX5_doMessage_40 (by decide) (fun c_40 => ?_) (fun c_40 => ?_)
    · have h_40t := c_40
      refine sx_iload_n (pc := 57) dX5_doMessage_57 rfl rfl ?_
      refine sx_iconst (pc := 58) (v := (-1)) dX5_doMessage_58 (by decide) ?_
      refine sx_icmp_eq (pc := 59) (tgt := 77) dX5_doMessage_59 (by decide) (fun c_59 => ?_) (fun c_59 => ?_)
      · have h_59t := c_59
        refine sx_aload_n (pc := 77) dX5_doMessage_77 rfl rfl ?_
        refine sx_iload_n (pc := 78) dX5_doMessage_78 rfl rfl ?_
        refine sx_callV (pc := 79) (As := [.int dv]) dX5_doMessage_79 (c_carry X Ex hE μ1 _ (hx_32 h_59t) (((Dm.put Dm.rf hμ1 hd (by decide))).1.2 hL)) mX5_carryOut lm_X5_103 rfl s_EW rfl ⟨Nat.le_of_ble_eq_true rfl, Nat.le_of_ble_eq_true rfl⟩ ⟨Nat.le_of_ble_eq_true rfl, Nat.le_of_ble_eq_true rfl⟩ (Nat.le_of_ble_eq_true rfl) hE (fun r_79 sh1 μ3 h_79 => ?_)
        obtain ⟨rfl, k_79, hG79, x_79, rfl, hx_79⟩ := h_79
        refine sx_istore (pc := 82) (L' := [some (.ref (X.2 + 0)), some (.int dv), some (.ref (X.2 + (2 + 9 * d))), some (.int x_32), some (.int x_79)]) dX5_doMessage_82 (by decide) rfl ?_
        refine sx_aload_n (pc := 84) dX5_doMessage_84 rfl rfl ?_
        refine sx_getr (pc := 85) (ci := 2) (j := 7) (r := 2 + 9 * d + 4) dX5_doMessage_85 rfl (s_Line _ hd) rfl (by decide) lf_X5_143 ?_
        refine sx_aload_n (pc := 88) dX5_doMessage_88 rfl rfl ?_
        refine sx_getr (pc := 89) (ci := 5) (j := 3) (r := 94) dX5_doMessage_89 rfl s_EW rfl (by decide) lf_X5_33 ?_
        refine sx_iload (pc := 92) dX5_doMessage_92 rfl ?_
        refine sx_aload_n (pc := 94) dX5_doMessage_94 rfl rfl ?_
        refine sx_getr (pc := 95) (ci := 5) (j := 1) (r := 56) dX5_doMessage_95 rfl s_EW rfl (by decide) lf_X5_19 ?_
        refine sx_aload_n (pc := 98) dX5_doMessage_98 rfl rfl ?_
        refine sx_getr (pc := 99) (ci := 5) (j := 3) (r := 94) dX5_doMessage_99 rfl s_EW rfl (by decide) lf_X5_33 ?_
        refine sx_callV (pc := 102) (As := [.ref (X.2 + 94)]) dX5_doMessage_102 (c_figure X Ex hE μ3 hG79) mX0_figureFor lm_X5_168 rfl s_Ho rfl ⟨Nat.le_of_ble_eq_true rfl, Nat.le_of_ble_eq_true rfl⟩ ⟨Nat.le_of_ble_eq_true rfl, Nat.le_of_ble_eq_true rfl⟩ (Nat.le_of_ble_eq_true rfl) hE (fun r_102 sh1 μ4 h_102 => ?_)
        obtain ⟨rfl, rfl, x_102, rfl⟩ := h_102
        refine sx_callV (pc := 105) (As := [.ref (X.2 + 94), .int x_79, .int x_102]) dX5_doMessage_105 (c_writeVerdict X Ex hE μ3 _ (s_Lke _ hd) ⟨d, hd, Or.inr rfl⟩ _ _) mX4_writeVerdict lm_X5_172 rfl (s_Lke _ hd).1 rfl ⟨Nat.le_of_ble_eq_true rfl, Nat.le_of_ble_eq_true rfl⟩ ⟨Nat.le_of_ble_eq_true rfl, Nat.le_of_ble_eq_true rfl⟩ (Nat.le_of_ble_eq_true rfl) hE (fun r_105 sh1 μ5 h_105 => ?_)
        obtain ⟨rfl, rfl, k_105⟩ := h_105
        exact sx_vret (pc := 108) dX5_doMessage_108 rfl (Nat.zero_le _) (Nat.zero_le _) (⟨rfl, rfl, (Dm.tr (Dm.tr (Dm.put Dm.rf hμ1 hd (by decide)) k_79 (fun a (h : 57 ≤ a ∧ a ≤ 94) => ⟨by show SD d a; omega, by omega⟩)) k_105 (fun a (h : a = 2 + 9 * d + 4 ∨ a = 2 + 9 * d + 4 + 1) => ⟨by show SD d a; omega, by omega⟩))⟩)
      · have h_59f := c_59
        refine sx_aload_n (pc := 62) dX5_doMessage_62 rfl rfl ?_
        refine sx_getr (pc := 63) (ci := 2) (j := 7) (r := 2 + 9 * d + 4) dX5_doMessage_63 rfl (s_Line _ hd) rfl (by decide) lf_X5_143 ?_
        refine sx_aload_n (pc := 66) dX5_doMessage_66 rfl rfl ?_
        refine sx_getr (pc := 67) (ci := 5) (j := 3) (r := 94) dX5_doMessage_67 rfl s_EW rfl (by decide) lf_X5_33 ?_
        refine sx_iload_n (pc := 70) dX5_doMessage_70 rfl rfl ?_
        refine sx_callV (pc := 71) (As := [.ref (X.2 + 94), .int x_32]) dX5_doMessage_71 (c_writeError X Ex hE μ1 _ (s_Lke _ hd) ⟨d, hd, Or.inr rfl⟩ _) mX4_writeError lm_X5_164 rfl (s_Lke _ hd).1 rfl ⟨Nat.le_of_ble_eq_true rfl, Nat.le_of_ble_eq_true rfl⟩ ⟨Nat.le_of_ble_eq_true rfl, Nat.le_of_ble_eq_true rfl⟩ (Nat.le_of_ble_eq_true rfl) hE (fun r_71 sh1 μ6 h_71 => ?_)
        obtain ⟨rfl, rfl, k_71⟩ := h_71
        refine sx_goto (pc := 74) (tgt := 108) dX5_doMessage_74 (by decide) ?_
        exact sx_vret (pc := 108) dX5_doMessage_108 rfl (Nat.zero_le _) (Nat.zero_le _) (⟨rfl, rfl, (Dm.tr (Dm.put Dm.rf hμ1 hd (by decide)) k_71 (fun a (h : a = 2 + 9 * d + 4 ∨ a = 2 + 9 * d + 4 + 1) => ⟨by show SD d a; omega, by omega⟩))⟩)
    · have h_40f := c_40
      refine sx_aload_n (pc := 43) dX5_doMessage_43 rfl rfl ?_
      refine sx_getr (pc := 44) (ci := 2) (j := 7) (r := 2 + 9 * d + 4) dX5_doMessage_44 rfl (s_Line _ hd) rfl (by decide) lf_X5_143 ?_
      refine sx_aload_n (pc := 47) dX5_doMessage_47 rfl rfl ?_
      refine sx_getr (pc := 48) (ci := 5) (j := 3) (r := 94) dX5_doMessage_48 rfl s_EW rfl (by decide) lf_X5_33 ?_
      refine sx_callV (pc := 51) (As := [.ref (X.2 + 94)]) dX5_doMessage_51 (c_writeNo X Ex hE μ1 _ (s_Lke _ hd) ⟨d, hd, Or.inr rfl⟩) mX4_writeNo lm_X5_146 rfl (s_Lke _ hd).1 rfl ⟨Nat.le_of_ble_eq_true rfl, Nat.le_of_ble_eq_true rfl⟩ ⟨Nat.le_of_ble_eq_true rfl, Nat.le_of_ble_eq_true rfl⟩ (Nat.le_of_ble_eq_true rfl) hE (fun r_51 sh1 μ7 h_51 => ?_)
      obtain ⟨rfl, rfl, k_51⟩ := h_51
      refine sx_goto (pc := 54) (tgt := 108) dX5_doMessage_54 (by decide) ?_
      exact sx_vret (pc := 108) dX5_doMessage_108 rfl (Nat.zero_le _) (Nat.zero_le _) (⟨rfl, rfl, (Dm.tr (Dm.put Dm.rf hμ1 hd (by decide)) k_51 (fun a (h : a = 2 + 9 * d + 4 ∨ a = 2 + 9 * d + 4 + 1) => ⟨by show SD d a; omega, by omega⟩))⟩)
  · have h_20f := c_20
    refine sx_aload_n (pc := 23) dX5_doMessage_23 rfl rfl ?_
    refine sx_iconst (pc := 24) (v := 1) dX5_doMessage_24 (by decide) ?_
    refine sx_puti (pc := 25) (ci := 2) (j := 3) (ty := .boolean) dX5_doMessage_25 rfl (s_Line _ hd) rfl (by decide) lf_X5_119 rfl (by decide +kernel) rfl rfl (fun μ8 hμ8 => ?_)
    refine sx_aload_n (pc := 28) dX5_doMessage_28 rfl rfl ?_
    refine sx_getr (pc := 29) (ci := 5) (j := 3) (r := 94) dX5_doMessage_29 rfl s_EW rfl (by decide) lf_X5_33 ?_
    refine sx_callV (pc := 32) (As := []) dX5_doMessage_32 (c_firstBad X Ex hE μ8 hS) mX3_firstBadField lm_X5_160 rfl s_Me rfl ⟨Nat.le_of_ble_eq_true rfl, Nat.le_of_ble_eq_true rfl⟩ ⟨Nat.le_of_ble_eq_true rfl, Nat.le_of_ble_eq_true rfl⟩ (Nat.le_of_ble_eq_true rfl) hE (fun r_32 sh1 μ9 h_32 => ?_)
    obtain ⟨rfl, rfl, x_32, rfl, hx_32⟩ := h_32
    refine sx_istore_n (pc := 35) (L' := [some (.ref (X.2 + 0)), some (.int dv), some (.ref (X.2 + (2 + 9 * d))), some (.int x_32), none]) dX5_doMessage_35 rfl (by decide) rfl ?_
    refine sx_aload_n (pc := 36) dX5_doMessage_36 rfl rfl ?_
    refine sx_geti (pc := 37) (ci := 2) (j := 3) dX5_doMessage_37 rfl (s_Line _ hd) rfl (by decide) lf_X5_119 ?_
    refine sx_if_ne (pc := 40) (tgt := 57) dX5_doMessage_40 (by decide) (fun c_40 => ?_) (fun c_40 => ?_)
    · have h_40t := c_40
      refine sx_iload_n (pc := 57) dX5_doMessage_57 rfl rfl ?_
      refine sx_iconst (pc := 58) (v := (-1)) dX5_doMessage_58 (by decide) ?_
      refine sx_icmp_eq (pc := 59) (tgt := 77) dX5_doMessage_59 (by decide) (fun c_59 => ?_) (fun c_59 => ?_)
      · have h_59t := c_59
        refine sx_aload_n (pc := 77) dX5_doMessage_77 rfl rfl ?_
        refine sx_iload_n (pc := 78) dX5_doMessage_78 rfl rfl ?_
        refine sx_callV (pc := 79) (As := [.int dv]) dX5_doMessage_79 (c_carry X Ex hE μ8 _ (hx_32 h_59t) (((Dm.put (Dm.put Dm.rf hμ1 hd (by decide)) hμ8 hd (by decide))).1.2 hL)) mX5_carryOut lm_X5_103 rfl s_EW rfl ⟨Nat.le_of_ble_eq_true rfl, Nat.le_of_ble_eq_true rfl⟩ ⟨Nat.le_of_ble_eq_true rfl, Nat.le_of_ble_eq_true rfl⟩ (Nat.le_of_ble_eq_true rfl) hE (fun r_79 sh1 μ10 h_79 => ?_)
        obtain ⟨rfl, k_79, hG79, x_79, rfl, hx_79⟩ := h_79
        refine sx_istore (pc := 82) (L' := [some (.ref (X.2 + 0)), some (.int dv), some (.ref (X.2 + (2 + 9 * d))), some (.int x_32), some (.int x_79)]) dX5_doMessage_82 (by decide) rfl ?_
        refine sx_aload_n (pc := 84) dX5_doMessage_84 rfl rfl ?_
        refine sx_getr (pc := 85) (ci := 2) (j := 7) (r := 2 + 9 * d + 4) dX5_doMessage_85 rfl (s_Line _ hd) rfl (by decide) lf_X5_143 ?_
        refine sx_aload_n (pc := 88) dX5_doMessage_88 rfl rfl ?_
        refine sx_getr (pc := 89) (ci := 5) (j := 3) (r := 94) dX5_doMessage_89 rfl s_EW rfl (by decide) lf_X5_33 ?_
        refine sx_iload (pc := 92) dX5_doMessage_92 rfl ?_
        refine sx_aload_n (pc := 94) dX5_doMessage_94 rfl rfl ?_
        refine sx_getr (pc := 95) (ci := 5) (j := 1) (r := 56) dX5_doMessage_95 rfl s_EW rfl (by decide) lf_X5_19 ?_
        refine sx_aload_n (pc := 98) dX5_doMessage_98 rfl rfl ?_
        refine sx_getr (pc := 99) (ci := 5) (j := 3) (r := 94) dX5_doMessage_99 rfl s_EW rfl (by decide) lf_X5_33 ?_
        refine sx_callV (pc := 102) (As := [.ref (X.2 + 94)]) dX5_doMessage_102 (c_figure X Ex hE μ10 hG79) mX0_figureFor lm_X5_168 rfl s_Ho rfl ⟨Nat.le_of_ble_eq_true rfl, Nat.le_of_ble_eq_true rfl⟩ ⟨Nat.le_of_ble_eq_true rfl, Nat.le_of_ble_eq_true rfl⟩ (Nat.le_of_ble_eq_true rfl) hE (fun r_102 sh1 μ11 h_102 => ?_)
        obtain ⟨rfl, rfl, x_102, rfl⟩ := h_102
        refine sx_callV (pc := 105) (As := [.ref (X.2 + 94), .int x_79, .int x_102]) dX5_doMessage_105 (c_writeVerdict X Ex hE μ10 _ (s_Lke _ hd) ⟨d, hd, Or.inr rfl⟩ _ _) mX4_writeVerdict lm_X5_172 rfl (s_Lke _ hd).1 rfl ⟨Nat.le_of_ble_eq_true rfl, Nat.le_of_ble_eq_true rfl⟩ ⟨Nat.le_of_ble_eq_true rfl, Nat.le_of_ble_eq_true rfl⟩ (Nat.le_of_ble_eq_true rfl) hE (fun r_105 sh1 μ12 h_105 => ?_)
        obtain ⟨rfl, rfl, k_105⟩ := h_105
        exact sx_vret (pc := 108) dX5_doMessage_108 rfl (Nat.zero_le _) (Nat.zero_le _) (⟨rfl, rfl, (Dm.tr (Dm.tr (Dm.put (Dm.put Dm.rf hμ1 hd (by decide)) hμ8 hd (by decide)) k_79 (fun a (h : 57 ≤ a ∧ a ≤ 94) => ⟨by show SD d a; omega, by omega⟩)) k_105 (fun a (h : a = 2 + 9 * d + 4 ∨ a = 2 + 9 * d + 4 + 1) => ⟨by show SD d a; omega, by omega⟩))⟩)
      · have h_59f := c_59
        refine sx_aload_n (pc := 62) dX5_doMessage_62 rfl rfl ?_
        refine sx_getr (pc := 63) (ci := 2) (j := 7) (r := 2 + 9 * d + 4) dX5_doMessage_63 rfl (s_Line _ hd) rfl (by decide) lf_X5_143 ?_
        refine sx_aload_n (pc := 66) dX5_doMessage_66 rfl rfl ?_
        refine sx_getr (pc := 67) (ci := 5) (j := 3) (r := 94) dX5_doMessage_67 rfl s_EW rfl (by decide) lf_X5_33 ?_
        refine sx_iload_n (pc := 70) dX5_doMessage_70 rfl rfl ?_
        refine sx_callV (pc := 71) (As := [.ref (X.2 + 94), .int x_32]) dX5_doMessage_71 (c_writeError X Ex hE μ8 _ (s_Lke _ hd) ⟨d, hd, Or.inr rfl⟩ _) mX4_writeError lm_X5_164 rfl (s_Lke _ hd).1 rfl ⟨Nat.le_of_ble_eq_true rfl, Nat.le_of_ble_eq_true rfl⟩ ⟨Nat.le_of_ble_eq_true rfl, Nat.le_of_ble_eq_true rfl⟩ (Nat.le_of_ble_eq_true rfl) hE (fun r_71 sh1 μ13 h_71 => ?_)
        obtain ⟨rfl, rfl, k_71⟩ := h_71
        refine sx_goto (pc := 74) (tgt := 108) dX5_doMessage_74 (by decide) ?_
        exact sx_vret (pc := 108) dX5_doMessage_108 rfl (Nat.zero_le _) (Nat.zero_le _) (⟨rfl, rfl, (Dm.tr (Dm.put (Dm.put Dm.rf hμ1 hd (by decide)) hμ8 hd (by decide)) k_71 (fun a (h : a = 2 + 9 * d + 4 ∨ a = 2 + 9 * d + 4 + 1) => ⟨by show SD d a; omega, by omega⟩))⟩)
    · have h_40f := c_40
      refine sx_aload_n (pc := 43) dX5_doMessage_43 rfl rfl ?_
      refine sx_getr (pc := 44) (ci := 2) (j := 7) (r := 2 + 9 * d + 4) dX5_doMessage_44 rfl (s_Line _ hd) rfl (by decide) lf_X5_143 ?_
      refine sx_aload_n (pc := 47) dX5_doMessage_47 rfl rfl ?_
      refine sx_getr (pc := 48) (ci := 5) (j := 3) (r := 94) dX5_doMessage_48 rfl s_EW rfl (by decide) lf_X5_33 ?_
      refine sx_callV (pc := 51) (As := [.ref (X.2 + 94)]) dX5_doMessage_51 (c_writeNo X Ex hE μ8 _ (s_Lke _ hd) ⟨d, hd, Or.inr rfl⟩) mX4_writeNo lm_X5_146 rfl (s_Lke _ hd).1 rfl ⟨Nat.le_of_ble_eq_true rfl, Nat.le_of_ble_eq_true rfl⟩ ⟨Nat.le_of_ble_eq_true rfl, Nat.le_of_ble_eq_true rfl⟩ (Nat.le_of_ble_eq_true rfl) hE (fun r_51 sh1 μ14 h_51 => ?_)
      obtain ⟨rfl, rfl, k_51⟩ := h_51
      refine sx_goto (pc := 54) (tgt := 108) dX5_doMessage_54 (by decide) ?_
      exact sx_vret (pc := 108) dX5_doMessage_108 rfl (Nat.zero_le _) (Nat.zero_le _) (⟨rfl, rfl, (Dm.tr (Dm.put (Dm.put Dm.rf hμ1 hd (by decide)) hμ8 hd (by decide)) k_51 (fun a (h : a = 2 + 9 * d + 4 ∨ a = 2 + 9 * d + 4 + 1) => ⟨by show SD d a; omega, by omega⟩))⟩)
set_option maxHeartbeats 1000000 in
set_option maxRecDepth 20000 in
theorem c_endMessage (X : xD) (Ex : State → Prop) (hE : xEs X false shA.length Ex) (μ : xM) {sk sv : Nat → Nat} {fm : Nat} (hS : ∀ s, Ex s → ExS X sk sv fm s) (dv : Int32) (d : Nat) (hd : d < 6) (hL : LB μ) : Ct X Ex false yX5_endMessage kX5_endMessage (rmN 6) [.ref (X.2 + 0), .int dv, .ref (X.2 + (2 + 9 * d))] shA μ (fun r sh' μ' => shA = sh' ∧ r = none ∧ E0 d μ μ') := by
  refine Ct.of (L0 := [some (.ref (X.2 + 0)), some (.int dv), some (.ref (X.2 + (2 + 9 * d))), none]) (by decide) rfl (fun h => by cases h) (by simp [Value.category]) (Nat.le_of_ble_eq_true rfl) rfl (fun l => ?_)
  refine sx_aload_n (pc := 0) dX5_endMessage_0 rfl rfl ?_
  refine sx_getr (pc := 1) (ci := 5) (j := 3) (r := 94) dX5_endMessage_1 rfl s_EW rfl (by decide) lf_X5_33 ?_
  refine sx_aload_n (pc := 4) dX5_endMessage_4 rfl rfl ?_
  refine sx_getr (pc := 5) (ci := 2) (j := 0) (r := 2 + 9 * d + 1) dX5_endMessage_5 rfl (s_Line _ hd) rfl (by decide) lf_X5_132 ?_
  refine sx_aload_n (pc := 8) dX5_endMessage_8 rfl rfl ?_
  refine sx_geti (pc := 9) (ci := 2) (j := 1) dX5_endMessage_9 rfl (s_Line _ hd) rfl (by decide) lf_X5_77 ?_
  refine sx_callV (pc := 12) (As := [.ref (X.2 + (2 + 9 * d + 1)), .int (μ (2 + 9 * d) 1)]) dX5_endMessage_12 (c_read X Ex hE μ hS _ (s_Lsg _ hd) _) mX3_read lm_X5_133 rfl s_Me rfl ⟨Nat.le_of_ble_eq_true rfl, Nat.le_of_ble_eq_true rfl⟩ ⟨Nat.le_of_ble_eq_true rfl, Nat.le_of_ble_eq_true rfl⟩ (Nat.le_of_ble_eq_true rfl) hE (fun r_12 sh1 μ1 h_12 => ?_)
  obtain ⟨rfl, k_12, x_12, rfl, hx_12⟩ := h_12
  refine sx_istore_n (pc := 15) (L' := [some (.ref (X.2 + 0)), some (.int dv), some (.ref (X.2 + (2 + 9 * d))), some (.int x_12)]) dX5_endMessage_15 rfl (by decide) rfl ?_
  refine sx_aload_n (pc := 16) dX5_endMessage_16 rfl rfl ?_
  refine sx_iconst (pc := 17) (v := 0) dX5_endMessage_17 (by decide) ?_
  refine sx_puti (pc := 18) (ci := 2) (j := 1) (ty := .int) dX5_endMessage_18 rfl (s_Line _ hd) rfl (by decide) lf_X5_77 rfl (by decide +kernel) rfl rfl (fun μ2 hμ2 => ?_)
  refine sx_iload_n (pc := 21) dX5_endMessage_21 rfl rfl ?_
  refine sx_if_ne (pc := 22) (tgt := 45) dX5_endMessage_22 (by decide) (fun c_22 => ?_) (fun c_22 => ?_)
  · have h_22t := c_22
    refine sx_aload_n (pc := 45) dX5_endMessage_45 rfl rfl ?_
    refine sx_getr (pc := 46) (ci := 5) (j := 3) (r := 94) dX5_endMessage_46 rfl s_EW rfl (by decide) lf_X5_33 ?_
    refine sx_geti (pc := 49) (ci := 3) (j := 0) dX5_endMessage_49 rfl s_Me rfl (by decide) lf_X5_140 ?_
    refine sx_bipush (pc := 52) (v := 81) dX5_endMessage_52 (by decide) ?_
    refine sx_icmp_ne (pc := 54) (tgt := 81) dX5_endMessage_54 (by decide) (fun c_54 => ?_) (fun c_54 => ?_)
    · have h_54t := c_54
      refine sx_aload_n (pc := 81) dX5_endMessage_81 rfl rfl ?_
      refine sx_getr (pc := 82) (ci := 5) (j := 3) (r := 94) dX5_endMessage_82 rfl s_EW rfl (by decide) lf_X5_33 ?_
      refine sx_geti (pc := 85) (ci := 3) (j := 0) dX5_endMessage_85 rfl s_Me rfl (by decide) lf_X5_140 ?_
      refine sx_bipush (pc := 88) (v := 81) dX5_endMessage_88 (by decide) ?_
      refine sx_icmp_eq (pc := 90) (tgt := 113) dX5_endMessage_90 (by decide) (fun c_90 => ?_) (fun c_90 => ?_)
      · have h_90t := c_90
        refine sx_aload_n (pc := 113) dX5_endMessage_113 rfl rfl ?_
        refine sx_getr (pc := 114) (ci := 2) (j := 6) (r := 2 + 9 * d + 2) dX5_endMessage_114 rfl (s_Line _ hd) rfl (by decide) lf_X5_57 ?_
        refine sx_aload_n (pc := 117) dX5_endMessage_117 rfl rfl ?_
        refine sx_getr (pc := 118) (ci := 2) (j := 7) (r := 2 + 9 * d + 4) dX5_endMessage_118 rfl (s_Line _ hd) rfl (by decide) lf_X5_143 ?_
        refine sx_callV (pc := 121) (As := [.ref (X.2 + (2 + 9 * d + 4))]) dX5_endMessage_121 (c_copy X Ex hE μ2 _ _ (s_Lsh _ hd) ⟨d, hd, Or.inl rfl⟩ (s_Lke _ hd) ⟨d, hd, Or.inr rfl⟩ (((E0.mk (Ch.trans Ch.rf k_12 (fun _ h => h)) hμ2 hd)).1.2 hL)) mX4_copy lm_X5_156 rfl (s_Lsh _ hd).1 rfl ⟨Nat.le_of_ble_eq_true rfl, Nat.le_of_ble_eq_true rfl⟩ ⟨Nat.le_of_ble_eq_true rfl, Nat.le_of_ble_eq_true rfl⟩ (Nat.le_of_ble_eq_true rfl) hE (fun r_121 sh1 μ3 h_121 => ?_)
        obtain ⟨rfl, rfl, k_121⟩ := h_121
        exact sx_vret (pc := 124) dX5_endMessage_124 rfl (Nat.zero_le _) (Nat.zero_le _) (⟨rfl, rfl, (E0.tr (E0.mk (Ch.trans Ch.rf k_12 (fun _ h => h)) hμ2 hd) k_121 (fun a (h : a = 2 + 9 * d + 2 ∨ a = 2 + 9 * d + 2 + 1) => ⟨by show SEd d a; omega, by omega⟩))⟩)
      · have h_90f := c_90
        refine sx_aload_n (pc := 93) dX5_endMessage_93 rfl rfl ?_
        refine sx_getr (pc := 94) (ci := 5) (j := 3) (r := 94) dX5_endMessage_94 rfl s_EW rfl (by decide) lf_X5_33 ?_
        refine sx_geti (pc := 97) (ci := 3) (j := 1) dX5_endMessage_97 rfl s_Me rfl (by decide) lf_X5_150 ?_
        refine sx_aload_n (pc := 100) dX5_endMessage_100 rfl rfl ?_
        refine sx_geti (pc := 101) (ci := 2) (j := 4) dX5_endMessage_101 rfl (s_Line _ hd) rfl (by decide) lf_X5_116 ?_
        refine sx_icmp_eq (pc := 104) (tgt := 113) dX5_endMessage_104 (by decide) (fun c_104 => ?_) (fun c_104 => ?_)
        · have h_104t := c_104
          refine sx_aload_n (pc := 113) dX5_endMessage_113 rfl rfl ?_
          refine sx_getr (pc := 114) (ci := 2) (j := 6) (r := 2 + 9 * d + 2) dX5_endMessage_114 rfl (s_Line _ hd) rfl (by decide) lf_X5_57 ?_
          refine sx_aload_n (pc := 117) dX5_endMessage_117 rfl rfl ?_
          refine sx_getr (pc := 118) (ci := 2) (j := 7) (r := 2 + 9 * d + 4) dX5_endMessage_118 rfl (s_Line _ hd) rfl (by decide) lf_X5_143 ?_
          refine sx_callV (pc := 121) (As := [.ref (X.2 + (2 + 9 * d + 4))]) dX5_endMessage_121 (c_copy X Ex hE μ2 _ _ (s_Lsh _ hd) ⟨d, hd, Or.inl rfl⟩ (s_Lke _ hd) ⟨d, hd, Or.inr rfl⟩ (((E0.mk (Ch.trans Ch.rf k_12 (fun _ h => h)) hμ2 hd)).1.2 hL)) mX4_copy lm_X5_156 rfl (s_Lsh _ hd).1 rfl ⟨Nat.le_of_ble_eq_true rfl, Nat.le_of_ble_eq_true rfl⟩ ⟨Nat.le_of_ble_eq_true rfl, Nat.le_of_ble_eq_true rfl⟩ (Nat.le_of_ble_eq_true rfl) hE (fun r_121 sh1 μ4 h_121 => ?_)
          obtain ⟨rfl, rfl, k_121⟩ := h_121
          exact sx_vret (pc := 124) dX5_endMessage_124 rfl (Nat.zero_le _) (Nat.zero_le _) (⟨rfl, rfl, (E0.tr (E0.mk (Ch.trans Ch.rf k_12 (fun _ h => h)) hμ2 hd) k_121 (fun a (h : a = 2 + 9 * d + 2 ∨ a = 2 + 9 * d + 2 + 1) => ⟨by show SEd d a; omega, by omega⟩))⟩)
        · have h_104f := c_104
          refine sx_aload_n (pc := 107) dX5_endMessage_107 rfl rfl ?_
          refine sx_iload_n (pc := 108) dX5_endMessage_108 rfl rfl ?_
          refine sx_aload_n (pc := 109) dX5_endMessage_109 rfl rfl ?_
          refine sx_callV (pc := 110) (As := [.int dv, .ref (X.2 + (2 + 9 * d))]) dX5_endMessage_110 (c_doMessage X Ex hE μ2 hS _ d hd (((E0.mk (Ch.trans Ch.rf k_12 (fun _ h => h)) hμ2 hd)).1.2 hL)) mX5_doMessage lm_X5_153 rfl s_EW rfl ⟨Nat.le_of_ble_eq_true rfl, Nat.le_of_ble_eq_true rfl⟩ ⟨Nat.le_of_ble_eq_true rfl, Nat.le_of_ble_eq_true rfl⟩ (Nat.le_of_ble_eq_true rfl) hE (fun r_110 sh1 μ5 h_110 => ?_)
          obtain ⟨rfl, rfl, k_110⟩ := h_110
          refine sx_aload_n (pc := 113) dX5_endMessage_113 rfl rfl ?_
          refine sx_getr (pc := 114) (ci := 2) (j := 6) (r := 2 + 9 * d + 2) dX5_endMessage_114 rfl (s_Line _ hd) rfl (by decide) lf_X5_57 ?_
          refine sx_aload_n (pc := 117) dX5_endMessage_117 rfl rfl ?_
          refine sx_getr (pc := 118) (ci := 2) (j := 7) (r := 2 + 9 * d + 4) dX5_endMessage_118 rfl (s_Line _ hd) rfl (by decide) lf_X5_143 ?_
          refine sx_callV (pc := 121) (As := [.ref (X.2 + (2 + 9 * d + 4))]) dX5_endMessage_121 (c_copy X Ex hE μ5 _ _ (s_Lsh _ hd) ⟨d, hd, Or.inl rfl⟩ (s_Lke _ hd) ⟨d, hd, Or.inr rfl⟩ (((E0.dm (E0.mk (Ch.trans Ch.rf k_12 (fun _ h => h)) hμ2 hd) k_110)).1.2 hL)) mX4_copy lm_X5_156 rfl (s_Lsh _ hd).1 rfl ⟨Nat.le_of_ble_eq_true rfl, Nat.le_of_ble_eq_true rfl⟩ ⟨Nat.le_of_ble_eq_true rfl, Nat.le_of_ble_eq_true rfl⟩ (Nat.le_of_ble_eq_true rfl) hE (fun r_121 sh1 μ6 h_121 => ?_)
          obtain ⟨rfl, rfl, k_121⟩ := h_121
          exact sx_vret (pc := 124) dX5_endMessage_124 rfl (Nat.zero_le _) (Nat.zero_le _) (⟨rfl, rfl, (E0.tr (E0.dm (E0.mk (Ch.trans Ch.rf k_12 (fun _ h => h)) hμ2 hd) k_110) k_121 (fun a (h : a = 2 + 9 * d + 2 ∨ a = 2 + 9 * d + 2 + 1) => ⟨by show SEd d a; omega, by omega⟩))⟩)
    · have h_54f := c_54
      refine sx_aload_n (pc := 57) dX5_endMessage_57 rfl rfl ?_
      refine sx_getr (pc := 58) (ci := 2) (j := 7) (r := 2 + 9 * d + 4) dX5_endMessage_58 rfl (s_Line _ hd) rfl (by decide) lf_X5_143 ?_
      refine sx_geti (pc := 61) (ci := 4) (j := 1) dX5_endMessage_61 rfl (s_Lke _ hd).1 rfl (by decide) lf_X5_61 ?_
      refine sx_if_ne (pc := 64) (tgt := 81) dX5_endMessage_64 (by decide) (fun c_64 => ?_) (fun c_64 => ?_)
      · have h_64t := c_64
        refine sx_aload_n (pc := 81) dX5_endMessage_81 rfl rfl ?_
        refine sx_getr (pc := 82) (ci := 5) (j := 3) (r := 94) dX5_endMessage_82 rfl s_EW rfl (by decide) lf_X5_33 ?_
        refine sx_geti (pc := 85) (ci := 3) (j := 0) dX5_endMessage_85 rfl s_Me rfl (by decide) lf_X5_140 ?_
        refine sx_bipush (pc := 88) (v := 81) dX5_endMessage_88 (by decide) ?_
        refine sx_icmp_eq (pc := 90) (tgt := 113) dX5_endMessage_90 (by decide) (fun c_90 => ?_) (fun c_90 => ?_)
        · have h_90t := c_90
          refine sx_aload_n (pc := 113) dX5_endMessage_113 rfl rfl ?_
          refine sx_getr (pc := 114) (ci := 2) (j := 6) (r := 2 + 9 * d + 2) dX5_endMessage_114 rfl (s_Line _ hd) rfl (by decide) lf_X5_57 ?_
          refine sx_aload_n (pc := 117) dX5_endMessage_117 rfl rfl ?_
          refine sx_getr (pc := 118) (ci := 2) (j := 7) (r := 2 + 9 * d + 4) dX5_endMessage_118 rfl (s_Line _ hd) rfl (by decide) lf_X5_143 ?_
          refine sx_callV (pc := 121) (As := [.ref (X.2 + (2 + 9 * d + 4))]) dX5_endMessage_121 (c_copy X Ex hE μ2 _ _ (s_Lsh _ hd) ⟨d, hd, Or.inl rfl⟩ (s_Lke _ hd) ⟨d, hd, Or.inr rfl⟩ (((E0.mk (Ch.trans Ch.rf k_12 (fun _ h => h)) hμ2 hd)).1.2 hL)) mX4_copy lm_X5_156 rfl (s_Lsh _ hd).1 rfl ⟨Nat.le_of_ble_eq_true rfl, Nat.le_of_ble_eq_true rfl⟩ ⟨Nat.le_of_ble_eq_true rfl, Nat.le_of_ble_eq_true rfl⟩ (Nat.le_of_ble_eq_true rfl) hE (fun r_121 sh1 μ7 h_121 => ?_)
          obtain ⟨rfl, rfl, k_121⟩ := h_121
          exact sx_vret (pc := 124) dX5_endMessage_124 rfl (Nat.zero_le _) (Nat.zero_le _) (⟨rfl, rfl, (E0.tr (E0.mk (Ch.trans Ch.rf k_12 (fun _ h => h)) hμ2 hd) k_121 (fun a (h : a = 2 + 9 * d + 2 ∨ a = 2 + 9 * d + 2 + 1) => ⟨by show SEd d a; omega, by omega⟩))⟩)
        · have h_90f := c_90
          refine sx_aload_n (pc := 93) dX5_endMessage_93 rfl rfl ?_
          refine sx_getr (pc := 94) (ci := 5) (j := 3) (r := 94) dX5_endMessage_94 rfl s_EW rfl (by decide) lf_X5_33 ?_
          refine sx_geti (pc := 97) (ci := 3) (j := 1) dX5_endMessage_97 rfl s_Me rfl (by decide) lf_X5_150 ?_
          refine sx_aload_n (pc := 100) dX5_endMessage_100 rfl rfl ?_
          refine sx_geti (pc := 101) (ci := 2) (j := 4) dX5_endMessage_101 rfl (s_Line _ hd) rfl (by decide) lf_X5_116 ?_
          refine sx_icmp_eq (pc := 104) (tgt := 113) dX5_endMessage_104 (by decide) (fun c_104 => ?_) (fun c_104 => ?_)
          · have h_104t := c_104
            refine sx_aload_n (pc := 113) dX5_endMessage_113 rfl rfl ?_
            refine sx_getr (pc := 114) (ci := 2) (j := 6) (r := 2 + 9 * d + 2) dX5_endMessage_114 rfl (s_Line _ hd) rfl (by decide) lf_X5_57 ?_
            refine sx_aload_n (pc := 117) dX5_endMessage_117 rfl rfl ?_
            refine sx_getr (pc := 118) (ci := 2) (j := 7) (r := 2 + 9 * d + 4) dX5_endMessage_118 rfl (s_Line _ hd) rfl (by decide) lf_X5_143 ?_
            refine sx_callV (pc := 121) (As := [.ref (X.2 + (2 + 9 * d + 4))]) dX5_endMessage_121 (c_copy X Ex hE μ2 _ _ (s_Lsh _ hd) ⟨d, hd, Or.inl rfl⟩ (s_Lke _ hd) ⟨d, hd, Or.inr rfl⟩ (((E0.mk (Ch.trans Ch.rf k_12 (fun _ h => h)) hμ2 hd)).1.2 hL)) mX4_copy lm_X5_156 rfl (s_Lsh _ hd).1 rfl ⟨Nat.le_of_ble_eq_true rfl, Nat.le_of_ble_eq_true rfl⟩ ⟨Nat.le_of_ble_eq_true rfl, Nat.le_of_ble_eq_true rfl⟩ (Nat.le_of_ble_eq_true rfl) hE (fun r_121 sh1 μ8 h_121 => ?_)
            obtain ⟨rfl, rfl, k_121⟩ := h_121
            exact sx_vret (pc := 124) dX5_endMessage_124 rfl (Nat.zero_le _) (Nat.zero_le _) (⟨rfl, rfl, (E0.tr (E0.mk (Ch.trans Ch.rf k_12 (fun _ h => h)) hμ2 hd) k_121 (fun a (h : a = 2 + 9 * d + 2 ∨ a = 2 + 9 * d + 2 + 1) => ⟨by show SEd d a; omega, by omega⟩))⟩)
          · have h_104f := c_104
            refine sx_aload_n (pc := 107) dX5_endMessage_107 rfl rfl ?_
            refine sx_iload_n (pc := 108) dX5_endMessage_108 rfl rfl ?_
            refine sx_aload_n (pc := 109) dX5_endMessage_109 rfl rfl ?_
            refine sx_callV (pc := 110) (As := [.int dv, .ref (X.2 + (2 + 9 * d))]) dX5_endMessage_110 (c_doMessage X Ex hE μ2 hS _ d hd (((E0.mk (Ch.trans Ch.rf k_12 (fun _ h => h)) hμ2 hd)).1.2 hL)) mX5_doMessage lm_X5_153 rfl s_EW rfl ⟨Nat.le_of_ble_eq_true rfl, Nat.le_of_ble_eq_true rfl⟩ ⟨Nat.le_of_ble_eq_true rfl, Nat.le_of_ble_eq_true rfl⟩ (Nat.le_of_ble_eq_true rfl) hE (fun r_110 sh1 μ9 h_110 => ?_)
            obtain ⟨rfl, rfl, k_110⟩ := h_110
            refine sx_aload_n (pc := 113) dX5_endMessage_113 rfl rfl ?_
            refine sx_getr (pc := 114) (ci := 2) (j := 6) (r := 2 + 9 * d + 2) dX5_endMessage_114 rfl (s_Line _ hd) rfl (by decide) lf_X5_57 ?_
            refine sx_aload_n (pc := 117) dX5_endMessage_117 rfl rfl ?_
            refine sx_getr (pc := 118) (ci := 2) (j := 7) (r := 2 + 9 * d + 4) dX5_endMessage_118 rfl (s_Line _ hd) rfl (by decide) lf_X5_143 ?_
            refine sx_callV (pc := 121) (As := [.ref (X.2 + (2 + 9 * d + 4))]) dX5_endMessage_121 (c_copy X Ex hE μ9 _ _ (s_Lsh _ hd) ⟨d, hd, Or.inl rfl⟩ (s_Lke _ hd) ⟨d, hd, Or.inr rfl⟩ (((E0.dm (E0.mk (Ch.trans Ch.rf k_12 (fun _ h => h)) hμ2 hd) k_110)).1.2 hL)) mX4_copy lm_X5_156 rfl (s_Lsh _ hd).1 rfl ⟨Nat.le_of_ble_eq_true rfl, Nat.le_of_ble_eq_true rfl⟩ ⟨Nat.le_of_ble_eq_true rfl, Nat.le_of_ble_eq_true rfl⟩ (Nat.le_of_ble_eq_true rfl) hE (fun r_121 sh1 μ10 h_121 => ?_)
            obtain ⟨rfl, rfl, k_121⟩ := h_121
            exact sx_vret (pc := 124) dX5_endMessage_124 rfl (Nat.zero_le _) (Nat.zero_le _) (⟨rfl, rfl, (E0.tr (E0.dm (E0.mk (Ch.trans Ch.rf k_12 (fun _ h => h)) hμ2 hd) k_110) k_121 (fun a (h : a = 2 + 9 * d + 2 ∨ a = 2 + 9 * d + 2 + 1) => ⟨by show SEd d a; omega, by omega⟩))⟩)
      · have h_64f := c_64
        refine sx_aload_n (pc := 67) dX5_endMessage_67 rfl rfl ?_
        refine sx_getr (pc := 68) (ci := 2) (j := 6) (r := 2 + 9 * d + 2) dX5_endMessage_68 rfl (s_Line _ hd) rfl (by decide) lf_X5_57 ?_
        refine sx_aload_n (pc := 71) dX5_endMessage_71 rfl rfl ?_
        refine sx_getr (pc := 72) (ci := 5) (j := 3) (r := 94) dX5_endMessage_72 rfl s_EW rfl (by decide) lf_X5_33 ?_
        refine sx_callV (pc := 75) (As := [.ref (X.2 + 94)]) dX5_endMessage_75 (c_writeNo X Ex hE μ2 _ (s_Lsh _ hd) ⟨d, hd, Or.inl rfl⟩) mX4_writeNo lm_X5_146 rfl (s_Lsh _ hd).1 rfl ⟨Nat.le_of_ble_eq_true rfl, Nat.le_of_ble_eq_true rfl⟩ ⟨Nat.le_of_ble_eq_true rfl, Nat.le_of_ble_eq_true rfl⟩ (Nat.le_of_ble_eq_true rfl) hE (fun r_75 sh1 μ11 h_75 => ?_)
        obtain ⟨rfl, rfl, k_75⟩ := h_75
        refine sx_goto (pc := 78) (tgt := 124) dX5_endMessage_78 (by decide) ?_
        exact sx_vret (pc := 124) dX5_endMessage_124 rfl (Nat.zero_le _) (Nat.zero_le _) (⟨rfl, rfl, (E0.tr (E0.mk (Ch.trans Ch.rf k_12 (fun _ h => h)) hμ2 hd) k_75 (fun a (h : a = 2 + 9 * d + 2 ∨ a = 2 + 9 * d + 2 + 1) => ⟨by show SEd d a; omega, by omega⟩))⟩)
  · have h_22f := c_22
    refine sx_aload_n (pc := 25) dX5_endMessage_25 rfl rfl ?_
    refine sx_dup (pc := 26) dX5_endMessage_26 rfl ?_
    refine sx_geti (pc := 27) (ci := 2) (j := 5) dX5_endMessage_27 rfl (s_Line _ hd) rfl (by decide) lf_X5_122 ?_
    refine sx_iconst (pc := 30) (v := 1) dX5_endMessage_30 (by decide) ?_
    refine sx_iadd (pc := 31) dX5_endMessage_31 ?_
    refine sx_puti (pc := 32) (ci := 2) (j := 5) (ty := .int) dX5_endMessage_32 rfl (s_Line _ hd) rfl (by decide) lf_X5_122 rfl (by decide +kernel) rfl rfl (fun μ12 hμ12 => ?_)
    refine sx_aload_n (pc := 35) dX5_endMessage_35 rfl rfl ?_
    refine sx_getr (pc := 36) (ci := 2) (j := 6) (r := 2 + 9 * d + 2) dX5_endMessage_36 rfl (s_Line _ hd) rfl (by decide) lf_X5_57 ?_
    refine sx_callV (pc := 39) (As := []) dX5_endMessage_39 (c_writeWrong X Ex hE μ12 _ (s_Lsh _ hd) ⟨d, hd, Or.inl rfl⟩) mX4_writeWrong lm_X5_137 rfl (s_Lsh _ hd).1 rfl ⟨Nat.le_of_ble_eq_true rfl, Nat.le_of_ble_eq_true rfl⟩ ⟨Nat.le_of_ble_eq_true rfl, Nat.le_of_ble_eq_true rfl⟩ (Nat.le_of_ble_eq_true rfl) hE (fun r_39 sh1 μ13 h_39 => ?_)
    obtain ⟨rfl, rfl, k_39⟩ := h_39
    refine sx_goto (pc := 42) (tgt := 124) dX5_endMessage_42 (by decide) ?_
    exact sx_vret (pc := 124) dX5_endMessage_124 rfl (Nat.zero_le _) (Nat.zero_le _) (⟨rfl, rfl, (E0.tr (E0.put (E0.mk (Ch.trans Ch.rf k_12 (fun _ h => h)) hμ2 hd) hμ12 hd (by decide)) k_39 (fun a (h : a = 2 + 9 * d + 2 ∨ a = 2 + 9 * d + 2 + 1) => ⟨by show SEd d a; omega, by omega⟩))⟩)
end
section
/-! the public methods of the class: what they answer and leave, by a view that the reference has too: signs of each line, broken, rows, the sum -/
abbrev VT : Type := (Nat → Int32) × (Nat → Int32) × (Nat → Int32) × Int32
def VD (v : VT) : Prop := (∀ d, d < 6 → (v.2.1 d = 0 ∨ v.2.1 d = 1) ∧ (0 ≤ v.1 d ∧ v.1 d ≤ 60) ∧ 0 ≤ v.2.2.1 d ∧ v.2.2.1 d ≤ 20) ∧ 0 ≤ v.2.2.2 ∧ v.2.2.2 < 256
def Ln (μ : xM) (v : VT) (d : Nat) : Prop := μ (2 + 9 * d) 2 = v.2.1 d ∧ (v.2.1 d = 0 → μ (2 + 9 * d) 1 = v.1 d) ∧ μ (2 + 9 * d) 11 = v.2.2.1 d ∧ ∀ j, j < 20 → (0 ≤ μ (2 + 9 * d + 7) j ∧ μ (2 + 9 * d + 7) j < 30) ∧ 0 ≤ μ (2 + 9 * d + 8) j ∧ μ (2 + 9 * d + 8) j < 30
def Vc (μ : xM) (v : VT) : Prop := (∀ d, d < 6 → Ln μ v d) ∧ μ 0 4 = v.2.2.2 ∧ LB μ
abbrev Ks (μ μ' : xM) : Prop := ∀ a, 95 ≤ a → μ' a = μ a
theorem Vc.upd {μ μ' : xM} {v v' : VT} {d : Nat} (h : Vc μ v) (hLB : LB μ') (h0 : μ' 0 = μ 0) (hs : v'.2.2.2 = v.2.2.2) (ho : ∀ e, e < 6 → e ≠ d → μ' (2 + 9 * e) = μ (2 + 9 * e) ∧ μ' (2 + 9 * e + 7) = μ (2 + 9 * e + 7) ∧ μ' (2 + 9 * e + 8) = μ (2 + 9 * e + 8)) (hv : ∀ e, e ≠ d → v'.1 e = v.1 e ∧ v'.2.1 e = v.2.1 e ∧ v'.2.2.1 e = v.2.2.1 e) (hl : Ln μ' v' d) : Vc μ' v' := by
  refine ⟨fun e he => ?_, by rw [h0, hs]; exact h.2.1, hLB⟩
  by_cases q : e = d
  · rw [q]; exact hl
  · obtain ⟨a1, a2, a3⟩ := ho e he q
    obtain ⟨b1, b2, b3⟩ := hv e q
    have hh := h.1 e he
    unfold Ln at hh ⊢
    rw [a1, a2, a3, b1, b2, b3]
    exact hh
theorem Vc.same {μ μ' : xM} {v : VT} (h : Vc μ v) (hLB : LB μ') (hk : ∀ a, a < 57 → (∀ e, e < 6 → a ≠ 2 + 9 * e + 1 ∧ a ≠ 2 + 9 * e + 2 ∧ a ≠ 2 + 9 * e + 3 ∧ a ≠ 2 + 9 * e + 4 ∧ a ≠ 2 + 9 * e + 5) → μ' a = μ a) : Vc μ' v := by
  refine ⟨fun e he => ?_, by rw [hk 0 (by omega) (fun _ _ => by omega)]; exact h.2.1, hLB⟩
  have hh := h.1 e he
  unfold Ln at hh ⊢
  rw [hk (2 + 9 * e) (by omega) (fun _ _ => by omega), hk (2 + 9 * e + 7) (by omega) (fun _ _ => by omega), hk (2 + 9 * e + 8) (by omega) (fun _ _ => by omega)]
  exact hh
def oOct (dev b : Int32) (v : VT) : VT × Int32 := if 0 ≤ dev ∧ dev < 6 then (if v.2.1 dev.toNatClampNeg = 0 then (if b &&& 255 = 13 then ((upd v.1 dev.toNatClampNeg 0, v.2), 0) else (if v.1 dev.toNatClampNeg = 60 then ((v.1, upd v.2.1 dev.toNatClampNeg 1, v.2.2), (-2)) else ((upd v.1 dev.toNatClampNeg (v.1 dev.toNatClampNeg + 1), v.2), v.1 dev.toNatClampNeg + 1))) else (v, (-2))) else (v, (-1))
def oReset (dev : Int32) (v : VT) : VT := if 0 ≤ dev ∧ dev < 6 then (upd v.1 dev.toNatClampNeg 0, upd v.2.1 dev.toNatClampNeg 0, v.2.2) else v
def oOff (dev k i p : Int32) (v : VT) : VT × Int32 := if (0 ≤ dev ∧ dev < 6) ∧ (0 ≤ k ∧ k < 2) ∧ (0 ≤ i ∧ i < 30) ∧ (0 ≤ p ∧ p < 30) then (if v.2.2.1 dev.toNatClampNeg = 20 then (v, (-2)) else ((v.1, v.2.1, upd v.2.2.1 dev.toNatClampNeg (v.2.2.1 dev.toNatClampNeg + 1), v.2.2.2), v.2.2.1 dev.toNatClampNeg + 1)) else (v, (-1))
def oJoin (dev : Int32) (v : VT) : VT := if 0 ≤ dev ∧ dev < 6 then (v.1, v.2.1, upd v.2.2.1 dev.toNatClampNeg 0, v.2.2.2) else v
def oSum (c : Int32) (v : VT) : VT × Int32 := if c < 0 then ((v.1, v.2.1, v.2.2.1, 0), v.2.2.2) else ((v.1, v.2.1, v.2.2.1, (v.2.2.2 + c) &&& 255), (v.2.2.2 + c) &&& 255)
set_option maxHeartbeats 1000000 in
set_option maxRecDepth 20000 in
theorem c_take (X : xD) (Ex : State → Prop) (hE : xEs X false shA.length Ex) (μ : xM) (d : Nat) (hd : d < 6) (sg : Int32) : Ct X Ex false yX2_take kX2_take (rmN 1) [.ref (X.2 + (2 + 9 * d)), .int sg] shA μ (fun r sh' μ' => shA = sh' ∧ Ch (fun a => a = 2 + 9 * d ∨ a = 2 + 9 * d + 1) μ μ' ∧ μ' (2 + 9 * d) 11 = μ (2 + 9 * d) 11 ∧ ((¬ μ (2 + 9 * d) 2 = 0 ∧ μ' (2 + 9 * d) 2 = μ (2 + 9 * d) 2 ∧ r = some (.int (-2))) ∨ (μ (2 + 9 * d) 2 = 0 ∧ (0 ≤ μ (2 + 9 * d) 1 ∧ μ (2 + 9 * d) 1 < 60) ∧ μ' (2 + 9 * d) 2 = 0 ∧ μ' (2 + 9 * d) 1 = μ (2 + 9 * d) 1 + 1 ∧ r = some (.int (μ (2 + 9 * d) 1 + 1))) ∨ (μ (2 + 9 * d) 2 = 0 ∧ ¬ (0 ≤ μ (2 + 9 * d) 1 ∧ μ (2 + 9 * d) 1 < 60) ∧ μ' (2 + 9 * d) 2 = 1 ∧ r = some (.int (-2))))) := by
  refine Ct.of (L0 := [some (.ref (X.2 + (2 + 9 * d))), some (.int sg)]) (by decide) rfl (fun h => by cases h) (by simp [Value.category]) (Nat.le_of_ble_eq_true rfl) rfl (fun l => ?_)
  refine sx_aload_n (pc := 0) dX2_take_0 rfl rfl ?_
  refine sx_geti (pc := 1) (ci := 2) (j := 2) dX2_take_1 rfl (s_Line _ hd) rfl (by decide) lf_X2_19 ?_
  refine sx_if_eq (pc := 4) (tgt := 10) dX2_take_4 (by decide) (fun c_4 => ?_) (fun c_4 => ?_)
  · have h_4t := c_4
    refine sx_aload_n (pc := 10) dX2_take_10 rfl rfl ?_
    refine sx_geti (pc := 11) (ci := 2) (j := 1) dX2_take_11 rfl (s_Line _ hd) rfl (by decide) lf_X2_15 ?_
    refine sx_bipush (pc := 14) (v := 60) dX2_take_14 (by decide) ?_
    refine sx_callSN (host := "ExchangeWire") (pc := 16) (As := [.int (μ (2 + 9 * d) 1), .int 60]) dX2_take_16 (c_isBelow X Ex false shA μ _ _) mX5_isBelow (by decide +kernel) rfl ⟨Nat.le_of_ble_eq_true rfl, Nat.le_of_ble_eq_true rfl⟩ ⟨Nat.le_of_ble_eq_true rfl, Nat.le_of_ble_eq_true rfl⟩ (Nat.le_of_ble_eq_true rfl) hE (fun r_16 sh1 μ1 h_16 => ?_)
    obtain ⟨rfl, rfl, x_16, rfl, hx_16⟩ := h_16
    refine sx_if_eq (pc := 19) (tgt := 47) dX2_take_19 (by decide) (fun c_19 => ?_) (fun c_19 => ?_)
    · have h_19t := c_19
      refine sx_aload_n (pc := 47) dX2_take_47 rfl rfl ?_
      refine sx_dup (pc := 48) dX2_take_48 rfl ?_
      refine sx_geti (pc := 49) (ci := 2) (j := 1) dX2_take_49 rfl (s_Line _ hd) rfl (by decide) lf_X2_15 ?_
      refine sx_iconst (pc := 52) (v := 1) dX2_take_52 (by decide) ?_
      refine sx_iadd (pc := 53) dX2_take_53 ?_
      refine sx_puti (pc := 54) (ci := 2) (j := 1) (ty := .int) dX2_take_54 rfl (s_Line _ hd) rfl (by decide) lf_X2_15 rfl (by decide +kernel) rfl rfl (fun μ2 hμ2 => ?_)
      refine sx_aload_n (pc := 57) dX2_take_57 rfl rfl ?_
      refine sx_iconst (pc := 58) (v := 1) dX2_take_58 (by decide) ?_
      refine sx_puti (pc := 59) (ci := 2) (j := 2) (ty := .boolean) dX2_take_59 rfl (s_Line _ hd) rfl (by decide) lf_X2_19 rfl (by decide +kernel) rfl rfl (fun μ3 hμ3 => ?_)
      refine sx_bipush (pc := 62) (v := (-2)) dX2_take_62 (by decide) ?_
      exact sx_iret (pc := 64) dX2_take_64 rfl rfl (Nat.zero_le _) (Nat.zero_le _) (⟨rfl, (Ch.put (Ch.put (Ch.rf) hμ2 (by omega) (LB.off hμ2 ⟨by omega, fun _ _ => by omega⟩)) hμ3 (by omega) (LB.off hμ3 ⟨by omega, fun _ _ => by omega⟩)), by subst hμ3; subst hμ2; simp [xup_at], Or.inr (Or.inr ⟨h_4t, isB_f hx_16 h_19t, by subst hμ3; subst hμ2; simp [xup_at], rfl⟩)⟩)
    · have h_19f := c_19
      refine sx_aload_n (pc := 22) dX2_take_22 rfl rfl ?_
      refine sx_getr (pc := 23) (ci := 2) (j := 0) (r := 2 + 9 * d + 1) dX2_take_23 rfl (s_Line _ hd) rfl (by decide) lf_X2_9 ?_
      refine sx_aload_n (pc := 26) dX2_take_26 rfl rfl ?_
      refine sx_geti (pc := 27) (ci := 2) (j := 1) dX2_take_27 rfl (s_Line _ hd) rfl (by decide) lf_X2_15 ?_
      refine sx_iload_n (pc := 30) dX2_take_30 rfl rfl ?_
      refine sx_iast (pc := 31) dX2_take_31 (s_Lsg _ hd) (by decide) rfl (vp_in_lt (n := 60) (isB_t hx_16 h_19f).1 (isB_t hx_16 h_19f).2 (by decide)) (fun μ4 hμ4 => ?_)
      refine sx_aload_n (pc := 32) dX2_take_32 rfl rfl ?_
      refine sx_dup (pc := 33) dX2_take_33 rfl ?_
      refine sx_geti (pc := 34) (ci := 2) (j := 1) dX2_take_34 rfl (s_Line _ hd) rfl (by decide) lf_X2_15 ?_
      refine sx_iconst (pc := 37) (v := 1) dX2_take_37 (by decide) ?_
      refine sx_iadd (pc := 38) dX2_take_38 ?_
      refine sx_puti (pc := 39) (ci := 2) (j := 1) (ty := .int) dX2_take_39 rfl (s_Line _ hd) rfl (by decide) lf_X2_15 rfl (by decide +kernel) rfl rfl (fun μ5 hμ5 => ?_)
      refine sx_aload_n (pc := 42) dX2_take_42 rfl rfl ?_
      refine sx_geti (pc := 43) (ci := 2) (j := 1) dX2_take_43 rfl (s_Line _ hd) rfl (by decide) lf_X2_15 ?_
      exact sx_iret (pc := 46) dX2_take_46 rfl rfl (Nat.zero_le _) (Nat.zero_le _) (⟨rfl, (Ch.put (Ch.put (Ch.rf) hμ4 (by omega) (LB.off hμ4 ⟨by omega, fun _ _ => by omega⟩)) hμ5 (by omega) (LB.off hμ5 ⟨by omega, fun _ _ => by omega⟩)), by subst hμ5; subst hμ4; simp [xup_at], Or.inr (Or.inl ⟨h_4t, isB_t hx_16 h_19f, by subst hμ5; subst hμ4; simp [xup_at, h_4t], by subst hμ5; subst hμ4; simp [xup_at], by subst hμ5; subst hμ4; simp [xup_at]⟩)⟩)
  · have h_4f := c_4
    refine sx_bipush (pc := 7) (v := (-2)) dX2_take_7 (by decide) ?_
    exact sx_iret (pc := 9) dX2_take_9 rfl rfl (Nat.zero_le _) (Nat.zero_le _) (⟨rfl, (Ch.rf), rfl, Or.inl ⟨h_4f, rfl, rfl⟩⟩)
set_option maxHeartbeats 1000000 in
set_option maxRecDepth 20000 in
theorem c_clear (X : xD) (Ex : State → Prop) (hE : xEs X false shA.length Ex) (μ : xM) (d : Nat) (hd : d < 6) : Ct X Ex false yX2_clear kX2_clear (rmN 0) [.ref (X.2 + (2 + 9 * d))] shA μ (fun r sh' μ' => shA = sh' ∧ r = none ∧ Ch (fun a => a = 2 + 9 * d ∨ a = 2 + 9 * d + 2 ∨ a = 2 + 9 * d + 4) μ μ' ∧ μ' (2 + 9 * d) 1 = 0 ∧ μ' (2 + 9 * d) 2 = 0 ∧ μ' (2 + 9 * d) 11 = μ (2 + 9 * d) 11) := by
  refine Ct.of (L0 := [some (.ref (X.2 + (2 + 9 * d)))]) (by decide) rfl (fun h => by cases h) (by simp [Value.category]) (Nat.le_of_ble_eq_true rfl) rfl (fun l => ?_)
  refine sx_aload_n (pc := 0) dX2_clear_0 rfl rfl ?_
  refine sx_iconst (pc := 1) (v := 0) dX2_clear_1 (by decide) ?_
  refine sx_puti (pc := 2) (ci := 2) (j := 1) (ty := .int) dX2_clear_2 rfl (s_Line _ hd) rfl (by decide) lf_X2_15 rfl (by decide +kernel) rfl rfl (fun μ1 hμ1 => ?_)
  refine sx_aload_n (pc := 5) dX2_clear_5 rfl rfl ?_
  refine sx_iconst (pc := 6) (v := 0) dX2_clear_6 (by decide) ?_
  refine sx_puti (pc := 7) (ci := 2) (j := 2) (ty := .boolean) dX2_clear_7 rfl (s_Line _ hd) rfl (by decide) lf_X2_19 rfl (by decide +kernel) rfl rfl (fun μ2 hμ2 => ?_)
  refine sx_aload_n (pc := 10) dX2_clear_10 rfl rfl ?_
  refine sx_iconst (pc := 11) (v := 0) dX2_clear_11 (by decide) ?_
  refine sx_puti (pc := 12) (ci := 2) (j := 3) (ty := .boolean) dX2_clear_12 rfl (s_Line _ hd) rfl (by decide) lf_X2_23 rfl (by decide +kernel) rfl rfl (fun μ3 hμ3 => ?_)
  refine sx_aload_n (pc := 15) dX2_clear_15 rfl rfl ?_
  refine sx_iconst (pc := 16) (v := (-1)) dX2_clear_16 (by decide) ?_
  refine sx_puti (pc := 17) (ci := 2) (j := 4) (ty := .int) dX2_clear_17 rfl (s_Line _ hd) rfl (by decide) lf_X2_26 rfl (by decide +kernel) rfl rfl (fun μ4 hμ4 => ?_)
  refine sx_aload_n (pc := 20) dX2_clear_20 rfl rfl ?_
  refine sx_iconst (pc := 21) (v := 0) dX2_clear_21 (by decide) ?_
  refine sx_puti (pc := 22) (ci := 2) (j := 5) (ty := .int) dX2_clear_22 rfl (s_Line _ hd) rfl (by decide) lf_X2_29 rfl (by decide +kernel) rfl rfl (fun μ5 hμ5 => ?_)
  refine sx_aload_n (pc := 25) dX2_clear_25 rfl rfl ?_
  refine sx_getr (pc := 26) (ci := 2) (j := 6) (r := 2 + 9 * d + 2) dX2_clear_26 rfl (s_Line _ hd) rfl (by decide) lf_X2_35 ?_
  refine sx_iconst (pc := 29) (v := 0) dX2_clear_29 (by decide) ?_
  refine sx_puti (pc := 30) (ci := 4) (j := 1) (ty := .int) dX2_clear_30 rfl (s_Lsh _ hd).1 rfl (by decide) lf_X2_58 rfl (by decide +kernel) rfl rfl (fun μ6 hμ6 => ?_)
  refine sx_aload_n (pc := 33) dX2_clear_33 rfl rfl ?_
  refine sx_getr (pc := 34) (ci := 2) (j := 7) (r := 2 + 9 * d + 4) dX2_clear_34 rfl (s_Line _ hd) rfl (by decide) lf_X2_39 ?_
  refine sx_iconst (pc := 37) (v := 0) dX2_clear_37 (by decide) ?_
  refine sx_puti (pc := 38) (ci := 4) (j := 1) (ty := .int) dX2_clear_38 rfl (s_Lke _ hd).1 rfl (by decide) lf_X2_58 rfl (by decide +kernel) rfl rfl (fun μ7 hμ7 => ?_)
  exact sx_vret (pc := 41) dX2_clear_41 rfl (Nat.zero_le _) (Nat.zero_le _) (⟨rfl, rfl, (Ch.put (Ch.put (Ch.put (Ch.put (Ch.put (Ch.put (Ch.put (Ch.rf) hμ1 (by omega) (LB.off hμ1 ⟨by omega, fun _ _ => by omega⟩)) hμ2 (by omega) (LB.off hμ2 ⟨by omega, fun _ _ => by omega⟩)) hμ3 (by omega) (LB.off hμ3 ⟨by omega, fun _ _ => by omega⟩)) hμ4 (by omega) (LB.off hμ4 ⟨by omega, fun _ _ => by omega⟩)) hμ5 (by omega) (LB.off hμ5 ⟨by omega, fun _ _ => by omega⟩)) hμ6 (by omega) (LB.len hμ6 ⟨d, hd, Or.inl rfl⟩ (by decide))) hμ7 (by omega) (LB.len hμ7 ⟨d, hd, Or.inr rfl⟩ (by decide))), by subst hμ7; subst hμ6; subst hμ5; subst hμ4; subst hμ3; subst hμ2; subst hμ1; simp [xup_at], by subst hμ7; subst hμ6; subst hμ5; subst hμ4; subst hμ3; subst hμ2; subst hμ1; simp [xup_at], by subst hμ7; subst hμ6; subst hμ5; subst hμ4; subst hμ3; subst hμ2; subst hμ1; simp [xup_at]⟩)
set_option maxHeartbeats 1000000 in
set_option maxRecDepth 20000 in
theorem c_addRow (X : xD) (Ex : State → Prop) (hE : xEs X false shA.length Ex) (μ : xM) (d : Nat) (hd : d < 6) (kd it ps : Int32) (ht : 0 ≤ it ∧ it < 30) (hp : 0 ≤ ps ∧ ps < 30) : Ct X Ex false yX2_addRow kX2_addRow (rmN 1) [.ref (X.2 + (2 + 9 * d)), .int kd, .int it, .int ps] shA μ (fun r sh' μ' => shA = sh' ∧ Ch (fun a => a = 2 + 9 * d ∨ a = 2 + 9 * d + 6 ∨ a = 2 + 9 * d + 7 ∨ a = 2 + 9 * d + 8) μ μ' ∧ (μ' (2 + 9 * d) 1 = μ (2 + 9 * d) 1 ∧ μ' (2 + 9 * d) 2 = μ (2 + 9 * d) 2) ∧ (∀ j, (μ' (2 + 9 * d + 7) j = it ∨ μ' (2 + 9 * d + 7) j = μ (2 + 9 * d + 7) j) ∧ (μ' (2 + 9 * d + 8) j = ps ∨ μ' (2 + 9 * d + 8) j = μ (2 + 9 * d + 8) j)) ∧ ((¬ (0 ≤ μ (2 + 9 * d) 11 ∧ μ (2 + 9 * d) 11 < 20) ∧ μ' (2 + 9 * d) 11 = μ (2 + 9 * d) 11 ∧ r = some (.int (-2))) ∨ ((0 ≤ μ (2 + 9 * d) 11 ∧ μ (2 + 9 * d) 11 < 20) ∧ μ' (2 + 9 * d) 11 = μ (2 + 9 * d) 11 + 1 ∧ r = some (.int (μ (2 + 9 * d) 11 + 1))))) := by
  refine Ct.of (L0 := [some (.ref (X.2 + (2 + 9 * d))), some (.int kd), some (.int it), some (.int ps)]) (by decide) rfl (fun h => by cases h) (by simp [Value.category]) (Nat.le_of_ble_eq_true rfl) rfl (fun l => ?_)
  refine sx_aload_n (pc := 0) dX2_addRow_0 rfl rfl ?_
  refine sx_geti (pc := 1) (ci := 2) (j := 11) dX2_addRow_1 rfl (s_Line _ hd) rfl (by decide) lf_X2_51 ?_
  refine sx_bipush (pc := 4) (v := 20) dX2_addRow_4 (by decide) ?_
  refine sx_callSN (host := "ExchangeWire") (pc := 6) (As := [.int (μ (2 + 9 * d) 11), .int 20]) dX2_addRow_6 (c_isBelow X Ex false shA μ _ _) mX5_isBelow (by decide +kernel) rfl ⟨Nat.le_of_ble_eq_true rfl, Nat.le_of_ble_eq_true rfl⟩ ⟨Nat.le_of_ble_eq_true rfl, Nat.le_of_ble_eq_true rfl⟩ (Nat.le_of_ble_eq_true rfl) hE (fun r_6 sh1 μ1 h_6 => ?_)
  obtain ⟨rfl, rfl, x_6, rfl, hx_6⟩ := h_6
  refine sx_if_ne (pc := 9) (tgt := 15) dX2_addRow_9 (by decide) (fun c_9 => ?_) (fun c_9 => ?_)
  · have h_9t := c_9
    refine sx_aload_n (pc := 15) dX2_addRow_15 rfl rfl ?_
    refine sx_getr (pc := 16) (ci := 2) (j := 8) (r := 2 + 9 * d + 6) dX2_addRow_16 rfl (s_Line _ hd) rfl (by decide) lf_X2_42 ?_
    refine sx_aload_n (pc := 19) dX2_addRow_19 rfl rfl ?_
    refine sx_geti (pc := 20) (ci := 2) (j := 11) dX2_addRow_20 rfl (s_Line _ hd) rfl (by decide) lf_X2_51 ?_
    refine sx_iload_n (pc := 23) dX2_addRow_23 rfl rfl ?_
    refine sx_iast (pc := 24) dX2_addRow_24 (s_Lrk _ hd) (by decide) rfl (vp_in_lt (n := 20) (isB_t hx_6 h_9t).1 (isB_t hx_6 h_9t).2 (by decide)) (fun μ2 hμ2 => ?_)
    refine sx_aload_n (pc := 25) dX2_addRow_25 rfl rfl ?_
    refine sx_getr (pc := 26) (ci := 2) (j := 9) (r := 2 + 9 * d + 7) dX2_addRow_26 rfl (s_Line _ hd) rfl (by decide) lf_X2_45 ?_
    refine sx_aload_n (pc := 29) dX2_addRow_29 rfl rfl ?_
    refine sx_geti (pc := 30) (ci := 2) (j := 11) dX2_addRow_30 rfl (s_Line _ hd) rfl (by decide) lf_X2_51 ?_
    refine sx_iload_n (pc := 33) dX2_addRow_33 rfl rfl ?_
    refine sx_iast (pc := 34) dX2_addRow_34 (s_Lri _ hd) (by decide) rfl (by rw [hμ2, xup_at, if_neg (by omega)]; exact (vp_in_lt (n := 20) (isB_t hx_6 h_9t).1 (isB_t hx_6 h_9t).2 (by decide))) (fun μ3 hμ3 => ?_)
    refine sx_aload_n (pc := 35) dX2_addRow_35 rfl rfl ?_
    refine sx_getr (pc := 36) (ci := 2) (j := 10) (r := 2 + 9 * d + 8) dX2_addRow_36 rfl (s_Line _ hd) rfl (by decide) lf_X2_48 ?_
    refine sx_aload_n (pc := 39) dX2_addRow_39 rfl rfl ?_
    refine sx_geti (pc := 40) (ci := 2) (j := 11) dX2_addRow_40 rfl (s_Line _ hd) rfl (by decide) lf_X2_51 ?_
    refine sx_iload_n (pc := 43) dX2_addRow_43 rfl rfl ?_
    refine sx_iast (pc := 44) dX2_addRow_44 (s_Lrp _ hd) (by decide) rfl (by rw [hμ3, xup_at, if_neg (by omega), hμ2, xup_at, if_neg (by omega)]; exact (vp_in_lt (n := 20) (isB_t hx_6 h_9t).1 (isB_t hx_6 h_9t).2 (by decide))) (fun μ4 hμ4 => ?_)
    refine sx_aload_n (pc := 45) dX2_addRow_45 rfl rfl ?_
    refine sx_dup (pc := 46) dX2_addRow_46 rfl ?_
    refine sx_geti (pc := 47) (ci := 2) (j := 11) dX2_addRow_47 rfl (s_Line _ hd) rfl (by decide) lf_X2_51 ?_
    refine sx_iconst (pc := 50) (v := 1) dX2_addRow_50 (by decide) ?_
    refine sx_iadd (pc := 51) dX2_addRow_51 ?_
    refine sx_puti (pc := 52) (ci := 2) (j := 11) (ty := .int) dX2_addRow_52 rfl (s_Line _ hd) rfl (by decide) lf_X2_51 rfl (by decide +kernel) rfl rfl (fun μ5 hμ5 => ?_)
    refine sx_aload_n (pc := 55) dX2_addRow_55 rfl rfl ?_
    refine sx_geti (pc := 56) (ci := 2) (j := 11) dX2_addRow_56 rfl (s_Line _ hd) rfl (by decide) lf_X2_51 ?_
    exact sx_iret (pc := 59) dX2_addRow_59 rfl rfl (Nat.zero_le _) (Nat.zero_le _) (⟨rfl, (Ch.put (Ch.put (Ch.put (Ch.put (Ch.rf) hμ2 (by omega) (LB.off hμ2 ⟨by omega, fun _ _ => by omega⟩)) hμ3 (by omega) (LB.off hμ3 ⟨by omega, fun _ _ => by omega⟩)) hμ4 (by omega) (LB.off hμ4 ⟨by omega, fun _ _ => by omega⟩)) hμ5 (by omega) (LB.off hμ5 ⟨by omega, fun _ _ => by omega⟩)), ⟨by subst hμ5; subst hμ4; subst hμ3; subst hμ2; simp [xup_at], by subst hμ5; subst hμ4; subst hμ3; subst hμ2; simp [xup_at]⟩, fun j => ⟨by rw [show ∀ b, μ5 (2 + 9 * d + 7) b = if b = (μ (2 + 9 * d) 11).toNatClampNeg then it else μ (2 + 9 * d + 7) b from fun b => (by subst hμ5; subst hμ4; subst hμ3; subst hμ2; simp [xup_at])]; split; exact Or.inl rfl; exact Or.inr rfl, by rw [show ∀ b, μ5 (2 + 9 * d + 8) b = if b = (μ (2 + 9 * d) 11).toNatClampNeg then ps else μ (2 + 9 * d + 8) b from fun b => (by subst hμ5; subst hμ4; subst hμ3; subst hμ2; simp [xup_at])]; split; exact Or.inl rfl; exact Or.inr rfl⟩, Or.inr ⟨isB_t hx_6 h_9t, by subst hμ5; subst hμ4; subst hμ3; subst hμ2; simp [xup_at], by subst hμ5; subst hμ4; subst hμ3; subst hμ2; simp [xup_at]⟩⟩)
  · have h_9f := c_9
    refine sx_bipush (pc := 12) (v := (-2)) dX2_addRow_12 (by decide) ?_
    exact sx_iret (pc := 14) dX2_addRow_14 rfl rfl (Nat.zero_le _) (Nat.zero_le _) (⟨rfl, (Ch.rf), ⟨rfl, rfl⟩, fun j => ⟨Or.inr rfl, Or.inr rfl⟩, Or.inl ⟨isB_f hx_6 h_9f, rfl, rfl⟩⟩)
end
section
theorem eq60 {x : Int32} {n : Nat} (hn : n < 2 ^ 31) (h0 : 0 ≤ x) (h1 : x ≤ nI n) (h2 : ¬ (0 ≤ x ∧ x < nI n)) : x = nI n := by
  obtain ⟨j, hj, rfl⟩ := nI_of (Int32.not_lt.mpr h0)
  rw [nI_leI hj hn] at h1
  have h3 : ¬ j < n := fun q => h2 ⟨h0, nI_lt q hn⟩
  have : j = n := by omega
  rw [this]
section OPS
variable {μ μ' : xM} {v : VT} {dev : Int32} {r : Option Value}
theorem oct_take {b : Int32} (hV : Vc μ v) (hD : VD v) (hb : 0 ≤ dev ∧ dev < 6) (hn : μ (2 + 9 * dev.toNatClampNeg) 2 = 0 → ¬ b &&& 255 = 13) (k : Ch (fun a => a = 2 + 9 * dev.toNatClampNeg ∨ a = 2 + 9 * dev.toNatClampNeg + 1) μ μ') (e11 : μ' (2 + 9 * dev.toNatClampNeg) 11 = μ (2 + 9 * dev.toNatClampNeg) 11)
    (hc : (¬ μ (2 + 9 * dev.toNatClampNeg) 2 = 0 ∧ μ' (2 + 9 * dev.toNatClampNeg) 2 = μ (2 + 9 * dev.toNatClampNeg) 2 ∧ r = some (.int (-2))) ∨ (μ (2 + 9 * dev.toNatClampNeg) 2 = 0 ∧ (0 ≤ μ (2 + 9 * dev.toNatClampNeg) 1 ∧ μ (2 + 9 * dev.toNatClampNeg) 1 < 60) ∧ μ' (2 + 9 * dev.toNatClampNeg) 2 = 0 ∧ μ' (2 + 9 * dev.toNatClampNeg) 1 = μ (2 + 9 * dev.toNatClampNeg) 1 + 1 ∧ r = some (.int (μ (2 + 9 * dev.toNatClampNeg) 1 + 1))) ∨ (μ (2 + 9 * dev.toNatClampNeg) 2 = 0 ∧ ¬ (0 ≤ μ (2 + 9 * dev.toNatClampNeg) 1 ∧ μ (2 + 9 * dev.toNatClampNeg) 1 < 60) ∧ μ' (2 + 9 * dev.toNatClampNeg) 2 = 1 ∧ r = some (.int (-2)))) : Ks μ μ' ∧ Vc μ' (oOct dev b v).1 ∧ r = some (.int (oOct dev b v).2) := by
  have hd := clamp_lt (n := 6) hb.1 hb.2 (by decide)
  have hl := hV.1 _ hd
  have hv := hD.1 _ hd
  have hK : Ks μ μ' := fun a ha => k.1 a (fun z => by rcases z with z | z <;> omega)
  have ho : ∀ e, e < 6 → e ≠ dev.toNatClampNeg → μ' (2 + 9 * e) = μ (2 + 9 * e) ∧ μ' (2 + 9 * e + 7) = μ (2 + 9 * e + 7) ∧ μ' (2 + 9 * e + 8) = μ (2 + 9 * e + 8) := fun e he hne => ⟨k.1 _ (fun z => by rcases z with z | z <;> omega), k.1 _ (fun z => by rcases z with z | z <;> omega), k.1 _ (fun z => by rcases z with z | z <;> omega)⟩
  have h0 : μ' 0 = μ 0 := k.1 0 (fun z => by rcases z with z | z <;> omega)
  have hLB := k.2 hV.2.2
  have e7 : μ' (2 + 9 * dev.toNatClampNeg + 7) = μ (2 + 9 * dev.toNatClampNeg + 7) := k.1 _ (fun z => by rcases z with z | z <;> omega)
  have e8 : μ' (2 + 9 * dev.toNatClampNeg + 8) = μ (2 + 9 * dev.toNatClampNeg + 8) := k.1 _ (fun z => by rcases z with z | z <;> omega)
  unfold Ln at hl
  rw [oOct, if_pos hb]
  rcases hc with ⟨a1, a2, rfl⟩ | ⟨a1, a2, a3, a4, rfl⟩ | ⟨a1, a2, a3, rfl⟩
  · rw [if_neg (by rw [← hl.1]; exact a1)]
    exact ⟨hK, hV.upd hLB h0 rfl ho (fun _ _ => ⟨rfl, rfl, rfl⟩) ⟨by rw [a2]; exact hl.1, fun q => absurd (hl.1.trans q) a1, by rw [e11]; exact hl.2.2.1, by rw [e7, e8]; exact hl.2.2.2⟩, rfl⟩
  · have hz := hl.1.symm.trans a1
    have hcnt := hl.2.1 hz
    rw [if_pos hz, if_neg (hn a1), if_neg (by rw [← hcnt]; intro q; rw [q] at a2; exact absurd a2.2 (by decide))]
    exact ⟨hK, hV.upd hLB h0 rfl ho (fun e he => ⟨pk_un he, rfl, rfl⟩) ⟨a3.trans hz.symm, fun _ => by rw [a4, hcnt]; exact pk_us.symm, by rw [e11]; exact hl.2.2.1, by rw [e7, e8]; exact hl.2.2.2⟩, by rw [hcnt]⟩
  · have hz := hl.1.symm.trans a1
    have hcnt := hl.2.1 hz
    rw [hcnt] at a2
    rw [if_pos hz, if_neg (hn a1), if_pos (show v.1 dev.toNatClampNeg = 60 from eq60 (n := 60) (by decide) hv.2.1.1 hv.2.1.2 a2)]
    exact ⟨hK, hV.upd hLB h0 rfl ho (fun e he => ⟨rfl, pk_un he, rfl⟩) ⟨a3.trans pk_us.symm, fun q => absurd (pk_us.symm.trans q) (by decide), by rw [e11]; exact hl.2.2.1, by rw [e7, e8]; exact hl.2.2.2⟩, rfl⟩
theorem oct_end {b : Int32} (hV : Vc μ v) (hb : 0 ≤ dev ∧ dev < 6) (hz0 : μ (2 + 9 * dev.toNatClampNeg) 2 = 0) (h13 : b &&& 255 = 13) (k : E0 dev.toNatClampNeg μ μ') : Ks μ μ' ∧ Vc μ' (oOct dev b v).1 ∧ (oOct dev b v).2 = 0 := by
  have hd := clamp_lt (n := 6) hb.1 hb.2 (by decide)
  have hl := hV.1 _ hd
  unfold Ln at hl
  have n1 : ∀ a, ¬ SEd dev.toNatClampNeg a → μ' a = μ a := k.1.1
  have hz := hl.1.symm.trans hz0
  rw [oOct, if_pos hb, if_pos hz, if_pos h13]
  have Z : ∀ a, ¬ ((57 ≤ a ∧ a ≤ 94) ∨ a = 2 + 9 * dev.toNatClampNeg ∨ (2 + 9 * dev.toNatClampNeg + 2 ≤ a ∧ a ≤ 2 + 9 * dev.toNatClampNeg + 5)) → μ' a = μ a := k.1.1
  refine ⟨fun a ha => Z a (by omega), hV.upd (k.1.2 hV.2.2) (Z 0 (by omega)) rfl (fun e he hne => ⟨Z _ (by omega), Z _ (by omega), Z _ (by omega)⟩) (fun e he => ⟨pk_un he, rfl, rfl⟩) ⟨by rw [k.2.1 2 (by omega)]; exact hl.1, fun _ => by rw [k.2.2]; exact pk_us.symm, by rw [k.2.1 11 (by omega)]; exact hl.2.2.1, by rw [Z (2 + 9 * dev.toNatClampNeg + 7) (by omega), Z (2 + 9 * dev.toNatClampNeg + 8) (by omega)]; exact hl.2.2.2⟩, rfl⟩
theorem rst_ok (hV : Vc μ v) (hb : 0 ≤ dev ∧ dev < 6) (k : Ch (fun a => a = 2 + 9 * dev.toNatClampNeg ∨ a = 2 + 9 * dev.toNatClampNeg + 2 ∨ a = 2 + 9 * dev.toNatClampNeg + 4) μ μ') (e1 : μ' (2 + 9 * dev.toNatClampNeg) 1 = 0) (e2 : μ' (2 + 9 * dev.toNatClampNeg) 2 = 0) (e11 : μ' (2 + 9 * dev.toNatClampNeg) 11 = μ (2 + 9 * dev.toNatClampNeg) 11) : Ks μ μ' ∧ Vc μ' (oReset dev v) := by
  have hd := clamp_lt (n := 6) hb.1 hb.2 (by decide)
  have hl := hV.1 _ hd
  unfold Ln at hl
  rw [oReset, if_pos hb]
  exact ⟨fun a ha => k.1 a (fun z => by rcases z with z | z | z <;> omega), hV.upd (k.2 hV.2.2) (k.1 0 (fun z => by rcases z with z | z | z <;> omega)) rfl (fun e he hne => ⟨k.1 _ (fun z => by rcases z with z | z | z <;> omega), k.1 _ (fun z => by rcases z with z | z | z <;> omega), k.1 _ (fun z => by rcases z with z | z | z <;> omega)⟩) (fun e he => ⟨pk_un he, pk_un he, rfl⟩) ⟨by rw [e2]; exact pk_us.symm, fun _ => by rw [e1]; exact pk_us.symm, by rw [e11]; exact hl.2.2.1, by rw [k.1 (2 + 9 * dev.toNatClampNeg + 7) (fun z => by rcases z with z | z | z <;> omega), k.1 (2 + 9 * dev.toNatClampNeg + 8) (fun z => by rcases z with z | z | z <;> omega)]; exact hl.2.2.2⟩⟩
theorem off_ok {kd it ps : Int32} (hV : Vc μ v) (hD : VD v) (hall : (0 ≤ dev ∧ dev < 6) ∧ (0 ≤ kd ∧ kd < 2) ∧ (0 ≤ it ∧ it < 30) ∧ (0 ≤ ps ∧ ps < 30)) (k : Ch (fun a => a = 2 + 9 * dev.toNatClampNeg ∨ a = 2 + 9 * dev.toNatClampNeg + 6 ∨ a = 2 + 9 * dev.toNatClampNeg + 7 ∨ a = 2 + 9 * dev.toNatClampNeg + 8) μ μ') (e12 : μ' (2 + 9 * dev.toNatClampNeg) 1 = μ (2 + 9 * dev.toNatClampNeg) 1 ∧ μ' (2 + 9 * dev.toNatClampNeg) 2 = μ (2 + 9 * dev.toNatClampNeg) 2) (hr : ∀ j, (μ' (2 + 9 * dev.toNatClampNeg + 7) j = it ∨ μ' (2 + 9 * dev.toNatClampNeg + 7) j = μ (2 + 9 * dev.toNatClampNeg + 7) j) ∧ (μ' (2 + 9 * dev.toNatClampNeg + 8) j = ps ∨ μ' (2 + 9 * dev.toNatClampNeg + 8) j = μ (2 + 9 * dev.toNatClampNeg + 8) j))
    (hc : (¬ (0 ≤ μ (2 + 9 * dev.toNatClampNeg) 11 ∧ μ (2 + 9 * dev.toNatClampNeg) 11 < 20) ∧ μ' (2 + 9 * dev.toNatClampNeg) 11 = μ (2 + 9 * dev.toNatClampNeg) 11 ∧ r = some (.int (-2))) ∨ ((0 ≤ μ (2 + 9 * dev.toNatClampNeg) 11 ∧ μ (2 + 9 * dev.toNatClampNeg) 11 < 20) ∧ μ' (2 + 9 * dev.toNatClampNeg) 11 = μ (2 + 9 * dev.toNatClampNeg) 11 + 1 ∧ r = some (.int (μ (2 + 9 * dev.toNatClampNeg) 11 + 1)))) : Ks μ μ' ∧ Vc μ' (oOff dev kd it ps v).1 ∧ r = some (.int (oOff dev kd it ps v).2) := by
  have hb := hall.1
  have hd := clamp_lt (n := 6) hb.1 hb.2 (by decide)
  have hl := hV.1 _ hd
  have hv := hD.1 _ hd
  unfold Ln at hl
  have hrow : ∀ j, j < 20 → (0 ≤ μ' (2 + 9 * dev.toNatClampNeg + 7) j ∧ μ' (2 + 9 * dev.toNatClampNeg + 7) j < 30) ∧ 0 ≤ μ' (2 + 9 * dev.toNatClampNeg + 8) j ∧ μ' (2 + 9 * dev.toNatClampNeg + 8) j < 30 := fun j hj => by
    have h1 := hl.2.2.2 j hj
    refine ⟨?_, ?_⟩
    · rcases (hr j).1 with q | q <;> rw [q]
      · exact hall.2.2.1
      · exact h1.1
    · rcases (hr j).2 with q | q <;> rw [q]
      · exact hall.2.2.2
      · exact h1.2
  have ho : ∀ e, e < 6 → e ≠ dev.toNatClampNeg → μ' (2 + 9 * e) = μ (2 + 9 * e) ∧ μ' (2 + 9 * e + 7) = μ (2 + 9 * e + 7) ∧ μ' (2 + 9 * e + 8) = μ (2 + 9 * e + 8) := fun e he hne => ⟨k.1 _ (fun z => by rcases z with z | z | z | z <;> omega), k.1 _ (fun z => by rcases z with z | z | z | z <;> omega), k.1 _ (fun z => by rcases z with z | z | z | z <;> omega)⟩
  rw [oOff, if_pos hall]
  rcases hc with ⟨a1, a2, rfl⟩ | ⟨a1, a2, rfl⟩
  · rw [hl.2.2.1] at a1
    rw [if_pos (show v.2.2.1 dev.toNatClampNeg = 20 from eq60 (n := 20) (by decide) hv.2.2.1 hv.2.2.2 a1)]
    exact ⟨fun a ha => k.1 a (fun z => by rcases z with z | z | z | z <;> omega), hV.upd (k.2 hV.2.2) (k.1 0 (fun z => by rcases z with z | z | z | z <;> omega)) rfl ho (fun _ _ => ⟨rfl, rfl, rfl⟩) ⟨by rw [e12.2]; exact hl.1, fun q => by rw [e12.1]; exact hl.2.1 q, by rw [a2]; exact hl.2.2.1, hrow⟩, rfl⟩
  · rw [hl.2.2.1] at a1 a2
    rw [if_neg (fun q => by rw [q] at a1; exact absurd a1.2 (by decide))]
    exact ⟨fun a ha => k.1 a (fun z => by rcases z with z | z | z | z <;> omega), hV.upd (k.2 hV.2.2) (k.1 0 (fun z => by rcases z with z | z | z | z <;> omega)) rfl ho (fun e he => ⟨rfl, rfl, pk_un he⟩) ⟨by rw [e12.2]; exact hl.1, fun q => by rw [e12.1]; exact hl.2.1 q, by rw [a2]; exact pk_us.symm, hrow⟩, by rw [hl.2.2.1]⟩
theorem join_ok (hV : Vc μ v) (hb : 0 ≤ dev ∧ dev < 6) {μ1 : xM} (k : Ch SC μ μ1) (e : μ' = xup μ1 (2 + 9 * dev.toNatClampNeg) 11 0) : Ks μ μ' ∧ Vc μ' (oJoin dev v) := by
  have hd := clamp_lt (n := 6) hb.1 hb.2 (by decide)
  have hl := hV.1 _ hd
  unfold Ln at hl
  have Z : ∀ a, ¬ (57 ≤ a ∧ a ≤ 94) → μ1 a = μ a := k.1
  have ex : ∀ a, a ≠ 2 + 9 * dev.toNatClampNeg → μ' a = μ1 a := fun a ha => by rw [e]; funext b; rw [xup_at, if_neg (fun q => ha q.1)]
  have ey : ∀ j, j ≠ 11 → μ' (2 + 9 * dev.toNatClampNeg) j = μ (2 + 9 * dev.toNatClampNeg) j := fun j hj => by rw [e, xup_at, if_neg (fun q => hj q.2), Z _ (by omega)]
  have ez : μ' (2 + 9 * dev.toNatClampNeg) 11 = 0 := by rw [e, xup_at, if_pos ⟨rfl, rfl⟩]
  rw [oJoin, if_pos hb]
  exact ⟨fun a ha => by rw [ex a (by omega), Z a (by omega)], hV.upd (LB.off e ⟨by omega, fun _ _ => by omega⟩ (k.2 hV.2.2)) (by rw [ex 0 (by omega), Z 0 (by omega)]) rfl (fun e2 he hne => ⟨by rw [ex _ (by omega), Z _ (by omega)], by rw [ex _ (by omega), Z _ (by omega)], by rw [ex _ (by omega), Z _ (by omega)]⟩) (fun e2 he => ⟨rfl, rfl, pk_un he⟩) ⟨by rw [ey 2 (by decide)]; exact hl.1, fun q => by rw [ey 1 (by decide)]; exact hl.2.1 q, by rw [ez]; exact pk_us.symm, by rw [ex (2 + 9 * dev.toNatClampNeg + 7) (by omega), Z (2 + 9 * dev.toNatClampNeg + 7) (by omega), ex (2 + 9 * dev.toNatClampNeg + 8) (by omega), Z (2 + 9 * dev.toNatClampNeg + 8) (by omega)]; exact hl.2.2.2⟩⟩
end OPS
set_option maxHeartbeats 1000000 in
set_option maxRecDepth 20000 in
theorem p_octet (X : xD) (Ex : State → Prop) (hE : xEs X false shA.length Ex) (μ : xM) {sk sv : Nat → Nat} {fm : Nat} (hS : ∀ s, Ex s → ExS X sk sv fm s) (dev b : Int32) {v : VT} (hV : Vc μ v) (hD : VD v) : Ct X Ex false yX5_octet kX5_octet (rmN 7) [.ref (X.2 + 0), .int dev, .int b] shA μ (fun r sh' μ' => shA = sh' ∧ Ks μ μ' ∧ Vc μ' ((oOct dev b v).1) ∧ r = some (.int ((oOct dev b v).2))) := by
  refine Ct.of (L0 := [some (.ref (X.2 + 0)), some (.int dev), some (.int b), none, none]) (by decide) rfl (fun h => by cases h) (by simp [Value.category]) (Nat.le_of_ble_eq_true rfl) rfl (fun l => ?_)
  refine sx_iload_n (pc := 0) dX5_octet_0 rfl rfl ?_
  refine sx_bipush (pc := 1) (v := 6) dX5_octet_1 (by decide) ?_
  refine sx_callS (pc := 3) (As := [.int dev, .int 6]) dX5_octet_3 (c_isBelow X Ex false shA μ _ _) mX5_isBelow lm_X5_41 rfl ⟨Nat.le_of_ble_eq_true rfl, Nat.le_of_ble_eq_true rfl⟩ ⟨Nat.le_of_ble_eq_true rfl, Nat.le_of_ble_eq_true rfl⟩ (Nat.le_of_ble_eq_true rfl) hE (fun r_3 sh1 μ1 h_3 => ?_)
  obtain ⟨rfl, rfl, x_3, rfl, hx_3⟩ := h_3
  refine sx_if_ne (pc := 6) (tgt := 11) dX5_octet_6 (by decide) (fun c_6 => ?_) (fun c_6 => ?_)
  · have h_6t := c_6
    have hb := isB_t hx_3 h_6t
    have hd := clamp_lt (n := 6) hb.1 hb.2 (by decide)
    refine sx_aload_n (pc := 11) dX5_octet_11 rfl rfl ?_
    refine sx_getr (pc := 12) (ci := 5) (j := 0) (r := 1) dX5_octet_12 rfl s_EW rfl (by decide) lf_X5_11 ?_
    refine sx_iload_n (pc := 15) dX5_octet_15 rfl rfl ?_
    refine sx_aald (pc := 16) (r := 2 + 9 * dev.toNatClampNeg) dX5_octet_16 s_lines rfl rfl (vp_in_lt (n := 6) hb.1 hb.2 (by decide)) (el_lines _ hd) ?_
    refine sx_astore_n (pc := 17) (L' := [some (.ref (X.2 + 0)), some (.int dev), some (.int b), some (.ref (X.2 + (2 + 9 * dev.toNatClampNeg))), none]) dX5_octet_17 rfl (by decide) rfl ?_
    refine sx_iload_n (pc := 18) dX5_octet_18 rfl rfl ?_
    refine sx_sipush (pc := 19) (v := 255) dX5_octet_19 (by decide) ?_
    refine sx_iand (pc := 22) dX5_octet_22 ?_
    refine sx_istore (pc := 23) (L' := [some (.ref (X.2 + 0)), some (.int dev), some (.int b), some (.ref (X.2 + (2 + 9 * dev.toNatClampNeg))), some (.int (b &&& 255))]) dX5_octet_23 (by decide) rfl ?_
    refine sx_aload_n (pc := 25) dX5_octet_25 rfl rfl ?_
    refine sx_geti (pc := 26) (ci := 2) (j := 2) dX5_octet_26 rfl (s_Line _ hd) rfl (by decide) lf_X5_45 ?_
    refine sx_if_ne (pc := 29) (tgt := 39) dX5_octet_29 (by decide) (fun c_29 => ?_) (fun c_29 => ?_)
    · have h_29t := c_29
      refine sx_aload_n (pc := 39) dX5_octet_39 rfl rfl ?_
      refine sx_iload (pc := 40) dX5_octet_40 rfl ?_
      refine sx_callV (pc := 42) (As := [.int (b &&& 255)]) dX5_octet_42 (c_take X Ex hE μ _ hd _) mX2_take lm_X5_49 rfl (s_Line _ hd) rfl ⟨Nat.le_of_ble_eq_true rfl, Nat.le_of_ble_eq_true rfl⟩ ⟨Nat.le_of_ble_eq_true rfl, Nat.le_of_ble_eq_true rfl⟩ (Nat.le_of_ble_eq_true rfl) hE (fun r_42 sh1 μ2 h_42 => ?_)
      obtain ⟨rfl, k_42, e_42, c_42⟩ := h_42
      obtain ⟨q1, q2, rfl⟩ := oct_take (b := b) hV hD hb (by first | exact fun w => absurd w h_29t | exact fun _ => h_36f) k_42 e_42 c_42
      exact sx_iret (pc := 45) dX5_octet_45 rfl rfl (Nat.zero_le _) (Nat.zero_le _) (⟨rfl, q1, q2, rfl⟩)
    · have h_29f := c_29
      refine sx_iload (pc := 32) dX5_octet_32 rfl ?_
      refine sx_bipush (pc := 34) (v := 13) dX5_octet_34 (by decide) ?_
      refine sx_icmp_eq (pc := 36) (tgt := 46) dX5_octet_36 (by decide) (fun c_36 => ?_) (fun c_36 => ?_)
      · have h_36t := c_36
        refine sx_aload_n (pc := 46) dX5_octet_46 rfl rfl ?_
        refine sx_iload_n (pc := 47) dX5_octet_47 rfl rfl ?_
        refine sx_aload_n (pc := 48) dX5_octet_48 rfl rfl ?_
        refine sx_callV (pc := 49) (As := [.int dev, .ref (X.2 + (2 + 9 * dev.toNatClampNeg))]) dX5_octet_49 (c_endMessage X Ex hE μ hS _ _ hd hV.2.2) mX5_endMessage lm_X5_53 rfl s_EW rfl ⟨Nat.le_of_ble_eq_true rfl, Nat.le_of_ble_eq_true rfl⟩ ⟨Nat.le_of_ble_eq_true rfl, Nat.le_of_ble_eq_true rfl⟩ (Nat.le_of_ble_eq_true rfl) hE (fun r_49 sh1 μ3 h_49 => ?_)
        obtain ⟨rfl, rfl, k_49⟩ := h_49
        obtain ⟨q1, q2, q3⟩ := oct_end (b := b) hV hb h_29f h_36t k_49
        refine sx_iconst (pc := 52) (v := 0) dX5_octet_52 (by decide) ?_
        exact sx_iret (pc := 53) dX5_octet_53 rfl rfl (Nat.zero_le _) (Nat.zero_le _) (⟨rfl, q1, q2, by rw [q3]⟩)
      · have h_36f := c_36
        refine sx_aload_n (pc := 39) dX5_octet_39 rfl rfl ?_
        refine sx_iload (pc := 40) dX5_octet_40 rfl ?_
        refine sx_callV (pc := 42) (As := [.int (b &&& 255)]) dX5_octet_42 (c_take X Ex hE μ _ hd _) mX2_take lm_X5_49 rfl (s_Line _ hd) rfl ⟨Nat.le_of_ble_eq_true rfl, Nat.le_of_ble_eq_true rfl⟩ ⟨Nat.le_of_ble_eq_true rfl, Nat.le_of_ble_eq_true rfl⟩ (Nat.le_of_ble_eq_true rfl) hE (fun r_42 sh1 μ4 h_42 => ?_)
        obtain ⟨rfl, k_42, e_42, c_42⟩ := h_42
        obtain ⟨q1, q2, rfl⟩ := oct_take (b := b) hV hD hb (by first | exact fun w => absurd w h_29t | exact fun _ => h_36f) k_42 e_42 c_42
        exact sx_iret (pc := 45) dX5_octet_45 rfl rfl (Nat.zero_le _) (Nat.zero_le _) (⟨rfl, q1, q2, rfl⟩)
  · have h_6f := c_6
    refine sx_iconst (pc := 9) (v := (-1)) dX5_octet_9 (by decide) ?_
    exact sx_iret (pc := 10) dX5_octet_10 rfl rfl (Nat.zero_le _) (Nat.zero_le _) (⟨rfl, fun _ _ => rfl, by rw [oOct, if_neg (isB_f hx_3 h_6f)]; exact hV, by rw [oOct, if_neg (isB_f hx_3 h_6f)]⟩)
set_option maxHeartbeats 1000000 in
set_option maxRecDepth 20000 in
theorem p_reset (X : xD) (Ex : State → Prop) (hE : xEs X false shA.length Ex) (μ : xM) (dev : Int32) {v : VT} (hV : Vc μ v) (hD : VD v) : Ct X Ex false yX5_reset kX5_reset (rmN 2) [.ref (X.2 + 0), .int dev] shA μ (fun r sh' μ' => shA = sh' ∧ Ks μ μ' ∧ Vc μ' (oReset dev v) ∧ ∃ x : Int32, r = some (.int x)) := by
  refine Ct.of (L0 := [some (.ref (X.2 + 0)), some (.int dev), none]) (by decide) rfl (fun h => by cases h) (by simp [Value.category]) (Nat.le_of_ble_eq_true rfl) rfl (fun l => ?_)
  refine sx_iload_n (pc := 0) dX5_reset_0 rfl rfl ?_
  refine sx_bipush (pc := 1) (v := 6) dX5_reset_1 (by decide) ?_
  refine sx_callS (pc := 3) (As := [.int dev, .int 6]) dX5_reset_3 (c_isBelow X Ex false shA μ _ _) mX5_isBelow lm_X5_41 rfl ⟨Nat.le_of_ble_eq_true rfl, Nat.le_of_ble_eq_true rfl⟩ ⟨Nat.le_of_ble_eq_true rfl, Nat.le_of_ble_eq_true rfl⟩ (Nat.le_of_ble_eq_true rfl) hE (fun r_3 sh1 μ1 h_3 => ?_)
  obtain ⟨rfl, rfl, x_3, rfl, hx_3⟩ := h_3
  refine sx_if_ne (pc := 6) (tgt := 11) dX5_reset_6 (by decide) (fun c_6 => ?_) (fun c_6 => ?_)
  · have h_6t := c_6
    have hb := isB_t hx_3 h_6t
    have hd := clamp_lt (n := 6) hb.1 hb.2 (by decide)
    refine sx_aload_n (pc := 11) dX5_reset_11 rfl rfl ?_
    refine sx_getr (pc := 12) (ci := 5) (j := 0) (r := 1) dX5_reset_12 rfl s_EW rfl (by decide) lf_X5_11 ?_
    refine sx_iload_n (pc := 15) dX5_reset_15 rfl rfl ?_
    refine sx_aald (pc := 16) (r := 2 + 9 * dev.toNatClampNeg) dX5_reset_16 s_lines rfl rfl (vp_in_lt (n := 6) hb.1 hb.2 (by decide)) (el_lines _ hd) ?_
    refine sx_geti (pc := 17) (ci := 2) (j := 1) dX5_reset_17 rfl (s_Line _ hd) rfl (by decide) lf_X5_77 ?_
    refine sx_istore_n (pc := 20) (L' := [some (.ref (X.2 + 0)), some (.int dev), some (.int (μ (2 + 9 * dev.toNatClampNeg) 1))]) dX5_reset_20 rfl (by decide) rfl ?_
    refine sx_aload_n (pc := 21) dX5_reset_21 rfl rfl ?_
    refine sx_getr (pc := 22) (ci := 5) (j := 0) (r := 1) dX5_reset_22 rfl s_EW rfl (by decide) lf_X5_11 ?_
    refine sx_iload_n (pc := 25) dX5_reset_25 rfl rfl ?_
    refine sx_aald (pc := 26) (r := 2 + 9 * dev.toNatClampNeg) dX5_reset_26 s_lines rfl rfl (vp_in_lt (n := 6) hb.1 hb.2 (by decide)) (el_lines _ hd) ?_
    refine sx_callV (pc := 27) (As := []) dX5_reset_27 (c_clear X Ex hE μ _ hd) mX2_clear lm_X5_80 rfl (s_Line _ hd) rfl ⟨Nat.le_of_ble_eq_true rfl, Nat.le_of_ble_eq_true rfl⟩ ⟨Nat.le_of_ble_eq_true rfl, Nat.le_of_ble_eq_true rfl⟩ (Nat.le_of_ble_eq_true rfl) hE (fun r_27 sh1 μ2 h_27 => ?_)
    obtain ⟨rfl, rfl, k_27, a1, a2, a3⟩ := h_27
    obtain ⟨q1, q2⟩ := rst_ok hV hb k_27 a1 a2 a3
    refine sx_iload_n (pc := 30) dX5_reset_30 rfl rfl ?_
    exact sx_iret (pc := 31) dX5_reset_31 rfl rfl (Nat.zero_le _) (Nat.zero_le _) (⟨rfl, q1, q2, _, rfl⟩)
  · have h_6f := c_6
    refine sx_iconst (pc := 9) (v := (-1)) dX5_reset_9 (by decide) ?_
    exact sx_iret (pc := 10) dX5_reset_10 rfl rfl (Nat.zero_le _) (Nat.zero_le _) (⟨rfl, fun _ _ => rfl, by rw [oReset, if_neg (isB_f hx_3 h_6f)]; exact hV, _, rfl⟩)
set_option maxHeartbeats 1000000 in
set_option maxRecDepth 20000 in
theorem p_offline (X : xD) (Ex : State → Prop) (hE : xEs X false shA.length Ex) (μ : xM) (dev kd it ps : Int32) {v : VT} (hV : Vc μ v) (hD : VD v) : Ct X Ex false yX5_offline kX5_offline (rmN 2) [.ref (X.2 + 0), .int dev, .int kd, .int it, .int ps] shA μ (fun r sh' μ' => shA = sh' ∧ Ks μ μ' ∧ Vc μ' ((oOff dev kd it ps v).1) ∧ r = some (.int ((oOff dev kd it ps v).2))) := by
  refine Ct.of (L0 := [some (.ref (X.2 + 0)), some (.int dev), some (.int kd), some (.int it), some (.int ps), none]) (by decide) rfl (fun h => by cases h) (by simp [Value.category]) (Nat.le_of_ble_eq_true rfl) rfl (fun l => ?_)
  refine sx_iload_n (pc := 0) dX5_offline_0 rfl rfl ?_
  refine sx_bipush (pc := 1) (v := 6) dX5_offline_1 (by decide) ?_
  refine sx_callS (pc := 3) (As := [.int dev, .int 6]) dX5_offline_3 (c_isBelow X Ex false shA μ _ _) mX5_isBelow lm_X5_41 rfl ⟨Nat.le_of_ble_eq_true rfl, Nat.le_of_ble_eq_true rfl⟩ ⟨Nat.le_of_ble_eq_true rfl, Nat.le_of_ble_eq_true rfl⟩ (Nat.le_of_ble_eq_true rfl) hE (fun r_3 sh1 μ1 h_3 => ?_)
  obtain ⟨rfl, rfl, x_3, rfl, hx_3⟩ := h_3
  refine sx_if_eq (pc := 6) (tgt := 40) dX5_offline_6 (by decide) (fun c_6 => ?_) (fun c_6 => ?_)
  · have h_6t := c_6
    refine sx_iconst (pc := 40) (v := 0) dX5_offline_40 (by decide) ?_
    refine sx_istore (pc := 41) (L' := [some (.ref (X.2 + 0)), some (.int dev), some (.int kd), some (.int it), some (.int ps), some (.int 0)]) dX5_offline_41 (by decide) rfl ?_
    refine sx_iload (pc := 43) dX5_offline_43 rfl ?_
    refine sx_if_ne (pc := 45) (tgt := 50) dX5_offline_45 (by decide) (fun c_45 => absurd c_45 (by decide)) (fun c_45 => ?_)
    refine sx_iconst (pc := 48) (v := (-1)) dX5_offline_48 (by decide) ?_
    exact sx_iret (pc := 49) dX5_offline_49 rfl rfl (Nat.zero_le _) (Nat.zero_le _) (⟨rfl, fun _ _ => rfl, by rw [oOff, if_neg (by rintro ⟨z1, z2, z3, z4⟩; first | exact isB_f hx_3 h_6t z1 | exact isB_f hx_11 h_14t z2 | exact isB_f hx_20 h_23t z3 | exact isB_f hx_30 h_33t z4)]; exact hV, by rw [oOff, if_neg (by rintro ⟨z1, z2, z3, z4⟩; first | exact isB_f hx_3 h_6t z1 | exact isB_f hx_11 h_14t z2 | exact isB_f hx_20 h_23t z3 | exact isB_f hx_30 h_33t z4)]⟩)
  · have h_6f := c_6
    refine sx_iload_n (pc := 9) dX5_offline_9 rfl rfl ?_
    refine sx_iconst (pc := 10) (v := 2) dX5_offline_10 (by decide) ?_
    refine sx_callS (pc := 11) (As := [.int kd, .int 2]) dX5_offline_11 (c_isBelow X Ex false shA μ _ _) mX5_isBelow lm_X5_41 rfl ⟨Nat.le_of_ble_eq_true rfl, Nat.le_of_ble_eq_true rfl⟩ ⟨Nat.le_of_ble_eq_true rfl, Nat.le_of_ble_eq_true rfl⟩ (Nat.le_of_ble_eq_true rfl) hE (fun r_11 sh1 μ2 h_11 => ?_)
    obtain ⟨rfl, rfl, x_11, rfl, hx_11⟩ := h_11
    refine sx_if_eq (pc := 14) (tgt := 40) dX5_offline_14 (by decide) (fun c_14 => ?_) (fun c_14 => ?_)
    · have h_14t := c_14
      refine sx_iconst (pc := 40) (v := 0) dX5_offline_40 (by decide) ?_
      refine sx_istore (pc := 41) (L' := [some (.ref (X.2 + 0)), some (.int dev), some (.int kd), some (.int it), some (.int ps), some (.int 0)]) dX5_offline_41 (by decide) rfl ?_
      refine sx_iload (pc := 43) dX5_offline_43 rfl ?_
      refine sx_if_ne (pc := 45) (tgt := 50) dX5_offline_45 (by decide) (fun c_45 => absurd c_45 (by decide)) (fun c_45 => ?_)
      refine sx_iconst (pc := 48) (v := (-1)) dX5_offline_48 (by decide) ?_
      exact sx_iret (pc := 49) dX5_offline_49 rfl rfl (Nat.zero_le _) (Nat.zero_le _) (⟨rfl, fun _ _ => rfl, by rw [oOff, if_neg (by rintro ⟨z1, z2, z3, z4⟩; first | exact isB_f hx_3 h_6t z1 | exact isB_f hx_11 h_14t z2 | exact isB_f hx_20 h_23t z3 | exact isB_f hx_30 h_33t z4)]; exact hV, by rw [oOff, if_neg (by rintro ⟨z1, z2, z3, z4⟩; first | exact isB_f hx_3 h_6t z1 | exact isB_f hx_11 h_14t z2 | exact isB_f hx_20 h_23t z3 | exact isB_f hx_30 h_33t z4)]⟩)
    · have h_14f := c_14
      refine sx_iload_n (pc := 17) dX5_offline_17 rfl rfl ?_
      refine sx_bipush (pc := 18) (v := 30) dX5_offline_18 (by decide) ?_
      refine sx_callS (pc := 20) (As := [.int it, .int 30]) dX5_offline_20 (c_isBelow X Ex false shA μ _ _) mX5_isBelow lm_X5_41 rfl ⟨Nat.le_of_ble_eq_true rfl, Nat.le_of_ble_eq_true rfl⟩ ⟨Nat.le_of_ble_eq_true rfl, Nat.le_of_ble_eq_true rfl⟩ (Nat.le_of_ble_eq_true rfl) hE (fun r_20 sh1 μ3 h_20 => ?_)
      obtain ⟨rfl, rfl, x_20, rfl, hx_20⟩ := h_20
      refine sx_if_eq (pc := 23) (tgt := 40) dX5_offline_23 (by decide) (fun c_23 => ?_) (fun c_23 => ?_)
      · have h_23t := c_23
        refine sx_iconst (pc := 40) (v := 0) dX5_offline_40 (by decide) ?_
        refine sx_istore (pc := 41) (L' := [some (.ref (X.2 + 0)), some (.int dev), some (.int kd), some (.int it), some (.int ps), some (.int 0)]) dX5_offline_41 (by decide) rfl ?_
        refine sx_iload (pc := 43) dX5_offline_43 rfl ?_
        refine sx_if_ne (pc := 45) (tgt := 50) dX5_offline_45 (by decide) (fun c_45 => absurd c_45 (by decide)) (fun c_45 => ?_)
        refine sx_iconst (pc := 48) (v := (-1)) dX5_offline_48 (by decide) ?_
        exact sx_iret (pc := 49) dX5_offline_49 rfl rfl (Nat.zero_le _) (Nat.zero_le _) (⟨rfl, fun _ _ => rfl, by rw [oOff, if_neg (by rintro ⟨z1, z2, z3, z4⟩; first | exact isB_f hx_3 h_6t z1 | exact isB_f hx_11 h_14t z2 | exact isB_f hx_20 h_23t z3 | exact isB_f hx_30 h_33t z4)]; exact hV, by rw [oOff, if_neg (by rintro ⟨z1, z2, z3, z4⟩; first | exact isB_f hx_3 h_6t z1 | exact isB_f hx_11 h_14t z2 | exact isB_f hx_20 h_23t z3 | exact isB_f hx_30 h_33t z4)]⟩)
      · have h_23f := c_23
        refine sx_iload (pc := 26) dX5_offline_26 rfl ?_
        refine sx_bipush (pc := 28) (v := 30) dX5_offline_28 (by decide) ?_
        refine sx_callS (pc := 30) (As := [.int ps, .int 30]) dX5_offline_30 (c_isBelow X Ex false shA μ _ _) mX5_isBelow lm_X5_41 rfl ⟨Nat.le_of_ble_eq_true rfl, Nat.le_of_ble_eq_true rfl⟩ ⟨Nat.le_of_ble_eq_true rfl, Nat.le_of_ble_eq_true rfl⟩ (Nat.le_of_ble_eq_true rfl) hE (fun r_30 sh1 μ4 h_30 => ?_)
        obtain ⟨rfl, rfl, x_30, rfl, hx_30⟩ := h_30
        refine sx_if_eq (pc := 33) (tgt := 40) dX5_offline_33 (by decide) (fun c_33 => ?_) (fun c_33 => ?_)
        · have h_33t := c_33
          refine sx_iconst (pc := 40) (v := 0) dX5_offline_40 (by decide) ?_
          refine sx_istore (pc := 41) (L' := [some (.ref (X.2 + 0)), some (.int dev), some (.int kd), some (.int it), some (.int ps), some (.int 0)]) dX5_offline_41 (by decide) rfl ?_
          refine sx_iload (pc := 43) dX5_offline_43 rfl ?_
          refine sx_if_ne (pc := 45) (tgt := 50) dX5_offline_45 (by decide) (fun c_45 => absurd c_45 (by decide)) (fun c_45 => ?_)
          refine sx_iconst (pc := 48) (v := (-1)) dX5_offline_48 (by decide) ?_
          exact sx_iret (pc := 49) dX5_offline_49 rfl rfl (Nat.zero_le _) (Nat.zero_le _) (⟨rfl, fun _ _ => rfl, by rw [oOff, if_neg (by rintro ⟨z1, z2, z3, z4⟩; first | exact isB_f hx_3 h_6t z1 | exact isB_f hx_11 h_14t z2 | exact isB_f hx_20 h_23t z3 | exact isB_f hx_30 h_33t z4)]; exact hV, by rw [oOff, if_neg (by rintro ⟨z1, z2, z3, z4⟩; first | exact isB_f hx_3 h_6t z1 | exact isB_f hx_11 h_14t z2 | exact isB_f hx_20 h_23t z3 | exact isB_f hx_30 h_33t z4)]⟩)
        · have h_33f := c_33
          have hb := isB_t hx_3 h_6f
          have hd := clamp_lt (n := 6) hb.1 hb.2 (by decide)
          refine sx_iconst (pc := 36) (v := 1) dX5_offline_36 (by decide) ?_
          refine sx_goto (pc := 37) (tgt := 41) dX5_offline_37 (by decide) ?_
          refine sx_istore (pc := 41) (L' := [some (.ref (X.2 + 0)), some (.int dev), some (.int kd), some (.int it), some (.int ps), some (.int 1)]) dX5_offline_41 (by decide) rfl ?_
          refine sx_iload (pc := 43) dX5_offline_43 rfl ?_
          refine sx_if_ne (pc := 45) (tgt := 50) dX5_offline_45 (by decide) (fun c_45 => ?_) (fun c_45 => absurd c_45 (by decide))
          refine sx_aload_n (pc := 50) dX5_offline_50 rfl rfl ?_
          refine sx_getr (pc := 51) (ci := 5) (j := 0) (r := 1) dX5_offline_51 rfl s_EW rfl (by decide) lf_X5_11 ?_
          refine sx_iload_n (pc := 54) dX5_offline_54 rfl rfl ?_
          refine sx_aald (pc := 55) (r := 2 + 9 * dev.toNatClampNeg) dX5_offline_55 s_lines rfl rfl (vp_in_lt (n := 6) hb.1 hb.2 (by decide)) (el_lines _ hd) ?_
          refine sx_iload_n (pc := 56) dX5_offline_56 rfl rfl ?_
          refine sx_if_ne (pc := 57) (tgt := 65) dX5_offline_57 (by decide) (fun c_57 => ?_) (fun c_57 => ?_)
          · have h_57t := c_57
            refine sx_bipush (pc := 65) (v := 66) dX5_offline_65 (by decide) ?_
            refine sx_iload_n (pc := 67) dX5_offline_67 rfl rfl ?_
            refine sx_iload (pc := 68) dX5_offline_68 rfl ?_
            refine sx_callV (pc := 70) (As := [.int 66, .int it, .int ps]) dX5_offline_70 (c_addRow X Ex hE μ _ hd _ _ _ (isB_t hx_20 h_23f) (isB_t hx_30 h_33f)) mX2_addRow lm_X5_83 rfl (s_Line _ hd) rfl ⟨Nat.le_of_ble_eq_true rfl, Nat.le_of_ble_eq_true rfl⟩ ⟨Nat.le_of_ble_eq_true rfl, Nat.le_of_ble_eq_true rfl⟩ (Nat.le_of_ble_eq_true rfl) hE (fun r_70 sh1 μ5 h_70 => ?_)
            obtain ⟨rfl, k_70, e_70, r_70r, c_70⟩ := h_70
            obtain ⟨q1, q2, rfl⟩ := off_ok (kd := kd) hV hD ⟨isB_t hx_3 h_6f, isB_t hx_11 h_14f, isB_t hx_20 h_23f, isB_t hx_30 h_33f⟩ k_70 e_70 r_70r c_70
            exact sx_iret (pc := 73) dX5_offline_73 rfl rfl (Nat.zero_le _) (Nat.zero_le _) (⟨rfl, q1, q2, rfl⟩)
          · have h_57f := c_57
            refine sx_bipush (pc := 60) (v := 67) dX5_offline_60 (by decide) ?_
            refine sx_goto (pc := 62) (tgt := 67) dX5_offline_62 (by decide) ?_
            refine sx_iload_n (pc := 67) dX5_offline_67 rfl rfl ?_
            refine sx_iload (pc := 68) dX5_offline_68 rfl ?_
            refine sx_callV (pc := 70) (As := [.int 67, .int it, .int ps]) dX5_offline_70 (c_addRow X Ex hE μ _ hd _ _ _ (isB_t hx_20 h_23f) (isB_t hx_30 h_33f)) mX2_addRow lm_X5_83 rfl (s_Line _ hd) rfl ⟨Nat.le_of_ble_eq_true rfl, Nat.le_of_ble_eq_true rfl⟩ ⟨Nat.le_of_ble_eq_true rfl, Nat.le_of_ble_eq_true rfl⟩ (Nat.le_of_ble_eq_true rfl) hE (fun r_70 sh1 μ6 h_70 => ?_)
            obtain ⟨rfl, k_70, e_70, r_70r, c_70⟩ := h_70
            obtain ⟨q1, q2, rfl⟩ := off_ok (kd := kd) hV hD ⟨isB_t hx_3 h_6f, isB_t hx_11 h_14f, isB_t hx_20 h_23f, isB_t hx_30 h_33f⟩ k_70 e_70 r_70r c_70
            exact sx_iret (pc := 73) dX5_offline_73 rfl rfl (Nat.zero_le _) (Nat.zero_le _) (⟨rfl, q1, q2, rfl⟩)
set_option maxHeartbeats 1000000 in
set_option maxRecDepth 20000 in
theorem p_owes (X : xD) (Ex : State → Prop) (hE : xEs X false shA.length Ex) (μ : xM) (pr c : Int32) {v : VT} (hV : Vc μ v) (hD : VD v) : Ct X Ex false yX5_owes kX5_owes (rmN 1) [.ref (X.2 + 0), .int pr, .int c] shA μ (fun r sh' μ' => shA = sh' ∧ Ks μ μ' ∧ Vc μ' (v) ∧ ∃ x : Int32, r = some (.int x)) := by
  refine Ct.of (L0 := [some (.ref (X.2 + 0)), some (.int pr), some (.int c), none]) (by decide) rfl (fun h => by cases h) (by simp [Value.category]) (Nat.le_of_ble_eq_true rfl) rfl (fun l => ?_)
  refine sx_iload_n (pc := 0) dX5_owes_0 rfl rfl ?_
  refine sx_bipush (pc := 1) (v := 30) dX5_owes_1 (by decide) ?_
  refine sx_callS (pc := 3) (As := [.int pr, .int 30]) dX5_owes_3 (c_isBelow X Ex false shA μ _ _) mX5_isBelow lm_X5_41 rfl ⟨Nat.le_of_ble_eq_true rfl, Nat.le_of_ble_eq_true rfl⟩ ⟨Nat.le_of_ble_eq_true rfl, Nat.le_of_ble_eq_true rfl⟩ (Nat.le_of_ble_eq_true rfl) hE (fun r_3 sh1 μ1 h_3 => ?_)
  obtain ⟨rfl, rfl, x_3, rfl, hx_3⟩ := h_3
  refine sx_if_eq (pc := 6) (tgt := 19) dX5_owes_6 (by decide) (fun c_6 => ?_) (fun c_6 => ?_)
  · have h_6t := c_6
    refine sx_iconst (pc := 19) (v := (-1)) dX5_owes_19 (by decide) ?_
    exact sx_iret (pc := 20) dX5_owes_20 rfl rfl (Nat.zero_le _) (Nat.zero_le _) (⟨rfl, fun _ _ => rfl, hV, _, rfl⟩)
  · have h_6f := c_6
    refine sx_iload_n (pc := 9) dX5_owes_9 rfl rfl ?_
    refine sx_if_lt (pc := 10) (tgt := 19) dX5_owes_10 (by decide) (fun c_10 => ?_) (fun c_10 => ?_)
    · have h_10t := c_10
      refine sx_iconst (pc := 19) (v := (-1)) dX5_owes_19 (by decide) ?_
      exact sx_iret (pc := 20) dX5_owes_20 rfl rfl (Nat.zero_le _) (Nat.zero_le _) (⟨rfl, fun _ _ => rfl, hV, _, rfl⟩)
    · have h_10f := c_10
      refine sx_iload_n (pc := 13) dX5_owes_13 rfl rfl ?_
      refine sx_ldc (pc := 14) dX5_owes_14 ld_X5_107 ?_
      refine sx_icmp_le (pc := 16) (tgt := 21) dX5_owes_16 (by decide) (fun c_16 => ?_) (fun c_16 => ?_)
      · have h_16t := c_16
        refine sx_aload_n (pc := 21) dX5_owes_21 rfl rfl ?_
        refine sx_getr (pc := 22) (ci := 5) (j := 1) (r := 56) dX5_owes_22 rfl s_EW rfl (by decide) lf_X5_19 ?_
        refine sx_getr (pc := 25) (ci := 0) (j := 0) (r := 57) dX5_owes_25 rfl s_Ho rfl (by decide) lf_X5_108 ?_
        refine sx_iload_n (pc := 28) dX5_owes_28 rfl rfl ?_
        refine sx_iald (pc := 29) dX5_owes_29 s_debts (by decide) rfl (vp_in_lt (n := 30) (isB_t hx_3 h_6f).1 (isB_t hx_3 h_6f).2 (by decide)) ?_
        refine sx_istore_n (pc := 30) (L' := [some (.ref (X.2 + 0)), some (.int pr), some (.int c), some (.int (μ 57 pr.toNatClampNeg))]) dX5_owes_30 rfl (by decide) rfl ?_
        refine sx_aload_n (pc := 31) dX5_owes_31 rfl rfl ?_
        refine sx_getr (pc := 32) (ci := 5) (j := 1) (r := 56) dX5_owes_32 rfl s_EW rfl (by decide) lf_X5_19 ?_
        refine sx_getr (pc := 35) (ci := 0) (j := 0) (r := 57) dX5_owes_35 rfl s_Ho rfl (by decide) lf_X5_108 ?_
        refine sx_iload_n (pc := 38) dX5_owes_38 rfl rfl ?_
        refine sx_iload_n (pc := 39) dX5_owes_39 rfl rfl ?_
        refine sx_iast (pc := 40) dX5_owes_40 s_debts (by decide) rfl (vp_in_lt (n := 30) (isB_t hx_3 h_6f).1 (isB_t hx_3 h_6f).2 (by decide)) (fun μ2 hμ2 => ?_)
        refine sx_iload_n (pc := 41) dX5_owes_41 rfl rfl ?_
        exact sx_iret (pc := 42) dX5_owes_42 rfl rfl (Nat.zero_le _) (Nat.zero_le _) (by have k : Ch SC μ _ := (Ch.put (Ch.rf) hμ2 (show SC 57 by show 57 ≤ 57 ∧ 57 ≤ 94; omega) (LB.off hμ2 ⟨by omega, fun _ _ => by omega⟩)); exact ⟨rfl, fun a ha => k.1 a (by show ¬ (57 ≤ a ∧ a ≤ 94); omega), hV.same (k.2 hV.2.2) (fun a ha _ => k.1 a (by show ¬ (57 ≤ a ∧ a ≤ 94); omega)), _, rfl⟩)
      · have h_16f := c_16
        refine sx_iconst (pc := 19) (v := (-1)) dX5_owes_19 (by decide) ?_
        exact sx_iret (pc := 20) dX5_owes_20 rfl rfl (Nat.zero_le _) (Nat.zero_le _) (⟨rfl, fun _ _ => rfl, hV, _, rfl⟩)
set_option maxHeartbeats 1000000 in
set_option maxRecDepth 20000 in
theorem p_acts (X : xD) (Ex : State → Prop) (hE : xEs X false shA.length Ex) (μ : xM) {v : VT} (hV : Vc μ v) (hD : VD v) : Ct X Ex false yX5_acts kX5_acts (rmN 0) [.ref (X.2 + 0)] shA μ (fun r sh' μ' => shA = sh' ∧ Ks μ μ' ∧ Vc μ' (v) ∧ ∃ x : Int32, r = some (.int x)) := by
  refine Ct.of (L0 := [some (.ref (X.2 + 0))]) (by decide) rfl (fun h => by cases h) (by simp [Value.category]) (Nat.le_of_ble_eq_true rfl) rfl (fun l => ?_)
  refine sx_aload_n (pc := 0) dX5_acts_0 rfl rfl ?_
  refine sx_getr (pc := 1) (ci := 5) (j := 2) (r := 92) dX5_acts_1 rfl s_EW rfl (by decide) lf_X5_26 ?_
  refine sx_geti (pc := 4) (ci := 1) (j := 1) dX5_acts_4 rfl s_Jo rfl (by decide) lf_X5_111 ?_
  exact sx_iret (pc := 7) dX5_acts_7 rfl rfl (Nat.zero_le _) (Nat.zero_le _) (⟨rfl, fun _ _ => rfl, hV, _, rfl⟩)
theorem tix {i w c : Int32} (h : 0 ≤ i ∧ i < (if 1000 < c then 1000 else c)) (hw : 0 ≤ w ∧ w < 5) : vp_in (i * 5 + w) 5000 := by
  obtain ⟨a, ha, rfl⟩ := nI_of (Int32.not_lt.mpr h.1)
  obtain ⟨b, hb, rfl⟩ := nI_of (Int32.not_lt.mpr hw.1)
  have h1 : nI a < nI 1000 := by
    have h2 := h.2
    split at h2
    · exact h2
    · exact Int32.lt_of_lt_of_le h2 (Int32.not_lt.mp (by assumption))
  have h2 : nI b < nI 5 := hw.2
  rw [nI_ltI (by omega) (by omega)] at h1 h2
  rw [show (5 : Int32) = nI 5 from rfl, pk_mul, nI_add]
  exact vp_in_nI (by omega) (by decide)
set_option maxHeartbeats 1000000 in
set_option maxRecDepth 20000 in
theorem c_tell (X : xD) (Ex : State → Prop) (hE : xEs X false shA.length Ex) (μ : xM) (i w : Int32) : Ct X Ex false yX1_tell kX1_tell (rmN 1) [.ref (X.2 + 92), .int i, .int w] shA μ (fun r sh' μ' => shA = sh' ∧ μ = μ' ∧ ∃ x : Int32, r = some (.int x)) := by
  refine Ct.of (L0 := [some (.ref (X.2 + 92)), some (.int i), some (.int w)]) (by decide) rfl (fun h => by cases h) (by simp [Value.category]) (Nat.le_of_ble_eq_true rfl) rfl (fun l => ?_)
  refine sx_iload_n (pc := 0) dX1_tell_0 rfl rfl ?_
  refine sx_aload_n (pc := 1) dX1_tell_1 rfl rfl ?_
  refine sx_geti (pc := 2) (ci := 1) (j := 1) dX1_tell_2 rfl s_Jo rfl (by decide) lf_X1_15 ?_
  refine sx_sipush (pc := 5) (v := 1000) dX1_tell_5 (by decide) ?_
  refine sx_mmin (pc := 8) dX1_tell_8 lm_X1_37 (Nat.le_of_ble_eq_true rfl) (Nat.le_of_ble_eq_true rfl) ?_
  refine sx_callSN (host := "ExchangeWire") (pc := 11) (As := [.int i, .int (if 1000 < μ 92 1 then 1000 else μ 92 1)]) dX1_tell_11 (c_isBelow X Ex false shA μ _ _) mX5_isBelow (by decide +kernel) rfl ⟨Nat.le_of_ble_eq_true rfl, Nat.le_of_ble_eq_true rfl⟩ ⟨Nat.le_of_ble_eq_true rfl, Nat.le_of_ble_eq_true rfl⟩ (Nat.le_of_ble_eq_true rfl) hE (fun r_11 sh1 μ1 h_11 => ?_)
  obtain ⟨rfl, rfl, x_11, rfl, hx_11⟩ := h_11
  refine sx_if_eq (pc := 14) (tgt := 25) dX1_tell_14 (by decide) (fun c_14 => ?_) (fun c_14 => ?_)
  · have h_14t := c_14
    refine sx_iconst (pc := 25) (v := (-1)) dX1_tell_25 (by decide) ?_
    exact sx_iret (pc := 26) dX1_tell_26 rfl rfl (Nat.zero_le _) (Nat.zero_le _) (⟨rfl, rfl, _, rfl⟩)
  · have h_14f := c_14
    refine sx_iload_n (pc := 17) dX1_tell_17 rfl rfl ?_
    refine sx_iconst (pc := 18) (v := 5) dX1_tell_18 (by decide) ?_
    refine sx_callSN (host := "ExchangeWire") (pc := 19) (As := [.int w, .int 5]) dX1_tell_19 (c_isBelow X Ex false shA μ _ _) mX5_isBelow (by decide +kernel) rfl ⟨Nat.le_of_ble_eq_true rfl, Nat.le_of_ble_eq_true rfl⟩ ⟨Nat.le_of_ble_eq_true rfl, Nat.le_of_ble_eq_true rfl⟩ (Nat.le_of_ble_eq_true rfl) hE (fun r_19 sh1 μ2 h_19 => ?_)
    obtain ⟨rfl, rfl, x_19, rfl, hx_19⟩ := h_19
    refine sx_if_ne (pc := 22) (tgt := 27) dX1_tell_22 (by decide) (fun c_22 => ?_) (fun c_22 => ?_)
    · have h_22t := c_22
      refine sx_aload_n (pc := 27) dX1_tell_27 rfl rfl ?_
      refine sx_getr (pc := 28) (ci := 1) (j := 0) (r := 93) dX1_tell_28 rfl s_Jo rfl (by decide) lf_X1_11 ?_
      refine sx_iload_n (pc := 31) dX1_tell_31 rfl rfl ?_
      refine sx_iconst (pc := 32) (v := 5) dX1_tell_32 (by decide) ?_
      refine sx_imul (pc := 33) dX1_tell_33 ?_
      refine sx_iload_n (pc := 34) dX1_tell_34 rfl rfl ?_
      refine sx_iadd (pc := 35) dX1_tell_35 ?_
      refine sx_iald (pc := 36) dX1_tell_36 s_parts (by decide) rfl (tix (isB_t hx_11 h_14f) (isB_t hx_19 h_22t)) ?_
      exact sx_iret (pc := 37) dX1_tell_37 rfl rfl (Nat.zero_le _) (Nat.zero_le _) (⟨rfl, rfl, _, rfl⟩)
    · have h_22f := c_22
      refine sx_iconst (pc := 25) (v := (-1)) dX1_tell_25 (by decide) ?_
      exact sx_iret (pc := 26) dX1_tell_26 rfl rfl (Nat.zero_le _) (Nat.zero_le _) (⟨rfl, rfl, _, rfl⟩)
set_option maxHeartbeats 1000000 in
set_option maxRecDepth 20000 in
theorem p_act (X : xD) (Ex : State → Prop) (hE : xEs X false shA.length Ex) (μ : xM) (i w : Int32) {v : VT} (hV : Vc μ v) (hD : VD v) : Ct X Ex false yX5_act kX5_act (rmN 2) [.ref (X.2 + 0), .int i, .int w] shA μ (fun r sh' μ' => shA = sh' ∧ Ks μ μ' ∧ Vc μ' (v) ∧ ∃ x : Int32, r = some (.int x)) := by
  refine Ct.of (L0 := [some (.ref (X.2 + 0)), some (.int i), some (.int w)]) (by decide) rfl (fun h => by cases h) (by simp [Value.category]) (Nat.le_of_ble_eq_true rfl) rfl (fun l => ?_)
  refine sx_aload_n (pc := 0) dX5_act_0 rfl rfl ?_
  refine sx_getr (pc := 1) (ci := 5) (j := 2) (r := 92) dX5_act_1 rfl s_EW rfl (by decide) lf_X5_26 ?_
  refine sx_iload_n (pc := 4) dX5_act_4 rfl rfl ?_
  refine sx_iload_n (pc := 5) dX5_act_5 rfl rfl ?_
  refine sx_callV (pc := 6) (As := [.int i, .int w]) dX5_act_6 (c_tell X Ex hE μ _ _) mX1_tell lm_X5_112 rfl s_Jo rfl ⟨Nat.le_of_ble_eq_true rfl, Nat.le_of_ble_eq_true rfl⟩ ⟨Nat.le_of_ble_eq_true rfl, Nat.le_of_ble_eq_true rfl⟩ (Nat.le_of_ble_eq_true rfl) hE (fun r_6 sh1 μ1 h_6 => ?_)
  obtain ⟨rfl, rfl, x_6, rfl⟩ := h_6
  exact sx_iret (pc := 9) dX5_act_9 rfl rfl (Nat.zero_le _) (Nat.zero_le _) (⟨rfl, fun _ _ => rfl, hV, _, rfl⟩)
set_option maxHeartbeats 1000000 in
set_option maxRecDepth 20000 in
theorem p_sum (X : xD) (Ex : State → Prop) (hE : xEs X false shA.length Ex) (μ : xM) (c : Int32) {v : VT} (hV : Vc μ v) (hD : VD v) : Ct X Ex false yX5_sum kX5_sum (rmN 0) [.ref (X.2 + 0), .int c] shA μ (fun r sh' μ' => shA = sh' ∧ Ks μ μ' ∧ Vc μ' ((oSum c v).1) ∧ r = some (.int ((oSum c v).2))) := by
  refine Ct.of (L0 := [some (.ref (X.2 + 0)), some (.int c), none]) (by decide) rfl (fun h => by cases h) (by simp [Value.category]) (Nat.le_of_ble_eq_true rfl) rfl (fun l => ?_)
  refine sx_iload_n (pc := 0) dX5_sum_0 rfl rfl ?_
  refine sx_if_ge (pc := 1) (tgt := 16) dX5_sum_1 (by decide) (fun c_1 => ?_) (fun c_1 => ?_)
  · have h_1t := c_1
    refine sx_aload_n (pc := 16) dX5_sum_16 rfl rfl ?_
    refine sx_aload_n (pc := 17) dX5_sum_17 rfl rfl ?_
    refine sx_geti (pc := 18) (ci := 5) (j := 4) dX5_sum_18 rfl s_EW rfl (by decide) lf_X5_37 ?_
    refine sx_iload_n (pc := 21) dX5_sum_21 rfl rfl ?_
    refine sx_iadd (pc := 22) dX5_sum_22 ?_
    refine sx_sipush (pc := 23) (v := 255) dX5_sum_23 (by decide) ?_
    refine sx_iand (pc := 26) dX5_sum_26 ?_
    refine sx_puti (pc := 27) (ci := 5) (j := 4) (ty := .int) dX5_sum_27 rfl s_EW rfl (by decide) lf_X5_37 rfl (by decide +kernel) rfl rfl (fun μ1 hμ1 => ?_)
    refine sx_aload_n (pc := 30) dX5_sum_30 rfl rfl ?_
    refine sx_geti (pc := 31) (ci := 5) (j := 4) dX5_sum_31 rfl s_EW rfl (by decide) lf_X5_37 ?_
    exact sx_iret (pc := 34) dX5_sum_34 rfl rfl (Nat.zero_le _) (Nat.zero_le _) (⟨rfl, fun a ha => by subst hμ1; funext b; rw [xup_at, if_neg (fun z => by omega)], by rw [oSum, if_neg (Int32.not_lt.mpr h_1t)]; exact ⟨fun e he => by have hh := hV.1 e he; unfold Ln at hh ⊢; have q : ∀ a, a ≠ 0 → μ1 a = μ a := (fun a ha => by subst hμ1; funext b; rw [xup_at, if_neg (fun z => ha z.1)]); rw [q _ (by omega), q _ (by omega), q _ (by omega)]; exact hh, by subst hμ1; simp [xup_at, hV.2.1], by subst hμ1; exact LB.off rfl ⟨by omega, fun _ _ => by omega⟩ hV.2.2⟩, by rw [oSum, if_neg (Int32.not_lt.mpr h_1t)]; subst hμ1; simp [xup_at, hV.2.1]⟩)
  · have h_1f := c_1
    refine sx_aload_n (pc := 4) dX5_sum_4 rfl rfl ?_
    refine sx_geti (pc := 5) (ci := 5) (j := 4) dX5_sum_5 rfl s_EW rfl (by decide) lf_X5_37 ?_
    refine sx_istore_n (pc := 8) (L' := [some (.ref (X.2 + 0)), some (.int c), some (.int (μ 0 4))]) dX5_sum_8 rfl (by decide) rfl ?_
    refine sx_aload_n (pc := 9) dX5_sum_9 rfl rfl ?_
    refine sx_iconst (pc := 10) (v := 0) dX5_sum_10 (by decide) ?_
    refine sx_puti (pc := 11) (ci := 5) (j := 4) (ty := .int) dX5_sum_11 rfl s_EW rfl (by decide) lf_X5_37 rfl (by decide +kernel) rfl rfl (fun μ2 hμ2 => ?_)
    refine sx_iload_n (pc := 14) dX5_sum_14 rfl rfl ?_
    exact sx_iret (pc := 15) dX5_sum_15 rfl rfl (Nat.zero_le _) (Nat.zero_le _) (⟨rfl, fun a ha => by subst hμ2; funext b; rw [xup_at, if_neg (fun z => by omega)], by rw [oSum, if_pos (Int32.not_le.mp h_1f)]; exact ⟨fun e he => by have hh := hV.1 e he; unfold Ln at hh ⊢; have q : ∀ a, a ≠ 0 → μ2 a = μ a := (fun a ha => by subst hμ2; funext b; rw [xup_at, if_neg (fun z => ha z.1)]); rw [q _ (by omega), q _ (by omega), q _ (by omega)]; exact hh, by subst hμ2; simp [xup_at, hV.2.1], by subst hμ2; exact LB.off rfl ⟨by omega, fun _ _ => by omega⟩ hV.2.2⟩, by rw [oSum, if_pos (Int32.not_le.mp h_1f), hV.2.1]⟩)
theorem sw5 (w : Int32) : w = 0 ∨ w = 1 ∨ w = 2 ∨ w = 3 ∨ w = 4 ∨ (w.toInt < 0 ∨ 4 < w.toInt) := by
  by_cases h : w.toInt < 0 ∨ 4 < w.toInt
  · exact Or.inr (Or.inr (Or.inr (Or.inr (Or.inr h))))
  · have h0 : w.toInt = 0 ∨ w.toInt = 1 ∨ w.toInt = 2 ∨ w.toInt = 3 ∨ w.toInt = 4 := by omega
    rcases h0 with h0 | h0 | h0 | h0 | h0
    · exact Or.inl (Int32.toInt_inj.mp h0)
    · exact Or.inr (Or.inl (Int32.toInt_inj.mp h0))
    · exact Or.inr (Or.inr (Or.inl (Int32.toInt_inj.mp h0)))
    · exact Or.inr (Or.inr (Or.inr (Or.inl (Int32.toInt_inj.mp h0))))
    · exact Or.inr (Or.inr (Or.inr (Or.inr (Or.inl (Int32.toInt_inj.mp h0)))))
set_option maxHeartbeats 1000000 in
set_option maxRecDepth 20000 in
theorem p_state (X : xD) (Ex : State → Prop) (hE : xEs X false shA.length Ex) (μ : xM) (dev w : Int32) {v : VT} (hV : Vc μ v) (hD : VD v) : Ct X Ex false yX5_state kX5_state (rmN 1) [.ref (X.2 + 0), .int dev, .int w] shA μ (fun r sh' μ' => shA = sh' ∧ Ks μ μ' ∧ Vc μ' (v) ∧ ∃ x : Int32, r = some (.int x)) := by
  refine Ct.of (L0 := [some (.ref (X.2 + 0)), some (.int dev), some (.int w), none]) (by decide) rfl (fun h => by cases h) (by simp [Value.category]) (Nat.le_of_ble_eq_true rfl) rfl (fun l => ?_)
  refine sx_iload_n (pc := 0) dX5_state_0 rfl rfl ?_
  refine sx_bipush (pc := 1) (v := 6) dX5_state_1 (by decide) ?_
  refine sx_callS (pc := 3) (As := [.int dev, .int 6]) dX5_state_3 (c_isBelow X Ex false shA μ _ _) mX5_isBelow lm_X5_41 rfl ⟨Nat.le_of_ble_eq_true rfl, Nat.le_of_ble_eq_true rfl⟩ ⟨Nat.le_of_ble_eq_true rfl, Nat.le_of_ble_eq_true rfl⟩ (Nat.le_of_ble_eq_true rfl) hE (fun r_3 sh1 μ1 h_3 => ?_)
  obtain ⟨rfl, rfl, x_3, rfl, hx_3⟩ := h_3
  refine sx_if_ne (pc := 6) (tgt := 11) dX5_state_6 (by decide) (fun c_6 => ?_) (fun c_6 => ?_)
  · have h_6t := c_6
    have hb := isB_t hx_3 h_6t
    have hd := clamp_lt (n := 6) hb.1 hb.2 (by decide)
    refine sx_aload_n (pc := 11) dX5_state_11 rfl rfl ?_
    refine sx_getr (pc := 12) (ci := 5) (j := 0) (r := 1) dX5_state_12 rfl s_EW rfl (by decide) lf_X5_11 ?_
    refine sx_iload_n (pc := 15) dX5_state_15 rfl rfl ?_
    refine sx_aald (pc := 16) (r := 2 + 9 * dev.toNatClampNeg) dX5_state_16 s_lines rfl rfl (vp_in_lt (n := 6) hb.1 hb.2 (by decide)) (el_lines _ hd) ?_
    refine sx_astore_n (pc := 17) (L' := [some (.ref (X.2 + 0)), some (.int dev), some (.int w), some (.ref (X.2 + (2 + 9 * dev.toNatClampNeg)))]) dX5_state_17 rfl (by decide) rfl ?_
    refine sx_iload_n (pc := 18) dX5_state_18 rfl rfl ?_
    rcases sw5 w with rfl | rfl | rfl | rfl | rfl | w_19
    · refine sx_tableIn (pc := 19) (off := 33) (tgt := 52) dX5_state_19 (by decide) (by decide) (by decide) (by decide) ?_
      refine sx_aload_n (pc := 52) dX5_state_52 rfl rfl ?_
      refine sx_geti (pc := 53) (ci := 2) (j := 4) dX5_state_53 rfl (s_Line _ hd) rfl (by decide) lf_X5_116 ?_
      exact sx_iret (pc := 56) dX5_state_56 rfl rfl (Nat.zero_le _) (Nat.zero_le _) (⟨rfl, fun _ _ => rfl, hV, _, rfl⟩)
    · refine sx_tableIn (pc := 19) (off := 38) (tgt := 57) dX5_state_19 (by decide) (by decide) (by decide) (by decide) ?_
      refine sx_aload_n (pc := 57) dX5_state_57 rfl rfl ?_
      refine sx_geti (pc := 58) (ci := 2) (j := 3) dX5_state_58 rfl (s_Line _ hd) rfl (by decide) lf_X5_119 ?_
      refine sx_if_eq (pc := 61) (tgt := 68) dX5_state_61 (by decide) (fun c_61 => ?_) (fun c_61 => ?_)
      · have h_61t := c_61
        refine sx_iconst (pc := 68) (v := 0) dX5_state_68 (by decide) ?_
        exact sx_iret (pc := 69) dX5_state_69 rfl rfl (Nat.zero_le _) (Nat.zero_le _) (⟨rfl, fun _ _ => rfl, hV, _, rfl⟩)
      · have h_61f := c_61
        refine sx_iconst (pc := 64) (v := 1) dX5_state_64 (by decide) ?_
        refine sx_goto (pc := 65) (tgt := 69) dX5_state_65 (by decide) ?_
        exact sx_iret (pc := 69) dX5_state_69 rfl rfl (Nat.zero_le _) (Nat.zero_le _) (⟨rfl, fun _ _ => rfl, hV, _, rfl⟩)
    · refine sx_tableIn (pc := 19) (off := 51) (tgt := 70) dX5_state_19 (by decide) (by decide) (by decide) (by decide) ?_
      refine sx_aload_n (pc := 70) dX5_state_70 rfl rfl ?_
      refine sx_geti (pc := 71) (ci := 2) (j := 2) dX5_state_71 rfl (s_Line _ hd) rfl (by decide) lf_X5_45 ?_
      refine sx_if_eq (pc := 74) (tgt := 81) dX5_state_74 (by decide) (fun c_74 => ?_) (fun c_74 => ?_)
      · have h_74t := c_74
        refine sx_iconst (pc := 81) (v := 0) dX5_state_81 (by decide) ?_
        exact sx_iret (pc := 82) dX5_state_82 rfl rfl (Nat.zero_le _) (Nat.zero_le _) (⟨rfl, fun _ _ => rfl, hV, _, rfl⟩)
      · have h_74f := c_74
        refine sx_iconst (pc := 77) (v := 1) dX5_state_77 (by decide) ?_
        refine sx_goto (pc := 78) (tgt := 82) dX5_state_78 (by decide) ?_
        exact sx_iret (pc := 82) dX5_state_82 rfl rfl (Nat.zero_le _) (Nat.zero_le _) (⟨rfl, fun _ _ => rfl, hV, _, rfl⟩)
    · refine sx_tableIn (pc := 19) (off := 64) (tgt := 83) dX5_state_19 (by decide) (by decide) (by decide) (by decide) ?_
      refine sx_aload_n (pc := 83) dX5_state_83 rfl rfl ?_
      refine sx_geti (pc := 84) (ci := 2) (j := 11) dX5_state_84 rfl (s_Line _ hd) rfl (by decide) lf_X5_87 ?_
      exact sx_iret (pc := 87) dX5_state_87 rfl rfl (Nat.zero_le _) (Nat.zero_le _) (⟨rfl, fun _ _ => rfl, hV, _, rfl⟩)
    · refine sx_tableIn (pc := 19) (off := 69) (tgt := 88) dX5_state_19 (by decide) (by decide) (by decide) (by decide) ?_
      refine sx_aload_n (pc := 88) dX5_state_88 rfl rfl ?_
      refine sx_geti (pc := 89) (ci := 2) (j := 5) dX5_state_89 rfl (s_Line _ hd) rfl (by decide) lf_X5_122 ?_
      exact sx_iret (pc := 92) dX5_state_92 rfl rfl (Nat.zero_le _) (Nat.zero_le _) (⟨rfl, fun _ _ => rfl, hV, _, rfl⟩)
    · refine sx_tableOut (pc := 19) (tgt := 93) dX5_state_19 w_19 (by decide) ?_
      refine sx_iconst (pc := 93) (v := (-1)) dX5_state_93 (by decide) ?_
      exact sx_iret (pc := 94) dX5_state_94 rfl rfl (Nat.zero_le _) (Nat.zero_le _) (⟨rfl, fun _ _ => rfl, hV, _, rfl⟩)
  · have h_6f := c_6
    refine sx_iconst (pc := 9) (v := (-1)) dX5_state_9 (by decide) ?_
    exact sx_iret (pc := 10) dX5_state_10 rfl rfl (Nat.zero_le _) (Nat.zero_le _) (⟨rfl, fun _ _ => rfl, hV, _, rfl⟩)
set_option maxHeartbeats 1000000 in
set_option maxRecDepth 20000 in
theorem p_waits (X : xD) (Ex : State → Prop) (hE : xEs X false shA.length Ex) (μ : xM) (it i : Int32) {v : VT} (hV : Vc μ v) (hD : VD v) : Ct X Ex false yX5_waits kX5_waits (rmN 1) [.ref (X.2 + 0), .int it, .int i] shA μ (fun r sh' μ' => shA = sh' ∧ Ks μ μ' ∧ Vc μ' (v) ∧ ∃ x : Int32, r = some (.int x)) := by
  refine Ct.of (L0 := [some (.ref (X.2 + 0)), some (.int it), some (.int i)]) (by decide) rfl (fun h => by cases h) (by simp [Value.category]) (Nat.le_of_ble_eq_true rfl) rfl (fun l => ?_)
  refine sx_iload_n (pc := 0) dX5_waits_0 rfl rfl ?_
  refine sx_bipush (pc := 1) (v := 30) dX5_waits_1 (by decide) ?_
  refine sx_callS (pc := 3) (As := [.int it, .int 30]) dX5_waits_3 (c_isBelow X Ex false shA μ _ _) mX5_isBelow lm_X5_41 rfl ⟨Nat.le_of_ble_eq_true rfl, Nat.le_of_ble_eq_true rfl⟩ ⟨Nat.le_of_ble_eq_true rfl, Nat.le_of_ble_eq_true rfl⟩ (Nat.le_of_ble_eq_true rfl) hE (fun r_3 sh1 μ1 h_3 => ?_)
  obtain ⟨rfl, rfl, x_3, rfl, hx_3⟩ := h_3
  refine sx_if_eq (pc := 6) (tgt := 25) dX5_waits_6 (by decide) (fun c_6 => ?_) (fun c_6 => ?_)
  · have h_6t := c_6
    refine sx_iconst (pc := 25) (v := (-1)) dX5_waits_25 (by decide) ?_
    exact sx_iret (pc := 26) dX5_waits_26 rfl rfl (Nat.zero_le _) (Nat.zero_le _) (⟨rfl, fun _ _ => rfl, hV, _, rfl⟩)
  · have h_6f := c_6
    have ht := isB_t hx_3 h_6f
    have hi := clamp_lt (n := 30) ht.1 ht.2 (by decide)
    have hq := hV.2.2.2 _ hi
    refine sx_iload_n (pc := 9) dX5_waits_9 rfl rfl ?_
    refine sx_aload_n (pc := 10) dX5_waits_10 rfl rfl ?_
    refine sx_getr (pc := 11) (ci := 5) (j := 1) (r := 56) dX5_waits_11 rfl s_EW rfl (by decide) lf_X5_19 ?_
    refine sx_getr (pc := 14) (ci := 0) (j := 4) (r := 91) dX5_waits_14 rfl s_Ho rfl (by decide) lf_X5_125 ?_
    refine sx_iload_n (pc := 17) dX5_waits_17 rfl rfl ?_
    refine sx_iald (pc := 18) dX5_waits_18 s_qlen (by decide) rfl (vp_in_lt (n := 30) ht.1 ht.2 (by decide)) ?_
    refine sx_callS (pc := 19) (As := [.int i, .int (μ 91 it.toNatClampNeg)]) dX5_waits_19 (c_isBelow X Ex false shA μ _ _) mX5_isBelow lm_X5_41 rfl ⟨Nat.le_of_ble_eq_true rfl, Nat.le_of_ble_eq_true rfl⟩ ⟨Nat.le_of_ble_eq_true rfl, Nat.le_of_ble_eq_true rfl⟩ (Nat.le_of_ble_eq_true rfl) hE (fun r_19 sh1 μ2 h_19 => ?_)
    obtain ⟨rfl, rfl, x_19, rfl, hx_19⟩ := h_19
    refine sx_if_ne (pc := 22) (tgt := 27) dX5_waits_22 (by decide) (fun c_22 => ?_) (fun c_22 => ?_)
    · have h_22t := c_22
      refine sx_aload_n (pc := 27) dX5_waits_27 rfl rfl ?_
      refine sx_getr (pc := 28) (ci := 5) (j := 1) (r := 56) dX5_waits_28 rfl s_EW rfl (by decide) lf_X5_19 ?_
      refine sx_getr (pc := 31) (ci := 0) (j := 3) (r := 60) dX5_waits_31 rfl s_Ho rfl (by decide) lf_X5_128 ?_
      refine sx_iload_n (pc := 34) dX5_waits_34 rfl rfl ?_
      refine sx_aald (pc := 35) (r := 61 + it.toNatClampNeg) dX5_waits_35 s_queues rfl rfl (vp_in_lt (n := 30) ht.1 ht.2 (by decide)) (el_queues _ hi) ?_
      refine sx_iload_n (pc := 36) dX5_waits_36 rfl rfl ?_
      refine sx_iald (pc := 37) dX5_waits_37 (s_qrow _ hi) (by decide) rfl (vp_in_lt (n := 30) (isB_t hx_19 h_22t).1 (Int32.lt_of_lt_of_le (isB_t hx_19 h_22t).2 hq.2) (by decide)) ?_
      exact sx_iret (pc := 38) dX5_waits_38 rfl rfl (Nat.zero_le _) (Nat.zero_le _) (⟨rfl, fun _ _ => rfl, hV, _, rfl⟩)
    · have h_22f := c_22
      refine sx_iconst (pc := 25) (v := (-1)) dX5_waits_25 (by decide) ?_
      exact sx_iret (pc := 26) dX5_waits_26 rfl rfl (Nat.zero_le _) (Nat.zero_le _) (⟨rfl, fun _ _ => rfl, hV, _, rfl⟩)
set_option maxHeartbeats 1000000 in
set_option maxRecDepth 20000 in
theorem l_join_end {X : xD} {Ex : State → Prop} (hE : xEs X false shA.length Ex) {l : Launch} {dev : Int32} (hb : 0 ≤ dev ∧ dev < 6) (hd : dev.toNatClampNeg < 6) {μ0 : xM} {v : VT} (hV : Vc μ0 v) {q : Nat} (hq : q ≤ 20) (hμq : μ0 (2 + 9 * dev.toNatClampNeg) 11 = nI q) {μ : xM} (hC : Ch SC μ0 μ) (y j : Int32) : sx l (rmN 4) X Ex false kX5_join shA.length (xZ X false shA.length (fun r sh' μ' => shA = sh' ∧ Ks μ0 μ' ∧ Vc μ' (oJoin dev v) ∧ ∃ x : Int32, r = some (.int x)) 0 0) 77 [some (.ref (X.2 + 0)), some (.int dev), some (.ref (X.2 + (2 + 9 * dev.toNatClampNeg))), some (.int y), some (.int j)] [] shA μ 0 0 := by
  refine sx_aload_n (pc := 77) dX5_join_77 rfl rfl ?_
  refine sx_iconst (pc := 78) (v := 0) dX5_join_78 (by decide) ?_
  refine sx_puti (pc := 79) (ci := 2) (j := 11) (ty := .int) dX5_join_79 rfl (s_Line _ hd) rfl (by decide) lf_X5_87 rfl (by decide +kernel) rfl rfl (fun μ1 hμ1 => ?_)
  refine sx_iload_n (pc := 82) dX5_join_82 rfl rfl ?_
  exact sx_iret (pc := 83) dX5_join_83 rfl rfl (Nat.zero_le _) (Nat.zero_le _) (by obtain ⟨q1, q2⟩ := join_ok hV hb hC hμ1; exact ⟨rfl, q1, q2, _, rfl⟩)
set_option maxHeartbeats 1000000 in
set_option maxRecDepth 20000 in
theorem l_join {X : xD} {Ex : State → Prop} (hE : xEs X false shA.length Ex) {l : Launch} {dev : Int32} (hb : 0 ≤ dev ∧ dev < 6) (hd : dev.toNatClampNeg < 6) {μ0 : xM} {v : VT} (hV : Vc μ0 v) {q : Nat} (hq : q ≤ 20) (hμq : μ0 (2 + 9 * dev.toNatClampNeg) 11 = nI q) : ∀ (t j : Nat) (y : Int32) (μ : xM), q - j ≤ t → j ≤ q → Ch SC μ0 μ → sx l (rmN 4) X Ex false kX5_join shA.length (xZ X false shA.length (fun r sh' μ' => shA = sh' ∧ Ks μ0 μ' ∧ Vc μ' (oJoin dev v) ∧ ∃ x : Int32, r = some (.int x)) 0 0) 23 [some (.ref (X.2 + 0)), some (.int dev), some (.ref (X.2 + (2 + 9 * dev.toNatClampNeg))), some (.int y), some (.int (nI j))] [] shA μ 0 0 := by
  intro t
  induction t with
  | zero =>
    intro j y μ ht hj hC
    have hr : μ (2 + 9 * dev.toNatClampNeg) 11 = nI q := by rw [hC.1 _ (by show ¬ (57 ≤ _ ∧ _ ≤ 94); omega)]; exact hμq
    refine sx_iload (pc := 23) dX5_join_23 rfl ?_
    refine sx_aload_n (pc := 25) dX5_join_25 rfl rfl ?_
    refine sx_geti (pc := 26) (ci := 2) (j := 11) dX5_join_26 rfl (s_Line _ hd) rfl (by decide) lf_X5_87 ?_
    refine sx_icmp_ge (pc := 29) (tgt := 77) dX5_join_29 (by decide) (fun c_29 => ?_) (fun c_29 => absurd (by rw [hr]; exact nI_le (by omega) (by omega)) c_29)
    exact l_join_end hE hb hd hV hq hμq hC _ _
  | succ t ih =>
    intro j y μ ht hj hC
    have hr : μ (2 + 9 * dev.toNatClampNeg) 11 = nI q := by rw [hC.1 _ (by show ¬ (57 ≤ _ ∧ _ ≤ 94); omega)]; exact hμq
    refine sx_iload (pc := 23) dX5_join_23 rfl ?_
    refine sx_aload_n (pc := 25) dX5_join_25 rfl rfl ?_
    refine sx_geti (pc := 26) (ci := 2) (j := 11) dX5_join_26 rfl (s_Line _ hd) rfl (by decide) lf_X5_87 ?_
    refine sx_icmp_ge (pc := 29) (tgt := 77) dX5_join_29 (by decide) (fun c_29 => ?_) (fun c_29 => ?_)
    · have h_29t := c_29
      exact l_join_end hE hb hd hV hq hμq hC _ _
    · have h_29f := c_29
      have hlt : j < q := Nat.lt_of_not_le fun z => h_29f (by rw [hr]; exact nI_le z (by omega))
      have hrow := (hV.1 _ hd).2.2.2 j (by omega)
      have e7 : μ (2 + 9 * dev.toNatClampNeg + 7) = μ0 (2 + 9 * dev.toNatClampNeg + 7) := hC.1 _ (by show ¬ (57 ≤ _ ∧ _ ≤ 94); omega)
      have e8 : μ (2 + 9 * dev.toNatClampNeg + 8) = μ0 (2 + 9 * dev.toNatClampNeg + 8) := hC.1 _ (by show ¬ (57 ≤ _ ∧ _ ≤ 94); omega)
      have ecl : (nI j).toNatClampNeg = j := nI_clamp (by omega)
      refine sx_aload_n (pc := 32) dX5_join_32 rfl rfl ?_
      refine sx_getr (pc := 33) (ci := 5) (j := 3) (r := 94) dX5_join_33 rfl s_EW rfl (by decide) lf_X5_33 ?_
      refine sx_aload_n (pc := 36) dX5_join_36 rfl rfl ?_
      refine sx_getr (pc := 37) (ci := 2) (j := 8) (r := 2 + 9 * dev.toNatClampNeg + 6) dX5_join_37 rfl (s_Line _ hd) rfl (by decide) lf_X5_90 ?_
      refine sx_iload (pc := 40) dX5_join_40 rfl ?_
      refine sx_iald (pc := 42) dX5_join_42 (s_Lrk _ hd) (by decide) rfl (vp_in_nI (by omega) (by decide)) ?_
      refine sx_aload_n (pc := 43) dX5_join_43 rfl rfl ?_
      refine sx_getr (pc := 44) (ci := 2) (j := 9) (r := 2 + 9 * dev.toNatClampNeg + 7) dX5_join_44 rfl (s_Line _ hd) rfl (by decide) lf_X5_93 ?_
      refine sx_iload (pc := 47) dX5_join_47 rfl ?_
      refine sx_iald (pc := 49) dX5_join_49 (s_Lri _ hd) (by decide) rfl (vp_in_nI (by omega) (by decide)) ?_
      refine sx_aload_n (pc := 50) dX5_join_50 rfl rfl ?_
      refine sx_getr (pc := 51) (ci := 2) (j := 10) (r := 2 + 9 * dev.toNatClampNeg + 8) dX5_join_51 rfl (s_Line _ hd) rfl (by decide) lf_X5_96 ?_
      refine sx_iload (pc := 54) dX5_join_54 rfl ?_
      refine sx_iald (pc := 56) dX5_join_56 (s_Lrp _ hd) (by decide) rfl (vp_in_nI (by omega) (by decide)) ?_
      refine sx_callV (pc := 57) (As := [.int (μ (2 + 9 * dev.toNatClampNeg + 6) (nI j).toNatClampNeg), .int (μ (2 + 9 * dev.toNatClampNeg + 7) (nI j).toNatClampNeg), .int (μ (2 + 9 * dev.toNatClampNeg + 8) (nI j).toNatClampNeg)]) dX5_join_57 (c_fill X Ex hE μ _ _ _) mX3_fillFromRow lm_X5_99 rfl s_Me rfl ⟨Nat.le_of_ble_eq_true rfl, Nat.le_of_ble_eq_true rfl⟩ ⟨Nat.le_of_ble_eq_true rfl, Nat.le_of_ble_eq_true rfl⟩ (Nat.le_of_ble_eq_true rfl) hE (fun r_57 sh1 μ1 h_57 => ?_)
      obtain ⟨rfl, rfl, k_57, g0, g3, g2⟩ := h_57
      have hG : GD μ1 := fun i hi => ⟨fun _ => by rw [g3, ecl, e7]; exact hrow.1, fun _ => by rw [g2, ecl, e8]; exact hrow.2⟩
      refine sx_aload_n (pc := 60) dX5_join_60 rfl rfl ?_
      refine sx_iload_n (pc := 61) dX5_join_61 rfl rfl ?_
      refine sx_callV (pc := 62) (As := [.int dev]) dX5_join_62 (c_carry X Ex hE μ1 _ hG (((Ch.trans hC k_57 (fun a (h : a = 94) => by show SC a; show 57 ≤ a ∧ a ≤ 94; omega))).2 hV.2.2)) mX5_carryOut lm_X5_103 rfl s_EW rfl ⟨Nat.le_of_ble_eq_true rfl, Nat.le_of_ble_eq_true rfl⟩ ⟨Nat.le_of_ble_eq_true rfl, Nat.le_of_ble_eq_true rfl⟩ (Nat.le_of_ble_eq_true rfl) hE (fun r_62 sh1 μ2 h_62 => ?_)
      obtain ⟨rfl, k_62, hG62, x_62, rfl, hx_62⟩ := h_62
      refine sx_if_eq (pc := 65) (tgt := 71) dX5_join_65 (by decide) (fun c_65 => ?_) (fun c_65 => ?_)
      · have h_65t := c_65
        refine sx_iinc (pc := 71) (v := nI (j + 1)) (L' := [some (.ref (X.2 + 0)), some (.int dev), some (.ref (X.2 + (2 + 9 * dev.toNatClampNeg))), some (.int y), some (.int (nI (j + 1)))]) dX5_join_71 rfl (nI_1 j) (by decide) rfl ?_
        refine sx_goto (pc := 74) (tgt := 23) dX5_join_74 (by decide) ?_
        exact ih (j + 1) _ _ (by omega) (by omega) (Ch.trans (Ch.trans hC k_57 (fun a (h : a = 94) => by show SC a; show 57 ≤ a ∧ a ≤ 94; omega)) k_62 (fun _ h => h))
      · have h_65f := c_65
        refine sx_iinc (pc := 68) (v := y + 1) (L' := [some (.ref (X.2 + 0)), some (.int dev), some (.ref (X.2 + (2 + 9 * dev.toNatClampNeg))), some (.int (y + 1)), some (.int (nI j))]) dX5_join_68 rfl rfl (by decide) rfl ?_
        refine sx_iinc (pc := 71) (v := nI (j + 1)) (L' := [some (.ref (X.2 + 0)), some (.int dev), some (.ref (X.2 + (2 + 9 * dev.toNatClampNeg))), some (.int (y + 1)), some (.int (nI (j + 1)))]) dX5_join_71 rfl (nI_1 j) (by decide) rfl ?_
        refine sx_goto (pc := 74) (tgt := 23) dX5_join_74 (by decide) ?_
        exact ih (j + 1) _ _ (by omega) (by omega) (Ch.trans (Ch.trans hC k_57 (fun a (h : a = 94) => by show SC a; show 57 ≤ a ∧ a ≤ 94; omega)) k_62 (fun _ h => h))
set_option maxHeartbeats 1000000 in
set_option maxRecDepth 20000 in
theorem p_join (X : xD) (Ex : State → Prop) (hE : xEs X false shA.length Ex) (μ : xM) (dev : Int32) {v : VT} (hV : Vc μ v) (hD : VD v) : Ct X Ex false yX5_join kX5_join (rmN 4) [.ref (X.2 + 0), .int dev] shA μ (fun r sh' μ' => shA = sh' ∧ Ks μ μ' ∧ Vc μ' (oJoin dev v) ∧ ∃ x : Int32, r = some (.int x)) := by
  refine Ct.of (L0 := [some (.ref (X.2 + 0)), some (.int dev), none, none, none]) (by decide) rfl (fun h => by cases h) (by simp [Value.category]) (Nat.le_of_ble_eq_true rfl) rfl (fun l => ?_)
  refine sx_iload_n (pc := 0) dX5_join_0 rfl rfl ?_
  refine sx_bipush (pc := 1) (v := 6) dX5_join_1 (by decide) ?_
  refine sx_callS (pc := 3) (As := [.int dev, .int 6]) dX5_join_3 (c_isBelow X Ex false shA μ _ _) mX5_isBelow lm_X5_41 rfl ⟨Nat.le_of_ble_eq_true rfl, Nat.le_of_ble_eq_true rfl⟩ ⟨Nat.le_of_ble_eq_true rfl, Nat.le_of_ble_eq_true rfl⟩ (Nat.le_of_ble_eq_true rfl) hE (fun r_3 sh1 μ1 h_3 => ?_)
  obtain ⟨rfl, rfl, x_3, rfl, hx_3⟩ := h_3
  refine sx_if_ne (pc := 6) (tgt := 11) dX5_join_6 (by decide) (fun c_6 => ?_) (fun c_6 => ?_)
  · have h_6t := c_6
    have hb := isB_t hx_3 h_6t
    have hd := clamp_lt (n := 6) hb.1 hb.2 (by decide)
    obtain ⟨q, hq, e⟩ := nI_of2 (x := μ (2 + 9 * dev.toNatClampNeg) 11) (M := 20) (n := 20) rfl (by rw [(hV.1 _ hd).2.2.1]; exact Int32.not_lt.mpr (hD.1 _ hd).2.2.1) (by rw [(hV.1 _ hd).2.2.1]; exact (hD.1 _ hd).2.2.2)
    refine sx_aload_n (pc := 11) dX5_join_11 rfl rfl ?_
    refine sx_getr (pc := 12) (ci := 5) (j := 0) (r := 1) dX5_join_12 rfl s_EW rfl (by decide) lf_X5_11 ?_
    refine sx_iload_n (pc := 15) dX5_join_15 rfl rfl ?_
    refine sx_aald (pc := 16) (r := 2 + 9 * dev.toNatClampNeg) dX5_join_16 s_lines rfl rfl (vp_in_lt (n := 6) hb.1 hb.2 (by decide)) (el_lines _ hd) ?_
    refine sx_astore_n (pc := 17) (L' := [some (.ref (X.2 + 0)), some (.int dev), some (.ref (X.2 + (2 + 9 * dev.toNatClampNeg))), none, none]) dX5_join_17 rfl (by decide) rfl ?_
    refine sx_iconst (pc := 18) (v := 0) dX5_join_18 (by decide) ?_
    refine sx_istore_n (pc := 19) (L' := [some (.ref (X.2 + 0)), some (.int dev), some (.ref (X.2 + (2 + 9 * dev.toNatClampNeg))), some (.int 0), none]) dX5_join_19 rfl (by decide) rfl ?_
    refine sx_iconst (pc := 20) (v := 0) dX5_join_20 (by decide) ?_
    refine sx_istore (pc := 21) (L' := [some (.ref (X.2 + 0)), some (.int dev), some (.ref (X.2 + (2 + 9 * dev.toNatClampNeg))), some (.int 0), some (.int 0)]) dX5_join_21 (by decide) rfl ?_
    exact l_join hE hb hd hV hq e 20 0 _ _ (by omega) (Nat.zero_le _) Ch.rf
  · have h_6f := c_6
    refine sx_iconst (pc := 9) (v := (-1)) dX5_join_9 (by decide) ?_
    exact sx_iret (pc := 10) dX5_join_10 rfl rfl (Nat.zero_le _) (Nat.zero_le _) (⟨rfl, fun _ _ => rfl, by rw [oJoin, if_neg (isB_f hx_3 h_6f)]; exact hV, _, rfl⟩)
end
