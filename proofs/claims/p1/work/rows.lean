section
-- ===== PART A: goes FIRST, ahead of the names: the tables' words, and 'selects' of the private methods out of them =====
/-- a private method of a class that the tables say can be made, by its rows of tables_1 -/
def lw_okq (q : MethodName × Nat) : Prop := (q.1.cls ≠ "java/lang/invoke/MethodHandle" ∧ q.1.cls ≠ "java/lang/invoke/VarHandle") ∧ Cond.instantiable q.1.cls q.2 ∈ tables_1 ∧ Cond.privateMethod q.1 ∈ tables_1 ∧ Cond.instanceMethod q.1 ∈ tables_1
theorem lw_p0 : lw_okq (⟨"ExchangeWire", "endMessage", "(ILExchangeWire$Line;)V"⟩, 5) := ⟨⟨by decide +kernel, by decide +kernel⟩, List.mem_of_getElem? (i := 20) (by decide +kernel), List.mem_of_getElem? (i := 207) (by decide +kernel), List.mem_of_getElem? (i := 208) (by decide +kernel)⟩
theorem lw_p1 : lw_okq (⟨"ExchangeWire$Message", "forget", "()V"⟩, 5) := ⟨⟨by decide +kernel, by decide +kernel⟩, List.mem_of_getElem? (i := 143) (by decide +kernel), List.mem_of_getElem? (i := 215) (by decide +kernel), List.mem_of_getElem? (i := 216) (by decide +kernel)⟩
theorem lw_p2 : lw_okq (⟨"ExchangeWire$Message", "readField", "(I[III)I"⟩, 5) := ⟨⟨by decide +kernel, by decide +kernel⟩, List.mem_of_getElem? (i := 143) (by decide +kernel), List.mem_of_getElem? (i := 278) (by decide +kernel), List.mem_of_getElem? (i := 279) (by decide +kernel)⟩
theorem lw_p3 : lw_okq (⟨"ExchangeWire$Message", "keepField", "(II)V"⟩, 5) := ⟨⟨by decide +kernel, by decide +kernel⟩, List.mem_of_getElem? (i := 143) (by decide +kernel), List.mem_of_getElem? (i := 285) (by decide +kernel), List.mem_of_getElem? (i := 286) (by decide +kernel)⟩
theorem lw_p4 : lw_okq (⟨"ExchangeWire$Reply", "add", "(I)V"⟩, 2) := ⟨⟨by decide +kernel, by decide +kernel⟩, List.mem_of_getElem? (i := 35) (by decide +kernel), List.mem_of_getElem? (i := 302) (by decide +kernel), List.mem_of_getElem? (i := 303) (by decide +kernel)⟩
theorem lw_p5 : lw_okq (⟨"ExchangeWire$Reply", "addSumAndEnd", "()V"⟩, 2) := ⟨⟨by decide +kernel, by decide +kernel⟩, List.mem_of_getElem? (i := 35) (by decide +kernel), List.mem_of_getElem? (i := 306) (by decide +kernel), List.mem_of_getElem? (i := 307) (by decide +kernel)⟩
theorem lw_p6 : lw_okq (⟨"ExchangeWire$Reply", "addSource", "(LExchangeWire$Message;)V"⟩, 2) := ⟨⟨by decide +kernel, by decide +kernel⟩, List.mem_of_getElem? (i := 35) (by decide +kernel), List.mem_of_getElem? (i := 316) (by decide +kernel), List.mem_of_getElem? (i := 317) (by decide +kernel)⟩
theorem lw_p7 : lw_okq (⟨"ExchangeWire", "doMessage", "(ILExchangeWire$Line;)V"⟩, 5) := ⟨⟨by decide +kernel, by decide +kernel⟩, List.mem_of_getElem? (i := 20) (by decide +kernel), List.mem_of_getElem? (i := 320) (by decide +kernel), List.mem_of_getElem? (i := 321) (by decide +kernel)⟩
theorem lw_p8 : lw_okq (⟨"ExchangeWire$Message", "isGoodField", "(I)Z"⟩, 5) := ⟨⟨by decide +kernel, by decide +kernel⟩, List.mem_of_getElem? (i := 143) (by decide +kernel), List.mem_of_getElem? (i := 328) (by decide +kernel), List.mem_of_getElem? (i := 329) (by decide +kernel)⟩
theorem lw_p9 : lw_okq (⟨"ExchangeWire", "carryOut", "(I)Z"⟩, 5) := ⟨⟨by decide +kernel, by decide +kernel⟩, List.mem_of_getElem? (i := 20) (by decide +kernel), List.mem_of_getElem? (i := 338) (by decide +kernel), List.mem_of_getElem? (i := 339) (by decide +kernel)⟩
theorem lw_p10 : lw_okq (⟨"ExchangeWire$House", "lend", "(II)Z"⟩, 5) := ⟨⟨by decide +kernel, by decide +kernel⟩, List.mem_of_getElem? (i := 101) (by decide +kernel), List.mem_of_getElem? (i := 346) (by decide +kernel), List.mem_of_getElem? (i := 347) (by decide +kernel)⟩
theorem lw_p11 : lw_okq (⟨"ExchangeWire$House", "dropFirst", "(I)V"⟩, 5) := ⟨⟨by decide +kernel, by decide +kernel⟩, List.mem_of_getElem? (i := 101) (by decide +kernel), List.mem_of_getElem? (i := 350) (by decide +kernel), List.mem_of_getElem? (i := 351) (by decide +kernel)⟩
theorem lw_p12 : lw_okq (⟨"ExchangeWire$House", "bringBack", "(I)Z"⟩, 5) := ⟨⟨by decide +kernel, by decide +kernel⟩, List.mem_of_getElem? (i := 101) (by decide +kernel), List.mem_of_getElem? (i := 354) (by decide +kernel), List.mem_of_getElem? (i := 355) (by decide +kernel)⟩
theorem lw_p13 : lw_okq (⟨"ExchangeWire$House", "pay", "(II)Z"⟩, 5) := ⟨⟨by decide +kernel, by decide +kernel⟩, List.mem_of_getElem? (i := 101) (by decide +kernel), List.mem_of_getElem? (i := 358) (by decide +kernel), List.mem_of_getElem? (i := 359) (by decide +kernel)⟩
theorem lw_p14 : lw_okq (⟨"ExchangeWire$House", "queueUp", "(II)Z"⟩, 5) := ⟨⟨by decide +kernel, by decide +kernel⟩, List.mem_of_getElem? (i := 101) (by decide +kernel), List.mem_of_getElem? (i := 362) (by decide +kernel), List.mem_of_getElem? (i := 363) (by decide +kernel)⟩
theorem lw_p15 : lw_okq (⟨"ExchangeWire$House", "isInQueue", "(II)Z"⟩, 5) := ⟨⟨by decide +kernel, by decide +kernel⟩, List.mem_of_getElem? (i := 101) (by decide +kernel), List.mem_of_getElem? (i := 366) (by decide +kernel), List.mem_of_getElem? (i := 367) (by decide +kernel)⟩
def lw_privs_1 : List (MethodName × Nat) := [(⟨"ExchangeWire", "endMessage", "(ILExchangeWire$Line;)V"⟩, 5), (⟨"ExchangeWire$Message", "forget", "()V"⟩, 5), (⟨"ExchangeWire$Message", "readField", "(I[III)I"⟩, 5), (⟨"ExchangeWire$Message", "keepField", "(II)V"⟩, 5), (⟨"ExchangeWire$Reply", "add", "(I)V"⟩, 2), (⟨"ExchangeWire$Reply", "addSumAndEnd", "()V"⟩, 2), (⟨"ExchangeWire$Reply", "addSource", "(LExchangeWire$Message;)V"⟩, 2), (⟨"ExchangeWire", "doMessage", "(ILExchangeWire$Line;)V"⟩, 5), (⟨"ExchangeWire$Message", "isGoodField", "(I)Z"⟩, 5), (⟨"ExchangeWire", "carryOut", "(I)Z"⟩, 5), (⟨"ExchangeWire$House", "lend", "(II)Z"⟩, 5), (⟨"ExchangeWire$House", "dropFirst", "(I)V"⟩, 5), (⟨"ExchangeWire$House", "bringBack", "(I)Z"⟩, 5), (⟨"ExchangeWire$House", "pay", "(II)Z"⟩, 5), (⟨"ExchangeWire$House", "queueUp", "(II)Z"⟩, 5), (⟨"ExchangeWire$House", "isInQueue", "(II)Z"⟩, 5)]
theorem lw_r1 : ∀ q ∈ lw_privs_1, lw_okq q := List.forall_mem_cons.mpr ⟨lw_p0, List.forall_mem_cons.mpr ⟨lw_p1, List.forall_mem_cons.mpr ⟨lw_p2, List.forall_mem_cons.mpr ⟨lw_p3, List.forall_mem_cons.mpr ⟨lw_p4, List.forall_mem_cons.mpr ⟨lw_p5, List.forall_mem_cons.mpr ⟨lw_p6, List.forall_mem_cons.mpr ⟨lw_p7, List.forall_mem_cons.mpr ⟨lw_p8, List.forall_mem_cons.mpr ⟨lw_p9, List.forall_mem_cons.mpr ⟨lw_p10, List.forall_mem_cons.mpr ⟨lw_p11, List.forall_mem_cons.mpr ⟨lw_p12, List.forall_mem_cons.mpr ⟨lw_p13, List.forall_mem_cons.mpr ⟨lw_p14, List.forall_mem_cons.mpr ⟨lw_p15, fun _ h => absurd h List.not_mem_nil⟩⟩⟩⟩⟩⟩⟩⟩⟩⟩⟩⟩⟩⟩⟩⟩
theorem lw_p16 : lw_okq (⟨"ExchangeWire$House", "renew", "(II)Z"⟩, 5) := ⟨⟨by decide +kernel, by decide +kernel⟩, List.mem_of_getElem? (i := 101) (by decide +kernel), List.mem_of_getElem? (i := 371) (by decide +kernel), List.mem_of_getElem? (i := 372) (by decide +kernel)⟩
theorem lw_p17 : lw_okq (⟨"ExchangeWire$House", "itemsOf", "(I)I"⟩, 5) := ⟨⟨by decide +kernel, by decide +kernel⟩, List.mem_of_getElem? (i := 101) (by decide +kernel), List.mem_of_getElem? (i := 388) (by decide +kernel), List.mem_of_getElem? (i := 389) (by decide +kernel)⟩
theorem lw_p18 : lw_okq (⟨"ExchangeWire$Reply", "addDigits", "(I)V"⟩, 2) := ⟨⟨by decide +kernel, by decide +kernel⟩, List.mem_of_getElem? (i := 35) (by decide +kernel), List.mem_of_getElem? (i := 396) (by decide +kernel), List.mem_of_getElem? (i := 397) (by decide +kernel)⟩
theorem lw_p19 : lw_okq (⟨"java/lang/Throwable", "fillInStackTrace", "(I)Ljava/lang/Throwable;"⟩, 6) := ⟨⟨by decide +kernel, by decide +kernel⟩, List.mem_of_getElem? (i := 509) (by decide +kernel), List.mem_of_getElem? (i := 507) (by decide +kernel), List.mem_of_getElem? (i := 508) (by decide +kernel)⟩
theorem lw_p20 : lw_okq (⟨"ExchangeWireModel", "answers", "(I)V"⟩, 30) := ⟨⟨by decide +kernel, by decide +kernel⟩, List.mem_of_getElem? (i := 541) (by decide +kernel), List.mem_of_getElem? (i := 653) (by decide +kernel), List.mem_of_getElem? (i := 654) (by decide +kernel)⟩
theorem lw_p21 : lw_okq (⟨"ExchangeWireModel", "reads", "(I)Z"⟩, 30) := ⟨⟨by decide +kernel, by decide +kernel⟩, List.mem_of_getElem? (i := 541) (by decide +kernel), List.mem_of_getElem? (i := 657) (by decide +kernel), List.mem_of_getElem? (i := 658) (by decide +kernel)⟩
theorem lw_p22 : lw_okq (⟨"ExchangeWireModel", "look", "(I)I"⟩, 30) := ⟨⟨by decide +kernel, by decide +kernel⟩, List.mem_of_getElem? (i := 541) (by decide +kernel), List.mem_of_getElem? (i := 661) (by decide +kernel), List.mem_of_getElem? (i := 662) (by decide +kernel)⟩
theorem lw_p23 : lw_okq (⟨"ExchangeWireModel", "field", "(II)I"⟩, 30) := ⟨⟨by decide +kernel, by decide +kernel⟩, List.mem_of_getElem? (i := 541) (by decide +kernel), List.mem_of_getElem? (i := 671) (by decide +kernel), List.mem_of_getElem? (i := 672) (by decide +kernel)⟩
theorem lw_p24 : lw_okq (⟨"ExchangeWireModel", "put", "(II)V"⟩, 30) := ⟨⟨by decide +kernel, by decide +kernel⟩, List.mem_of_getElem? (i := 541) (by decide +kernel), List.mem_of_getElem? (i := 681) (by decide +kernel), List.mem_of_getElem? (i := 682) (by decide +kernel)⟩
theorem lw_p25 : lw_okq (⟨"ExchangeWireModel", "close", "(I)V"⟩, 30) := ⟨⟨by decide +kernel, by decide +kernel⟩, List.mem_of_getElem? (i := 541) (by decide +kernel), List.mem_of_getElem? (i := 685) (by decide +kernel), List.mem_of_getElem? (i := 686) (by decide +kernel)⟩
theorem lw_p26 : lw_okq (⟨"ExchangeWireModel", "finish", "(IZ)V"⟩, 30) := ⟨⟨by decide +kernel, by decide +kernel⟩, List.mem_of_getElem? (i := 541) (by decide +kernel), List.mem_of_getElem? (i := 692) (by decide +kernel), List.mem_of_getElem? (i := 693) (by decide +kernel)⟩
theorem lw_p27 : lw_okq (⟨"ExchangeWireModel", "again", "(I)V"⟩, 30) := ⟨⟨by decide +kernel, by decide +kernel⟩, List.mem_of_getElem? (i := 541) (by decide +kernel), List.mem_of_getElem? (i := 696) (by decide +kernel), List.mem_of_getElem? (i := 697) (by decide +kernel)⟩
theorem lw_p28 : lw_okq (⟨"ExchangeWireModel", "bad", "()I"⟩, 30) := ⟨⟨by decide +kernel, by decide +kernel⟩, List.mem_of_getElem? (i := 541) (by decide +kernel), List.mem_of_getElem? (i := 700) (by decide +kernel), List.mem_of_getElem? (i := 701) (by decide +kernel)⟩
theorem lw_p29 : lw_okq (⟨"ExchangeWireModel", "judge", "(II)I"⟩, 30) := ⟨⟨by decide +kernel, by decide +kernel⟩, List.mem_of_getElem? (i := 541) (by decide +kernel), List.mem_of_getElem? (i := 705) (by decide +kernel), List.mem_of_getElem? (i := 706) (by decide +kernel)⟩
theorem lw_p30 : lw_okq (⟨"ExchangeWireModel", "lends", "(II)I"⟩, 30) := ⟨⟨by decide +kernel, by decide +kernel⟩, List.mem_of_getElem? (i := 541) (by decide +kernel), List.mem_of_getElem? (i := 709) (by decide +kernel), List.mem_of_getElem? (i := 710) (by decide +kernel)⟩
theorem lw_p31 : lw_okq (⟨"ExchangeWireModel", "enter", "(IIIII)V"⟩, 30) := ⟨⟨by decide +kernel, by decide +kernel⟩, List.mem_of_getElem? (i := 541) (by decide +kernel), List.mem_of_getElem? (i := 713) (by decide +kernel), List.mem_of_getElem? (i := 714) (by decide +kernel)⟩
def lw_privs_2 : List (MethodName × Nat) := [(⟨"ExchangeWire$House", "renew", "(II)Z"⟩, 5), (⟨"ExchangeWire$House", "itemsOf", "(I)I"⟩, 5), (⟨"ExchangeWire$Reply", "addDigits", "(I)V"⟩, 2), (⟨"java/lang/Throwable", "fillInStackTrace", "(I)Ljava/lang/Throwable;"⟩, 6), (⟨"ExchangeWireModel", "answers", "(I)V"⟩, 30), (⟨"ExchangeWireModel", "reads", "(I)Z"⟩, 30), (⟨"ExchangeWireModel", "look", "(I)I"⟩, 30), (⟨"ExchangeWireModel", "field", "(II)I"⟩, 30), (⟨"ExchangeWireModel", "put", "(II)V"⟩, 30), (⟨"ExchangeWireModel", "close", "(I)V"⟩, 30), (⟨"ExchangeWireModel", "finish", "(IZ)V"⟩, 30), (⟨"ExchangeWireModel", "again", "(I)V"⟩, 30), (⟨"ExchangeWireModel", "bad", "()I"⟩, 30), (⟨"ExchangeWireModel", "judge", "(II)I"⟩, 30), (⟨"ExchangeWireModel", "lends", "(II)I"⟩, 30), (⟨"ExchangeWireModel", "enter", "(IIIII)V"⟩, 30)]
theorem lw_r2 : ∀ q ∈ lw_privs_2, lw_okq q := List.forall_mem_cons.mpr ⟨lw_p16, List.forall_mem_cons.mpr ⟨lw_p17, List.forall_mem_cons.mpr ⟨lw_p18, List.forall_mem_cons.mpr ⟨lw_p19, List.forall_mem_cons.mpr ⟨lw_p20, List.forall_mem_cons.mpr ⟨lw_p21, List.forall_mem_cons.mpr ⟨lw_p22, List.forall_mem_cons.mpr ⟨lw_p23, List.forall_mem_cons.mpr ⟨lw_p24, List.forall_mem_cons.mpr ⟨lw_p25, List.forall_mem_cons.mpr ⟨lw_p26, List.forall_mem_cons.mpr ⟨lw_p27, List.forall_mem_cons.mpr ⟨lw_p28, List.forall_mem_cons.mpr ⟨lw_p29, List.forall_mem_cons.mpr ⟨lw_p30, List.forall_mem_cons.mpr ⟨lw_p31, fun _ h => absurd h List.not_mem_nil⟩⟩⟩⟩⟩⟩⟩⟩⟩⟩⟩⟩⟩⟩⟩⟩
theorem lw_p32 : lw_okq (⟨"ExchangeWireModel", "items", "(I)I"⟩, 30) := ⟨⟨by decide +kernel, by decide +kernel⟩, List.mem_of_getElem? (i := 541) (by decide +kernel), List.mem_of_getElem? (i := 717) (by decide +kernel), List.mem_of_getElem? (i := 718) (by decide +kernel)⟩
theorem lw_p33 : lw_okq (⟨"ExchangeWireModel", "brings", "(II)I"⟩, 30) := ⟨⟨by decide +kernel, by decide +kernel⟩, List.mem_of_getElem? (i := 541) (by decide +kernel), List.mem_of_getElem? (i := 721) (by decide +kernel), List.mem_of_getElem? (i := 722) (by decide +kernel)⟩
theorem lw_p34 : lw_okq (⟨"ExchangeWireModel", "placeOf", "(II)I"⟩, 30) := ⟨⟨by decide +kernel, by decide +kernel⟩, List.mem_of_getElem? (i := 541) (by decide +kernel), List.mem_of_getElem? (i := 725) (by decide +kernel), List.mem_of_getElem? (i := 726) (by decide +kernel)⟩
def lw_privs_3 : List (MethodName × Nat) := [(⟨"ExchangeWireModel", "items", "(I)I"⟩, 30), (⟨"ExchangeWireModel", "brings", "(II)I"⟩, 30), (⟨"ExchangeWireModel", "placeOf", "(II)I"⟩, 30)]
theorem lw_r3 : ∀ q ∈ lw_privs_3, lw_okq q := List.forall_mem_cons.mpr ⟨lw_p32, List.forall_mem_cons.mpr ⟨lw_p33, List.forall_mem_cons.mpr ⟨lw_p34, fun _ h => absurd h List.not_mem_nil⟩⟩⟩
def lw_privs : List (MethodName × Nat) := lw_privs_1 ++ (lw_privs_2 ++ (lw_privs_3))
def lw_tbl : List Cond := k2_sels lw_privs ++ tables_1
theorem lw_privs_ok : ∀ q ∈ lw_privs, lw_okq q := by
  show ∀ q ∈ lw_privs_1 ++ (lw_privs_2 ++ (lw_privs_3)), lw_okq q
  exact List.forall_mem_append.mpr ⟨lw_r1, List.forall_mem_append.mpr ⟨lw_r2, lw_r3⟩⟩
end
section
def RX0 : String := "ExchangeWire$House"
def TX0 : u_T := fun k => match k with
  | 0 => ("ExchangeWire$House", "debts", "[I", true)
  | 1 => ("ExchangeWire$House", "borrowers", "[I", true)
  | 2 => ("ExchangeWire$House", "renewals", "[I", true)
  | 3 => ("ExchangeWire$House", "queues", "[[I", true)
  | _ => ("ExchangeWire$House", "queueLengths", "[I", true)
def tyX0 : Nat → FieldType := fun k => match k with
  | 0 => .array .int
  | 1 => .array .int
  | 2 => .array .int
  | 3 => .array (.array .int)
  | _ => .array .int
theorem nmX0 : ∀ a, a < 5 → ∀ b, b < 5 → a ≠ b → (TX0 a).2.1 ≠ (TX0 b).2.1 := by decide +kernel
theorem tyX0_ok : ∀ k, k < 5 → parseFieldDescriptor (TX0 k).2.2.1 = some (tyX0 k) := by decide +kernel
abbrev cX0_init : ByteArray := prog_2_method_1_code
def yX0_init : MethodName := ⟨RX0, "<init>", "()V"⟩
abbrev cX0_decide : ByteArray := prog_2_method_2_code
def yX0_decide : MethodName := ⟨RX0, "decide", "(LExchangeWire$Message;)Z"⟩
abbrev cX0_figureFor : ByteArray := prog_2_method_3_code
def yX0_figureFor : MethodName := ⟨RX0, "figureFor", "(LExchangeWire$Message;)I"⟩
abbrev cX0_lend : ByteArray := prog_2_method_4_code
def yX0_lend : MethodName := ⟨RX0, "lend", "(II)Z"⟩
abbrev cX0_bringBack : ByteArray := prog_2_method_5_code
def yX0_bringBack : MethodName := ⟨RX0, "bringBack", "(I)Z"⟩
abbrev cX0_pay : ByteArray := prog_2_method_6_code
def yX0_pay : MethodName := ⟨RX0, "pay", "(II)Z"⟩
abbrev cX0_queueUp : ByteArray := prog_2_method_7_code
def yX0_queueUp : MethodName := ⟨RX0, "queueUp", "(II)Z"⟩
abbrev cX0_renew : ByteArray := prog_2_method_8_code
def yX0_renew : MethodName := ⟨RX0, "renew", "(II)Z"⟩
abbrev cX0_itemsOf : ByteArray := prog_2_method_9_code
def yX0_itemsOf : MethodName := ⟨RX0, "itemsOf", "(I)I"⟩
abbrev cX0_isInQueue : ByteArray := prog_2_method_10_code
def yX0_isInQueue : MethodName := ⟨RX0, "isInQueue", "(II)Z"⟩
abbrev cX0_dropFirst : ByteArray := prog_2_method_11_code
def yX0_dropFirst : MethodName := ⟨RX0, "dropFirst", "(I)V"⟩
def RX1 : String := "ExchangeWire$Journal"
def TX1 : u_T := fun k => match k with
  | 0 => ("ExchangeWire$Journal", "parts", "[I", true)
  | _ => ("ExchangeWire$Journal", "count", "I", false)
def tyX1 : Nat → FieldType := fun k => match k with
  | 0 => .array .int
  | _ => .int
theorem nmX1 : ∀ a, a < 2 → ∀ b, b < 2 → a ≠ b → (TX1 a).2.1 ≠ (TX1 b).2.1 := by decide +kernel
theorem tyX1_ok : ∀ k, k < 2 → parseFieldDescriptor (TX1 k).2.2.1 = some (tyX1 k) := by decide +kernel
abbrev cX1_init : ByteArray := prog_3_method_1_code
def yX1_init : MethodName := ⟨RX1, "<init>", "()V"⟩
abbrev cX1_add : ByteArray := prog_3_method_2_code
def yX1_add : MethodName := ⟨RX1, "add", "(ILExchangeWire$Message;)V"⟩
abbrev cX1_tell : ByteArray := prog_3_method_3_code
def yX1_tell : MethodName := ⟨RX1, "tell", "(II)I"⟩
def RX2 : String := "ExchangeWire$Line"
def TX2 : u_T := fun k => match k with
  | 0 => ("ExchangeWire$Line", "signs", "[I", true)
  | 1 => ("ExchangeWire$Line", "count", "I", false)
  | 2 => ("ExchangeWire$Line", "broken", "Z", false)
  | 3 => ("ExchangeWire$Line", "signedOn", "Z", false)
  | 4 => ("ExchangeWire$Line", "latestNumber", "I", false)
  | 5 => ("ExchangeWire$Line", "wrongCount", "I", false)
  | 6 => ("ExchangeWire$Line", "shown", "LExchangeWire$Reply;", true)
  | 7 => ("ExchangeWire$Line", "kept", "LExchangeWire$Reply;", true)
  | 8 => ("ExchangeWire$Line", "rowKinds", "[I", true)
  | 9 => ("ExchangeWire$Line", "rowItems", "[I", true)
  | 10 => ("ExchangeWire$Line", "rowPersons", "[I", true)
  | _ => ("ExchangeWire$Line", "rowCount", "I", false)
def tyX2 : Nat → FieldType := fun k => match k with
  | 0 => .array .int
  | 1 => .int
  | 2 => .boolean
  | 3 => .boolean
  | 4 => .int
  | 5 => .int
  | 6 => .object "ExchangeWire$Reply"
  | 7 => .object "ExchangeWire$Reply"
  | 8 => .array .int
  | 9 => .array .int
  | 10 => .array .int
  | _ => .int
theorem nmX2 : ∀ a, a < 12 → ∀ b, b < 12 → a ≠ b → (TX2 a).2.1 ≠ (TX2 b).2.1 := by decide +kernel
theorem tyX2_ok : ∀ k, k < 12 → parseFieldDescriptor (TX2 k).2.2.1 = some (tyX2 k) := by decide +kernel
abbrev cX2_init : ByteArray := prog_4_method_1_code
def yX2_init : MethodName := ⟨RX2, "<init>", "()V"⟩
abbrev cX2_take : ByteArray := prog_4_method_2_code
def yX2_take : MethodName := ⟨RX2, "take", "(I)I"⟩
abbrev cX2_clear : ByteArray := prog_4_method_3_code
def yX2_clear : MethodName := ⟨RX2, "clear", "()V"⟩
abbrev cX2_addRow : ByteArray := prog_4_method_4_code
def yX2_addRow : MethodName := ⟨RX2, "addRow", "(III)I"⟩
def RX3 : String := "ExchangeWire$Message"
def TX3 : u_T := fun k => match k with
  | 0 => ("ExchangeWire$Message", "kind", "I", false)
  | 1 => ("ExchangeWire$Message", "number", "I", false)
  | 2 => ("ExchangeWire$Message", "person", "I", false)
  | 3 => ("ExchangeWire$Message", "item", "I", false)
  | _ => ("ExchangeWire$Message", "cents", "I", false)
def tyX3 : Nat → FieldType := fun k => match k with
  | 0 => .int
  | 1 => .int
  | 2 => .int
  | 3 => .int
  | _ => .int
theorem nmX3 : ∀ a, a < 5 → ∀ b, b < 5 → a ≠ b → (TX3 a).2.1 ≠ (TX3 b).2.1 := by decide +kernel
theorem tyX3_ok : ∀ k, k < 5 → parseFieldDescriptor (TX3 k).2.2.1 = some (tyX3 k) := by decide +kernel
abbrev cX3_init : ByteArray := prog_5_method_1_code
def yX3_init : MethodName := ⟨RX3, "<init>", "()V"⟩
abbrev cX3_fillFromRow : ByteArray := prog_5_method_2_code
def yX3_fillFromRow : MethodName := ⟨RX3, "fillFromRow", "(III)V"⟩
abbrev cX3_read : ByteArray := prog_5_method_3_code
def yX3_read : MethodName := ⟨RX3, "read", "([II)Z"⟩
abbrev cX3_firstBadField : ByteArray := prog_5_method_4_code
def yX3_firstBadField : MethodName := ⟨RX3, "firstBadField", "()I"⟩
abbrev cX3_changesTheHouse : ByteArray := prog_5_method_5_code
def yX3_changesTheHouse : MethodName := ⟨RX3, "changesTheHouse", "()Z"⟩
abbrev cX3_forget : ByteArray := prog_5_method_6_code
def yX3_forget : MethodName := ⟨RX3, "forget", "()V"⟩
abbrev cX3_fieldsOf : ByteArray := prog_5_method_7_code
def yX3_fieldsOf : MethodName := ⟨RX3, "fieldsOf", "(I)Ljava/lang/String;"⟩
abbrev cX3_readField : ByteArray := prog_5_method_8_code
def yX3_readField : MethodName := ⟨RX3, "readField", "(I[III)I"⟩
abbrev cX3_keepField : ByteArray := prog_5_method_9_code
def yX3_keepField : MethodName := ⟨RX3, "keepField", "(II)V"⟩
abbrev cX3_isGoodField : ByteArray := prog_5_method_10_code
def yX3_isGoodField : MethodName := ⟨RX3, "isGoodField", "(I)Z"⟩
abbrev cX3_endsWithSum : ByteArray := prog_5_method_11_code
def yX3_endsWithSum : MethodName := ⟨RX3, "endsWithSum", "([III)Z"⟩
def RX4 : String := "ExchangeWire$Reply"
def TX4 : u_T := fun k => match k with
  | 0 => ("ExchangeWire$Reply", "signs", "[I", true)
  | _ => ("ExchangeWire$Reply", "length", "I", false)
def tyX4 : Nat → FieldType := fun k => match k with
  | 0 => .array .int
  | _ => .int
theorem nmX4 : ∀ a, a < 2 → ∀ b, b < 2 → a ≠ b → (TX4 a).2.1 ≠ (TX4 b).2.1 := by decide +kernel
theorem tyX4_ok : ∀ k, k < 2 → parseFieldDescriptor (TX4 k).2.2.1 = some (tyX4 k) := by decide +kernel
abbrev cX4_init : ByteArray := prog_6_method_1_code
def yX4_init : MethodName := ⟨RX4, "<init>", "()V"⟩
abbrev cX4_writeWrong : ByteArray := prog_6_method_2_code
def yX4_writeWrong : MethodName := ⟨RX4, "writeWrong", "()V"⟩
abbrev cX4_writeNo : ByteArray := prog_6_method_3_code
def yX4_writeNo : MethodName := ⟨RX4, "writeNo", "(LExchangeWire$Message;)V"⟩
abbrev cX4_writeError : ByteArray := prog_6_method_4_code
def yX4_writeError : MethodName := ⟨RX4, "writeError", "(LExchangeWire$Message;I)V"⟩
abbrev cX4_writeVerdict : ByteArray := prog_6_method_5_code
def yX4_writeVerdict : MethodName := ⟨RX4, "writeVerdict", "(LExchangeWire$Message;ZI)V"⟩
abbrev cX4_copy : ByteArray := prog_6_method_6_code
def yX4_copy : MethodName := ⟨RX4, "copy", "(LExchangeWire$Reply;)V"⟩
abbrev cX4_addSource : ByteArray := prog_6_method_7_code
def yX4_addSource : MethodName := ⟨RX4, "addSource", "(LExchangeWire$Message;)V"⟩
abbrev cX4_addSumAndEnd : ByteArray := prog_6_method_8_code
def yX4_addSumAndEnd : MethodName := ⟨RX4, "addSumAndEnd", "()V"⟩
abbrev cX4_addDigits : ByteArray := prog_6_method_9_code
def yX4_addDigits : MethodName := ⟨RX4, "addDigits", "(I)V"⟩
abbrev cX4_add : ByteArray := prog_6_method_10_code
def yX4_add : MethodName := ⟨RX4, "add", "(I)V"⟩
def RX5 : String := "ExchangeWire"
def TX5 : u_T := fun k => match k with
  | 0 => ("ExchangeWire", "lines", "[LExchangeWire$Line;", true)
  | 1 => ("ExchangeWire", "house", "LExchangeWire$House;", true)
  | 2 => ("ExchangeWire", "journal", "LExchangeWire$Journal;", true)
  | 3 => ("ExchangeWire", "message", "LExchangeWire$Message;", true)
  | _ => ("ExchangeWire", "sumSoFar", "I", false)
def tyX5 : Nat → FieldType := fun k => match k with
  | 0 => .array (.object "ExchangeWire$Line")
  | 1 => .object "ExchangeWire$House"
  | 2 => .object "ExchangeWire$Journal"
  | 3 => .object "ExchangeWire$Message"
  | _ => .int
theorem nmX5 : ∀ a, a < 5 → ∀ b, b < 5 → a ≠ b → (TX5 a).2.1 ≠ (TX5 b).2.1 := by decide +kernel
theorem tyX5_ok : ∀ k, k < 5 → parseFieldDescriptor (TX5 k).2.2.1 = some (tyX5 k) := by decide +kernel
abbrev cX5_init : ByteArray := prog_1_method_1_code
def yX5_init : MethodName := ⟨RX5, "<init>", "()V"⟩
abbrev cX5_octet : ByteArray := prog_1_method_2_code
def yX5_octet : MethodName := ⟨RX5, "octet", "(II)I"⟩
abbrev cX5_answer : ByteArray := prog_1_method_3_code
def yX5_answer : MethodName := ⟨RX5, "answer", "(II)I"⟩
abbrev cX5_reset : ByteArray := prog_1_method_4_code
def yX5_reset : MethodName := ⟨RX5, "reset", "(I)I"⟩
abbrev cX5_offline : ByteArray := prog_1_method_5_code
def yX5_offline : MethodName := ⟨RX5, "offline", "(IIII)I"⟩
abbrev cX5_join : ByteArray := prog_1_method_6_code
def yX5_join : MethodName := ⟨RX5, "join", "(I)I"⟩
abbrev cX5_owes : ByteArray := prog_1_method_7_code
def yX5_owes : MethodName := ⟨RX5, "owes", "(II)I"⟩
abbrev cX5_acts : ByteArray := prog_1_method_8_code
def yX5_acts : MethodName := ⟨RX5, "acts", "()I"⟩
abbrev cX5_act : ByteArray := prog_1_method_9_code
def yX5_act : MethodName := ⟨RX5, "act", "(II)I"⟩
abbrev cX5_sum : ByteArray := prog_1_method_10_code
def yX5_sum : MethodName := ⟨RX5, "sum", "(I)I"⟩
abbrev cX5_state : ByteArray := prog_1_method_11_code
def yX5_state : MethodName := ⟨RX5, "state", "(II)I"⟩
abbrev cX5_waits : ByteArray := prog_1_method_12_code
def yX5_waits : MethodName := ⟨RX5, "waits", "(II)I"⟩
abbrev cX5_endMessage : ByteArray := prog_1_method_13_code
def yX5_endMessage : MethodName := ⟨RX5, "endMessage", "(ILExchangeWire$Line;)V"⟩
abbrev cX5_doMessage : ByteArray := prog_1_method_14_code
def yX5_doMessage : MethodName := ⟨RX5, "doMessage", "(ILExchangeWire$Line;)V"⟩
abbrev cX5_carryOut : ByteArray := prog_1_method_15_code
def yX5_carryOut : MethodName := ⟨RX5, "carryOut", "(I)Z"⟩
abbrev cX5_isBelow : ByteArray := prog_1_method_16_code
def yX5_isBelow : MethodName := ⟨RX5, "isBelow", "(II)Z"⟩
abbrev cX5_isDigit : ByteArray := prog_1_method_17_code
def yX5_isDigit : MethodName := ⟨RX5, "isDigit", "(I)Z"⟩
abbrev cX5_hexDigit : ByteArray := prog_1_method_18_code
def yX5_hexDigit : MethodName := ⟨RX5, "hexDigit", "(I)I"⟩
abbrev cX5_sumOf : ByteArray := prog_1_method_19_code
def yX5_sumOf : MethodName := ⟨RX5, "sumOf", "([II)I"⟩
def RX6 : String := "ExchangeWireModel"
def TX6 : u_T := fun k => match k with
  | 0 => ("ExchangeWireModel", "thrown", "I", false)
  | 1 => ("ExchangeWireModel", "size", "[I", true)
  | 2 => ("ExchangeWireModel", "line", "[B", true)
  | 3 => ("ExchangeWireModel", "broken", "[Z", true)
  | 4 => ("ExchangeWireModel", "signed", "[Z", true)
  | 5 => ("ExchangeWireModel", "done", "[I", true)
  | 6 => ("ExchangeWireModel", "wrongs", "[I", true)
  | 7 => ("ExchangeWireModel", "told", "[I", true)
  | 8 => ("ExchangeWireModel", "answers", "[B", true)
  | 9 => ("ExchangeWireModel", "kept", "[I", true)
  | 10 => ("ExchangeWireModel", "keeps", "[B", true)
  | 11 => ("ExchangeWireModel", "rows", "[I", true)
  | 12 => ("ExchangeWireModel", "rowKind", "[I", true)
  | 13 => ("ExchangeWireModel", "rowItem", "[I", true)
  | 14 => ("ExchangeWireModel", "rowPerson", "[I", true)
  | 15 => ("ExchangeWireModel", "owes", "[I", true)
  | 16 => ("ExchangeWireModel", "lent", "[I", true)
  | 17 => ("ExchangeWireModel", "renewed", "[I", true)
  | 18 => ("ExchangeWireModel", "waiting", "[I", true)
  | 19 => ("ExchangeWireModel", "waits", "[I", true)
  | 20 => ("ExchangeWireModel", "acts", "I", false)
  | 21 => ("ExchangeWireModel", "actRow", "[I", true)
  | 22 => ("ExchangeWireModel", "summed", "I", false)
  | 23 => ("ExchangeWireModel", "at", "I", false)
  | 24 => ("ExchangeWireModel", "kind", "I", false)
  | 25 => ("ExchangeWireModel", "number", "I", false)
  | 26 => ("ExchangeWireModel", "person", "I", false)
  | 27 => ("ExchangeWireModel", "item", "I", false)
  | 28 => ("ExchangeWireModel", "cents", "I", false)
  | _ => ("ExchangeWireModel", "verdict", "Z", false)
def tyX6 : Nat → FieldType := fun k => match k with
  | 0 => .int
  | 1 => .array .int
  | 2 => .array .byte
  | 3 => .array .boolean
  | 4 => .array .boolean
  | 5 => .array .int
  | 6 => .array .int
  | 7 => .array .int
  | 8 => .array .byte
  | 9 => .array .int
  | 10 => .array .byte
  | 11 => .array .int
  | 12 => .array .int
  | 13 => .array .int
  | 14 => .array .int
  | 15 => .array .int
  | 16 => .array .int
  | 17 => .array .int
  | 18 => .array .int
  | 19 => .array .int
  | 20 => .int
  | 21 => .array .int
  | 22 => .int
  | 23 => .int
  | 24 => .int
  | 25 => .int
  | 26 => .int
  | 27 => .int
  | 28 => .int
  | _ => .boolean
theorem nmX6 : ∀ a, a < 30 → ∀ b, b < 30 → a ≠ b → (TX6 a).2.1 ≠ (TX6 b).2.1 := by decide +kernel
theorem tyX6_ok : ∀ k, k < 30 → parseFieldDescriptor (TX6 k).2.2.1 = some (tyX6 k) := by decide +kernel
abbrev cX6_init : ByteArray := prog_8_method_1_code
def yX6_init : MethodName := ⟨RX6, "<init>", "()V"⟩
abbrev cX6_thrown : ByteArray := prog_8_method_2_code
def yX6_thrown : MethodName := ⟨RX6, "thrown", "()I"⟩
abbrev cX6_in : ByteArray := prog_8_method_3_code
def yX6_in : MethodName := ⟨RX6, "in", "(III)Z"⟩
abbrev cX6_isDevice : ByteArray := prog_8_method_4_code
def yX6_isDevice : MethodName := ⟨RX6, "isDevice", "(I)Z"⟩
abbrev cX6_look : ByteArray := prog_8_method_5_code
def yX6_look : MethodName := ⟨RX6, "look", "(I)I"⟩
abbrev cX6_isKind : ByteArray := prog_8_method_6_code
def yX6_isKind : MethodName := ⟨RX6, "isKind", "(I)Z"⟩
abbrev cX6_hasPerson : ByteArray := prog_8_method_7_code
def yX6_hasPerson : MethodName := ⟨RX6, "hasPerson", "(I)Z"⟩
abbrev cX6_hasItem : ByteArray := prog_8_method_8_code
def yX6_hasItem : MethodName := ⟨RX6, "hasItem", "(I)Z"⟩
abbrev cX6_field : ByteArray := prog_8_method_9_code
def yX6_field : MethodName := ⟨RX6, "field", "(II)I"⟩
abbrev cX6_hex : ByteArray := prog_8_method_10_code
def yX6_hex : MethodName := ⟨RX6, "hex", "(I)I"⟩
abbrev cX6_digit : ByteArray := prog_8_method_11_code
def yX6_digit : MethodName := ⟨RX6, "digit", "(I)I"⟩
abbrev cX6_reads : ByteArray := prog_8_method_12_code
def yX6_reads : MethodName := ⟨RX6, "reads", "(I)Z"⟩
abbrev cX6_put : ByteArray := prog_8_method_13_code
def yX6_put : MethodName := ⟨RX6, "put", "(II)V"⟩
abbrev cX6_close : ByteArray := prog_8_method_14_code
def yX6_close : MethodName := ⟨RX6, "close", "(I)V"⟩
abbrev cX6_finish : ByteArray := prog_8_method_15_code
def yX6_finish : MethodName := ⟨RX6, "finish", "(IZ)V"⟩
abbrev cX6_again : ByteArray := prog_8_method_16_code
def yX6_again : MethodName := ⟨RX6, "again", "(I)V"⟩
abbrev cX6_bad : ByteArray := prog_8_method_17_code
def yX6_bad : MethodName := ⟨RX6, "bad", "()I"⟩
abbrev cX6_answers : ByteArray := prog_8_method_18_code
def yX6_answers : MethodName := ⟨RX6, "answers", "(I)V"⟩
abbrev cX6_items : ByteArray := prog_8_method_19_code
def yX6_items : MethodName := ⟨RX6, "items", "(I)I"⟩
abbrev cX6_placeOf : ByteArray := prog_8_method_20_code
def yX6_placeOf : MethodName := ⟨RX6, "placeOf", "(II)I"⟩
abbrev cX6_enter : ByteArray := prog_8_method_21_code
def yX6_enter : MethodName := ⟨RX6, "enter", "(IIIII)V"⟩
abbrev cX6_lends : ByteArray := prog_8_method_22_code
def yX6_lends : MethodName := ⟨RX6, "lends", "(II)I"⟩
abbrev cX6_brings : ByteArray := prog_8_method_23_code
def yX6_brings : MethodName := ⟨RX6, "brings", "(II)I"⟩
abbrev cX6_judge : ByteArray := prog_8_method_24_code
def yX6_judge : MethodName := ⟨RX6, "judge", "(II)I"⟩
abbrev cX6_octet : ByteArray := prog_8_method_25_code
def yX6_octet : MethodName := ⟨RX6, "octet", "(II)I"⟩
abbrev cX6_answer : ByteArray := prog_8_method_26_code
def yX6_answer : MethodName := ⟨RX6, "answer", "(II)I"⟩
abbrev cX6_reset : ByteArray := prog_8_method_27_code
def yX6_reset : MethodName := ⟨RX6, "reset", "(I)I"⟩
abbrev cX6_offline : ByteArray := prog_8_method_28_code
def yX6_offline : MethodName := ⟨RX6, "offline", "(IIII)I"⟩
abbrev cX6_join : ByteArray := prog_8_method_29_code
def yX6_join : MethodName := ⟨RX6, "join", "(I)I"⟩
abbrev cX6_owes : ByteArray := prog_8_method_30_code
def yX6_owes : MethodName := ⟨RX6, "owes", "(II)I"⟩
abbrev cX6_acts : ByteArray := prog_8_method_31_code
def yX6_acts : MethodName := ⟨RX6, "acts", "()I"⟩
abbrev cX6_act : ByteArray := prog_8_method_32_code
def yX6_act : MethodName := ⟨RX6, "act", "(II)I"⟩
abbrev cX6_sum : ByteArray := prog_8_method_33_code
def yX6_sum : MethodName := ⟨RX6, "sum", "(I)I"⟩
abbrev cX6_state : ByteArray := prog_8_method_34_code
def yX6_state : MethodName := ⟨RX6, "state", "(II)I"⟩
abbrev cX6_waits : ByteArray := prog_8_method_35_code
def yX6_waits : MethodName := ⟨RX6, "waits", "(II)I"⟩
def RJx00060 : String := "java/lang/ArrayIndexOutOfBoundsException"
def TJx00060 : u_T := fun k => match k with
  | 0 => ("java/lang/Throwable", "cause", "Ljava/lang/Throwable;", false)
  | 1 => ("java/lang/Throwable", "stackTrace", "[Ljava/lang/StackTraceElement;", false)
  | 2 => ("java/lang/Throwable", "suppressedExceptions", "Ljava/util/List;", false)
  | 3 => ("java/lang/Throwable", "detailMessage", "Ljava/lang/String;", false)
  | 4 => ("java/lang/Throwable", "backtrace", "Ljava/lang/Object;", false)
  | _ => ("java/lang/Throwable", "depth", "I", false)
def tyJx00060 : Nat → FieldType := fun k => match k with
  | 0 => .object "java/lang/Throwable"
  | 1 => .array (.object "java/lang/StackTraceElement")
  | 2 => .object "java/util/List"
  | 3 => .object "java/lang/String"
  | 4 => .object "java/lang/Object"
  | _ => .int
theorem nmJx00060 : ∀ a, a < 6 → ∀ b, b < 6 → a ≠ b → (TJx00060 a).2.1 ≠ (TJx00060 b).2.1 := by decide +kernel
theorem tyJx00060_ok : ∀ k, k < 6 → parseFieldDescriptor (TJx00060 k).2.2.1 = some (tyJx00060 k) := by decide +kernel
abbrev cJx00060_init_a7421 : ByteArray := prog_9_method_2_code
def yJx00060_init_a7421 : MethodName := ⟨RJx00060, "<init>", "(Ljava/lang/String;)V"⟩
def RJ9 : String := "java/lang/Math"
def TJ9 : u_T := fun k => match k with
  | _ => ("", "", "", false)
def tyJ9 : Nat → FieldType := fun k => match k with
  | _ => .int
theorem nmJ9 : ∀ a, a < 0 → ∀ b, b < 0 → a ≠ b → (TJ9 a).2.1 ≠ (TJ9 b).2.1 := by decide +kernel
theorem tyJ9_ok : ∀ k, k < 0 → parseFieldDescriptor (TJ9 k).2.2.1 = some (tyJ9 k) := by decide +kernel
abbrev cJ9_min_7cf53 : ByteArray := prog_12_method_69_code
def yJ9_min_7cf53 : MethodName := ⟨RJ9, "min", "(II)I"⟩
def RJ0 : String := "java/lang/String"
def TJ0 : u_T := fun k => match k with
  | _ => ("", "", "", false)
def tyJ0 : Nat → FieldType := fun k => match k with
  | _ => .int
theorem nmJ0 : ∀ a, a < 0 → ∀ b, b < 0 → a ≠ b → (TJ0 a).2.1 ≠ (TJ0 b).2.1 := by decide +kernel
theorem tyJ0_ok : ∀ k, k < 0 → parseFieldDescriptor (TJ0 k).2.2.1 = some (tyJ0 k) := by decide +kernel
abbrev cJ0_length_8abf5 : ByteArray := prog_14_method_54_code
def yJ0_length_8abf5 : MethodName := ⟨RJ0, "length", "()I"⟩
abbrev cJ0_charAt_5068e : ByteArray := prog_14_method_56_code
def yJ0_charAt_5068e : MethodName := ⟨RJ0, "charAt", "(I)C"⟩
abbrev cJ0_coder_7d493 : ByteArray := prog_14_method_152_code
def yJ0_coder_7d493 : MethodName := ⟨RJ0, "coder", "()B"⟩
abbrev cJ0_isLatin1_aae02 : ByteArray := prog_14_method_154_code
def yJ0_isLatin1_aae02 : MethodName := ⟨RJ0, "isLatin1", "()Z"⟩
abbrev cJ0_checkIndex_df160 : ByteArray := prog_14_method_155_code
def yJ0_checkIndex_df160 : MethodName := ⟨RJ0, "checkIndex", "(II)V"⟩
def RJ1 : String := "java/lang/StringLatin1"
def TJ1 : u_T := fun k => match k with
  | _ => ("", "", "", false)
def tyJ1 : Nat → FieldType := fun k => match k with
  | _ => .int
theorem nmJ1 : ∀ a, a < 0 → ∀ b, b < 0 → a ≠ b → (TJ1 a).2.1 ≠ (TJ1 b).2.1 := by decide +kernel
theorem tyJ1_ok : ∀ k, k < 0 → parseFieldDescriptor (TJ1 k).2.2.1 = some (tyJ1 k) := by decide +kernel
abbrev cJ1_charAt_3b067 : ByteArray := prog_15_method_2_code
def yJ1_charAt_3b067 : MethodName := ⟨RJ1, "charAt", "([BI)C"⟩
def RJ2 : String := "java/lang/StringUTF16"
def TJ2 : u_T := fun k => match k with
  | _ => ("", "", "", false)
def tyJ2 : Nat → FieldType := fun k => match k with
  | _ => .int
theorem nmJ2 : ∀ a, a < 0 → ∀ b, b < 0 → a ≠ b → (TJ2 a).2.1 ≠ (TJ2 b).2.1 := by decide +kernel
theorem tyJ2_ok : ∀ k, k < 0 → parseFieldDescriptor (TJ2 k).2.2.1 = some (tyJ2 k) := by decide +kernel
abbrev cJ2_getChar_3b067 : ByteArray := prog_16_method_5_code
def yJ2_getChar_3b067 : MethodName := ⟨RJ2, "getChar", "([BI)C"⟩
abbrev cJ2_length_9d52b : ByteArray := prog_16_method_6_code
def yJ2_length_9d52b : MethodName := ⟨RJ2, "length", "([B)I"⟩
abbrev cJ2_charAt_3b067 : ByteArray := prog_16_method_83_code
def yJ2_charAt_3b067 : MethodName := ⟨RJ2, "charAt", "([BI)C"⟩
abbrev cJ2_checkIndex_2214a : ByteArray := prog_16_method_91_code
def yJ2_checkIndex_2214a : MethodName := ⟨RJ2, "checkIndex", "(I[B)V"⟩
def RJ10 : String := "java/lang/System"
def TJ10 : u_T := fun k => match k with
  | _ => ("", "", "", false)
def tyJ10 : Nat → FieldType := fun k => match k with
  | _ => .int
theorem nmJ10 : ∀ a, a < 0 → ∀ b, b < 0 → a ≠ b → (TJ10 a).2.1 ≠ (TJ10 b).2.1 := by decide +kernel
theorem tyJ10_ok : ∀ k, k < 0 → parseFieldDescriptor (TJ10 k).2.2.1 = some (tyJ10 k) := by decide +kernel
def RJ3 : String := "jdk/internal/util/Preconditions"
def TJ3 : u_T := fun k => match k with
  | _ => ("", "", "", false)
def tyJ3 : Nat → FieldType := fun k => match k with
  | _ => .int
theorem nmJ3 : ∀ a, a < 0 → ∀ b, b < 0 → a ≠ b → (TJ3 a).2.1 ≠ (TJ3 b).2.1 := by decide +kernel
theorem tyJ3_ok : ∀ k, k < 0 → parseFieldDescriptor (TJ3 k).2.2.1 = some (tyJ3 k) := by decide +kernel
abbrev cJ3_checkIndex_8e157 : ByteArray := prog_19_method_11_code
def yJ3_checkIndex_8e157 : MethodName := ⟨RJ3, "checkIndex", "(IILjava/util/function/BiFunction;)I"⟩
def RL : String := "ExchangeWireLaw"
abbrev cL_answer : ByteArray := method_3_code
def yL_answer : MethodName := ⟨RL, "answer", "(LExchangeWire;II[J)I"⟩
abbrev cL_law : ByteArray := code
def yL_law : MethodName := ⟨RL, "law", "([I)Z"⟩
abbrev classes : List vw_C := [(RX0, TX0, 5), (RX1, TX1, 2), (RX2, TX2, 12), (RX3, TX3, 5), (RX4, TX4, 2), (RX5, TX5, 5), (RX6, TX6, 30)]
abbrev ctypes : List (Nat → FieldType) := [tyX0, tyX1, tyX2, tyX3, tyX4, tyX5, tyX6]
abbrev xty : List FieldType := [.long, .int, .byte, .boolean, .object "ExchangeWire$Line", .array .int]
def xnw : List Cond := [(Jvm.Cond.methodLinkNest "ExchangeWire" (15 : Nat) ({ cls := "ExchangeWire$Line", name := "<init>", desc := "()V" } : Jvm.MethodName) "ExchangeWire"), (Jvm.Cond.methodLinkNest "ExchangeWire$Line" (34 : Nat) ({ cls := "ExchangeWire$Reply", name := "<init>", desc := "()V" } : Jvm.MethodName) "ExchangeWire"), (Jvm.Cond.methodLinkNest "ExchangeWire" (25 : Nat) ({ cls := "ExchangeWire$Journal", name := "<init>", desc := "()V" } : Jvm.MethodName) "ExchangeWire"), (Jvm.Cond.methodLinkNest "ExchangeWire" (32 : Nat) ({ cls := "ExchangeWire$Message", name := "<init>", desc := "()V" } : Jvm.MethodName) "ExchangeWire"), (Jvm.Cond.methodLinkNest "ExchangeWire$Line" (54 : Nat) ({ cls := "ExchangeWire", name := "isBelow", desc := "(II)Z" } : Jvm.MethodName) "ExchangeWire"), (Jvm.Cond.methodLinkNest "ExchangeWire$Message" (34 : Nat) ({ cls := "ExchangeWire", name := "isDigit", desc := "(I)Z" } : Jvm.MethodName) "ExchangeWire"), (Jvm.Cond.methodLinkNest "ExchangeWire$Message" (84 : Nat) ({ cls := "ExchangeWire", name := "sumOf", desc := "([II)I" } : Jvm.MethodName) "ExchangeWire"), (Jvm.Cond.methodLinkNest "ExchangeWire$Message" (88 : Nat) ({ cls := "ExchangeWire", name := "hexDigit", desc := "(I)I" } : Jvm.MethodName) "ExchangeWire"), (Jvm.Cond.methodLinkNest "ExchangeWire$Reply" (47 : Nat) ({ cls := "ExchangeWire", name := "sumOf", desc := "([II)I" } : Jvm.MethodName) "ExchangeWire"), (Jvm.Cond.methodLinkNest "ExchangeWire$Reply" (51 : Nat) ({ cls := "ExchangeWire", name := "hexDigit", desc := "(I)I" } : Jvm.MethodName) "ExchangeWire"), (Jvm.Cond.methodLinkNest "ExchangeWire$Message" (79 : Nat) ({ cls := "ExchangeWire", name := "isBelow", desc := "(II)Z" } : Jvm.MethodName) "ExchangeWire"), (Jvm.Cond.methodLinkNest "ExchangeWire$House" (72 : Nat) ({ cls := "ExchangeWire", name := "isBelow", desc := "(II)Z" } : Jvm.MethodName) "ExchangeWire"), (Jvm.Cond.methodLinkNest "ExchangeWire$Journal" (19 : Nat) ({ cls := "ExchangeWire", name := "isBelow", desc := "(II)Z" } : Jvm.MethodName) "ExchangeWire")]
end
section
/-! The block: cells at b, b + 1 ..; a shape says what each is, a table of ints what it holds. -/
abbrev xS : Type := (Nat × List (Option (Option Nat))) ⊕ (Nat × Nat × Option (List (Option Nat)))
abbrev xM : Type := Nat → Nat → Int32
abbrev xD : Type := (va_G × (Nat → ClassId)) × Nat
def xfs (b : Nat) (f : Nat → Int32) : List (Option (Option Nat)) → Nat → List Value
  | [], _ => []
  | none :: r, j => Value.int (f j) :: xfs b f r (j + 1)
  | some none :: r, j => Value.null :: xfs b f r (j + 1)
  | some (some k) :: r, j => Value.ref (b + k) :: xfs b f r (j + 1)
theorem xfs_len (b : Nat) (f : Nat → Int32) : ∀ (fl : List (Option (Option Nat))) (i : Nat), (xfs b f fl i).length = fl.length
  | [], _ => rfl
  | none :: r, j => by simp [xfs, xfs_len b f r]
  | some none :: r, j => by simp [xfs, xfs_len b f r]
  | some (some k) :: r, j => by simp [xfs, xfs_len b f r]
def xval (b : Nat) (o : Option (Option Nat)) (x : Int32) : Value := match o with
  | none => .int x
  | some none => .null
  | some (some k) => .ref (b + k)
theorem xfs_get (b : Nat) (f : Nat → Int32) : ∀ (fl : List (Option (Option Nat))) (i j : Nat) (o : Option (Option Nat)), fl[j]? = some o → (xfs b f fl i)[j]? = some (xval b o (f (i + j)))
  | [], i, j, o, h => by simp at h
  | a :: r, i, 0, o, h => by
    have h : a = o := by simpa using h
    subst h
    match a with
    | none => rfl
    | some none => rfl
    | some (some k) => rfl
  | a :: r, i, j + 1, o, h => by
    have ih := xfs_get b f r (i + 1) j o (by simpa using h)
    rw [show i + 1 + j = i + (j + 1) by omega] at ih
    match a with
    | none => simpa [xfs] using ih
    | some none => simpa [xfs] using ih
    | some (some k) => simpa [xfs] using ih
theorem xfs_set (b : Nat) (f : Nat → Int32) (o : Option (Option Nat)) (x : Int32) : ∀ (fl : List (Option (Option Nat))) (i j : Nat), xfs b (upd f (i + j) x) (fl.set j o) i = (xfs b f fl i).set j (xval b o x)
  | [], i, j => by simp [xfs]
  | a :: r, i, 0 => by
    have e : ∀ (fl : List (Option (Option Nat))) (k : Nat), i < k → xfs b (upd f i x) fl k = xfs b f fl k := by
      intro fl
      induction fl with
      | nil => intro k _; rfl
      | cons a r ih =>
        intro k hk
        match a with
        | none => simp [xfs, ih (k + 1) (by omega), upd, Nat.ne_of_gt hk]
        | some none => simp [xfs, ih (k + 1) (by omega)]
        | some (some z) => simp [xfs, ih (k + 1) (by omega)]
    match a, o with
    | none, none => simp [xfs, xval, e r (i + 1) (by omega), upd]
    | none, some none => simp [xfs, xval, e r (i + 1) (by omega), upd]
    | none, some (some z) => simp [xfs, xval, e r (i + 1) (by omega), upd]
    | some none, none => simp [xfs, xval, e r (i + 1) (by omega), upd]
    | some none, some none => simp [xfs, xval, e r (i + 1) (by omega), upd]
    | some none, some (some z) => simp [xfs, xval, e r (i + 1) (by omega), upd]
    | some (some y), none => simp [xfs, xval, e r (i + 1) (by omega), upd]
    | some (some y), some none => simp [xfs, xval, e r (i + 1) (by omega), upd]
    | some (some y), some (some z) => simp [xfs, xval, e r (i + 1) (by omega), upd]
  | a :: r, i, j + 1 => by
    have ih := xfs_set b f o x r (i + 1) j
    rw [show i + 1 + j = i + (j + 1) by omega] at ih
    have hn : i ≠ i + (j + 1) := by omega
    match a with
    | none => simp [xfs, ih, upd]
    | some none => simp [xfs, ih]
    | some (some k) => simp [xfs, ih]
def xpic (X : xD) (s : xS) (f : Nat → Int32) : va_E := match s with
  | .inl (ci, fl) => .inr (ci, xfs X.2 f fl 0)
  | .inr (ti, n, none) => .inl (X.1.2 ti, n, if ti = 0 then .inr (.inl (fun j => (f j).toInt64)) else .inl f)
  | .inr (ti, n, some g) => .inl (X.1.2 ti, n, .inr (.inr (.inr (.inr (fun i => (g.getD i none).map (X.2 + ·))))))
def xwl (X : xD) (sh : List xS) (μ : xM) : va_W := sh.mapIdx fun k s => (X.2 + k, xpic X s (μ k))
theorem xwl_get {X : xD} {sh : List xS} {k : Nat} {s : xS} (μ : xM) (h : sh[k]? = some s) : (xwl X sh μ)[k]? = some (X.2 + k, xpic X s (μ k)) := by
  simp [xwl, List.getElem?_mapIdx, h]
theorem xwl_len (X : xD) (sh : List xS) (μ : xM) : (xwl X sh μ).length = sh.length := by simp [xwl]
theorem xwl_of {X : xD} {sh : List xS} {μ : xM} {k : Nat} {q : Nat × va_E} (h : (xwl X sh μ)[k]? = some q) : ∃ s, sh[k]? = some s ∧ q = (X.2 + k, xpic X s (μ k)) := by
  simp only [xwl, List.getElem?_mapIdx] at h
  cases hs : sh[k]? with
  | none => rw [hs] at h; cases h
  | some s => rw [hs] at h; exact ⟨s, rfl, (Option.some.inj h).symm⟩
theorem xwl_set {X : xD} {sh : List xS} {μ : xM} {k : Nat} {s' : xS} {f : Nat → Int32} (hk : k < sh.length) : (xwl X sh μ).set k (X.2 + k, xpic X s' f) = xwl X (sh.set k s') (va_up μ k f) := by
  apply List.ext_getElem?
  intro i
  by_cases hi : i = k
  · subst hi
    simp [xwl, List.getElem?_mapIdx, va_up, hk]
  · rw [List.getElem?_set_ne (fun h => hi h.symm)]
    simp [xwl, List.getElem?_mapIdx, va_up, hi, List.getElem?_set_ne (fun h => hi h.symm : k ≠ i)]
theorem xwl_push {X : xD} {sh : List xS} {μ : xM} {s' : xS} {f : Nat → Int32} : xwl X sh μ ++ [(X.2 + sh.length, xpic X s' f)] = xwl X (sh ++ [s']) (va_up μ sh.length f) := by
  apply List.ext_getElem?
  intro i
  by_cases hi : i < sh.length
  · have hs : sh[i]? = some sh[i] := List.getElem?_eq_getElem hi
    rw [List.getElem?_append_left (by rw [xwl_len]; exact hi), xwl_get μ hs, xwl_get _ ((List.getElem?_append_left hi).trans hs)]
    simp [va_up, Nat.ne_of_lt hi]
  · rw [List.getElem?_append_right (by rw [xwl_len]; omega), xwl_len]
    by_cases he : i = sh.length
    · subst he
      rw [xwl_get _ (s := s') (by simp)]
      simp [va_up]
    · rw [List.getElem?_eq_none (by simp; omega), List.getElem?_eq_none (by rw [xwl_len]; simp; omega)]
def xA (b n0 : Nat) (fr : Bool) : Nat → Prop := fun q => b ≤ q ∧ (fr = true ∨ q < b + n0)
theorem xwl_D {X : xD} {sh : List xS} {μ : xM} {n0 : Nat} {fr : Bool} (h : fr = false → sh.length = n0) : va_D (xA X.2 n0 fr) (xwl X sh μ) := by
  refine ⟨fun i j p q hp hq e => ?_, fun k q hq => ?_⟩
  · obtain ⟨s1, -, rfl⟩ := xwl_of hp
    obtain ⟨s2, -, rfl⟩ := xwl_of hq
    have e : X.2 + i = X.2 + j := e
    omega
  · obtain ⟨s1, h1, rfl⟩ := xwl_of hq
    have hl := (List.getElem?_eq_some_iff.mp h1).1
    refine ⟨Nat.le_add_right _ _, ?_⟩
    cases fr with
    | true => exact Or.inl rfl
    | false => exact Or.inr (by have := h rfl; show X.2 + k < X.2 + n0; omega)
/-! locals by place -/
def xlv : List (Option Value) → Nat → List (Nat × Value)
  | [], _ => []
  | none :: r, i => xlv r (i + 1)
  | some v :: r, i => (i, v) :: xlv r (i + 1)
theorem xlv_mem : ∀ (L : List (Option Value)) (i : Nat) (q : Nat × Value), q ∈ xlv L i ↔ ∃ j, L[j]? = some (some q.2) ∧ q.1 = i + j
  | [], i, q => by simp [xlv]
  | none :: r, i, q => by
    rw [show xlv (none :: r) i = xlv r (i + 1) from rfl, xlv_mem r (i + 1) q]
    constructor
    · rintro ⟨j, h1, h2⟩
      exact ⟨j + 1, by simpa using h1, by omega⟩
    · rintro ⟨j, h1, h2⟩
      match j, h1, h2 with
      | 0, h1, _ => simp at h1
      | j + 1, h1, h2 => exact ⟨j, by simpa using h1, by omega⟩
  | some v :: r, i, q => by
    rw [show xlv (some v :: r) i = (i, v) :: xlv r (i + 1) from rfl, List.mem_cons, xlv_mem r (i + 1) q]
    constructor
    · rintro (rfl | ⟨j, h1, h2⟩)
      · exact ⟨0, rfl, rfl⟩
      · exact ⟨j + 1, by simpa using h1, by omega⟩
    · rintro ⟨j, h1, h2⟩
      match j, h1, h2 with
      | 0, h1, h2 =>
        have h1 : v = q.2 := by simpa using h1
        exact Or.inl (Prod.ext (by omega) h1.symm)
      | j + 1, h1, h2 => exact Or.inr ⟨j, by simpa using h1, by omega⟩
def xL (ls : Array Slot) (nL : Nat) (L : List (Option Value)) : Prop := lv_has ls nL (xlv L 0) ∧ ∀ (j : Nat) (v : Value), L[j]? = some (some v) → v.category = 1
theorem xL_at {ls : Array Slot} {nL i : Nat} {L : List (Option Value)} {v : Value} (h : xL ls nL L) (hi : L[i]? = some (some v)) : ls[i]? = some (.val v) :=
  h.1.2.2 (i, v) ((xlv_mem L 0 (i, v)).mpr ⟨i, hi, (Nat.zero_add i).symm⟩)
theorem xL_set {ls : Array Slot} {nL i : Nat} {L : List (Option Value)} {v : Value} (h : xL ls nL L) (hv : v.category = 1) {ls' : Array Slot} (hl' : lv_has ls' nL ((i, v) :: (xlv L 0).filter (fun q => !(q.1 == i) && !(q.1 + 1 == i && q.2.category == 2)))) : xL ls' nL (L.set i (some v)) := by
  refine ⟨⟨hl'.1, hl'.2.1, fun q hq => ?_⟩, fun j w hj => ?_⟩
  · obtain ⟨j, h1, h2⟩ := (xlv_mem _ _ _).mp hq
    refine hl'.2.2 q ?_
    by_cases hj : i = j
    · subst hj
      have hlt : i < L.length := by
        have := (List.getElem?_eq_some_iff.mp h1).1
        simpa using this
      rw [List.getElem?_set_self hlt] at h1
      have h1 : v = q.2 := by simpa using h1
      exact List.mem_cons.mpr (Or.inl (Prod.ext (by omega) h1.symm))
    · rw [List.getElem?_set_ne hj] at h1
      refine List.mem_cons_of_mem _ (List.mem_filter.mpr ⟨(xlv_mem _ _ _).mpr ⟨j, h1, h2⟩, ?_⟩)
      have hc := h.2 j _ h1
      have hn : ¬ q.1 = i := by omega
      simp [hn, hc]
  · by_cases hi : i = j
    · subst hi
      have hlt : i < L.length := by
        have := (List.getElem?_eq_some_iff.mp hj).1
        simpa using this
      rw [List.getElem?_set_self hlt] at hj
      have hj : v = w := by simpa using hj
      exact hj ▸ hv
    · rw [List.getElem?_set_ne hi] at hj
      exact h.2 j w hj
end
section
/-! The walk of a method over the block: 'sx .. pc L st sh μ': from pc on, with locals L, stack st, shape sh, table μ, the machine comes to what Z asks. -/
abbrev xK : Type := String × ByteArray × Nat × Option FieldType × Bool
def xws : List Cond := lw_tbl.filter goodWord
def xtys (X : xD) : List (ClassId × FieldType) := xty.mapIdx fun i t => (X.1.2 i, t)
theorem xtys_at {X : xD} {i : Nat} {t : FieldType} (h : xty[i]? = some t) : (xtys X)[i]? = some (X.1.2 i, t) := by
  unfold xtys
  rw [List.getElem?_mapIdx, h]
  rfl
def xC (X : xD) (Ex : State → Prop) (fr : Bool) (K : xK) (n0 : Nat) (p : Program) (s : State) (m : MethodId) (args : Array Value) (meth : Method) (c : Code) : Prop :=
  p.tables.exec = Jvm.exec ∧ c.code = K.2.1 ∧ c.maxLocals = K.2.2.1 ∧ meth.sig.returnType = K.2.2.2.1 ∧ meth.locks = false ∧ s.vm.findClass K.1 = some m.cls ∧ (∀ w ∈ xws, w.before args s = true) ∧ (∀ w ∈ xnw, va_Nw w s) ∧ va_K X.1.1 classes (xtys X) s ∧ Ex s ∧ (fr = true → s.heap.size = X.2 + n0) ∧ (K.2.2.2.2 = true → meth.name = "<init>")
def xH (X : xD) (fr : Bool) (n0 : Nat) (sh : List xS) (μ : xM) (s : State) (H : Heap) (locs : List Loc) : Prop :=
  va_P X.1.1 classes (xwl X sh μ) H ∧ va_S (xA X.2 n0 fr) s.heap H locs ∧ n0 ≤ sh.length ∧ (fr = false → sh.length = n0) ∧ (fr = true → H.size = X.2 + sh.length)
def sx (l : Launch) (R : Room) (X : xD) (Ex : State → Prop) (fr : Bool) (K : xK) (n0 : Nat) (Z : List Frame → Array Value → State → State → Prop) (pc : Nat) (L : List (Option Value)) (st : List Value) (sh : List xS) (μ : xM) (cs ss : Nat) : Prop :=
  ∀ (p : Program) (e : Env) (s : State) (m : MethodId) (args : Array Value) (below : List Frame) (meth : Method) (c : Code) (H : Heap) (locs : List Loc) (ls : Array Slot),
    xC X Ex fr K n0 p s m args meth c → xH X fr n0 sh μ s H locs → xL ls K.2.2.1 L → W p l e R s m args below meth c H locs cs ss (Z below args s) (F0 m pc ls st)
def xup (μ : xM) (k j : Nat) (v : Int32) : xM := va_up μ k (upd (μ k) j v)
theorem xup_at (μ : xM) (k j : Nat) (v : Int32) (a b : Nat) : xup μ k j v a b = if a = k ∧ b = j then v else μ a b := by
  unfold xup va_up upd
  by_cases h1 : a = k
  · subst h1
    by_cases h2 : b = j <;> simp [h2]
  · simp [h1]
theorem xsame {α : Type} {l : List α} {k : Nat} {x : α} (h : l[k]? = some x) : l.set k x = l := by
  apply List.ext_getElem?
  intro i
  by_cases hi : k = i
  · subst hi
    rw [List.getElem?_set_self (List.getElem?_eq_some_iff.mp h).1, h]
  · rw [List.getElem?_set_ne hi]
def xcl_t (q : vw_C × (Nat → FieldType)) : Bool := (u_ws q.1.1 q.1.2.1 q.1.2.2).all (fun w => decide (w ∈ lw_tbl) && goodWord w) && (List.range q.1.2.2).all (fun k => decide (parseFieldDescriptor (q.1.2.1 k).2.2.1 = some (q.2 k))) && (List.range q.1.2.2).all (fun a => (List.range q.1.2.2).all (fun b => decide (a = b) || decide ((q.1.2.1 a).2.1 ≠ (q.1.2.1 b).2.1)))
theorem xcl_ok : ∀ (ci : Nat) (q : vw_C), classes[ci]? = some q → (∀ w ∈ u_ws q.1 q.2.1 q.2.2, w ∈ xws) ∧ ∃ ty : Nat → FieldType, (∀ k, k < q.2.2 → parseFieldDescriptor (q.2.1 k).2.2.1 = some (ty k)) ∧ (∀ a, a < q.2.2 → ∀ b, b < q.2.2 → a ≠ b → (q.2.1 a).2.1 ≠ (q.2.1 b).2.1) := by
  have h : (classes.zip ctypes).all xcl_t = true := by decide +kernel
  have hl : classes.length = ctypes.length := by decide +kernel
  intro ci q hq
  have hlt := (List.getElem?_eq_some_iff.mp hq).1
  have ht : ctypes[ci]? = some (ctypes[ci]'(by omega)) := List.getElem?_eq_getElem _
  have hz : (classes.zip ctypes)[ci]? = some (q, ctypes[ci]'(by omega)) := by
    rw [List.getElem?_zip_eq_some]; exact ⟨hq, ht⟩
  have h1 := List.all_eq_true.mp h _ (List.mem_of_getElem? hz)
  simp only [xcl_t, Bool.and_eq_true, List.all_eq_true, decide_eq_true_eq, Bool.or_eq_true, List.mem_range] at h1
  refine ⟨fun w hw => List.mem_filter.mpr ⟨(h1.1.1 w hw).1, (h1.1.1 w hw).2⟩, _, fun k hk => h1.1.2 k hk, fun a ha b hb hne => ?_⟩
  rcases h1.2 a ha b hb with h2 | h2
  · exact absurd h2 hne
  · exact h2
section SX
variable {l : Launch} {R : Room} {X : xD} {Ex : State → Prop} {fr : Bool} {K : xK} {n0 : Nat} {Z : List Frame → Array Value → State → State → Prop} {pc : Nat} {L : List (Option Value)} {st : List Value} {sh : List xS} {μ : xM} {cs ss : Nat}
theorem sx_iconst {n : Int} {v : Int32} (hd : decode K.2.1 pc = .ok (.iconst n, 1)) (hv : Int32.ofInt n = v)
    (kk : sx l R X Ex fr K n0 Z (pc + 1) L (.int v :: st) sh μ cs ss) : sx l R X Ex fr K n0 Z pc L (st) sh μ cs ss :=
  fun p e s m args below meth c H locs ls hC hH hL => lv_iconst hC.1 hC.2.1 hd hv (kk p e s m args below meth c H locs ls hC hH hL)
theorem sx_bipush {n : Int} {v : Int32} (hd : decode K.2.1 pc = .ok (.bipush n, 2)) (hv : (Int8.ofInt n).toInt32 = v)
    (kk : sx l R X Ex fr K n0 Z (pc + 2) L (.int v :: st) sh μ cs ss) : sx l R X Ex fr K n0 Z pc L (st) sh μ cs ss :=
  fun p e s m args below meth c H locs ls hC hH hL => lv_bipush hC.1 hC.2.1 hd hv (kk p e s m args below meth c H locs ls hC hH hL)
theorem sx_sipush {n : Int} {v : Int32} (hd : decode K.2.1 pc = .ok (.sipush n, 3)) (hv : (Int16.ofInt n).toInt32 = v)
    (kk : sx l R X Ex fr K n0 Z (pc + 3) L (.int v :: st) sh μ cs ss) : sx l R X Ex fr K n0 Z pc L (st) sh μ cs ss :=
  fun p e s m args below meth c H locs ls hC hH hL => lv_sipush hC.1 hC.2.1 hd hv (kk p e s m args below meth c H locs ls hC hH hL)
theorem sx_ldc {i : Nat} {v : Int32} (hd : decode K.2.1 pc = .ok (.ldc i, 2)) (hw : Jvm.Cond.constant K.1 i v ∈ xws)
    (kk : sx l R X Ex fr K n0 Z (pc + 2) L (.int v :: st) sh μ cs ss) : sx l R X Ex fr K n0 Z pc L (st) sh μ cs ss :=
  fun p e s m args below meth c H locs ls hC hH hL => lv_ldc hC.1 hC.2.1 hC.2.2.2.2.2.1 (hC.2.2.2.2.2.2.1 _ hw) hd (kk p e s m args below meth c H locs ls hC hH hL)
theorem sx_null  (hd : decode K.2.1 pc = .ok (.aconst_null, 1))
    (kk : sx l R X Ex fr K n0 Z (pc + 1) L (.null :: st) sh μ cs ss) : sx l R X Ex fr K n0 Z pc L (st) sh μ cs ss :=
  fun p e s m args below meth c H locs ls hC hH hL => lv_null hC.1 hC.2.1 hd (kk p e s m args below meth c H locs ls hC hH hL)
theorem sx_iload_n {k : Fin 4} {i : Nat} {x : Int32} (hd : decode K.2.1 pc = .ok (.iload_n k, 1)) (hi : (k : Nat) = i) (hx : L[i]? = some (some (.int x)))
    (kk : sx l R X Ex fr K n0 Z (pc + 1) L (.int x :: st) sh μ cs ss) : sx l R X Ex fr K n0 Z pc L (st) sh μ cs ss :=
  fun p e s m args below meth c H locs ls hC hH hL => lv_iload_n hC.1 hC.2.1 hd hi (xL_at hL hx) (kk p e s m args below meth c H locs ls hC hH hL)
theorem sx_iload {i : Nat} {x : Int32} (hd : decode K.2.1 pc = .ok (.iload i, 2)) (hx : L[i]? = some (some (.int x)))
    (kk : sx l R X Ex fr K n0 Z (pc + 2) L (.int x :: st) sh μ cs ss) : sx l R X Ex fr K n0 Z pc L (st) sh μ cs ss :=
  fun p e s m args below meth c H locs ls hC hH hL => lv_iload hC.1 hC.2.1 hd (xL_at hL hx) (kk p e s m args below meth c H locs ls hC hH hL)
theorem sx_aload_n {k : Fin 4} {i : Nat} {x : Nat} (hd : decode K.2.1 pc = .ok (.aload_n k, 1)) (hi : (k : Nat) = i) (hx : L[i]? = some (some (.ref x)))
    (kk : sx l R X Ex fr K n0 Z (pc + 1) L (.ref x :: st) sh μ cs ss) : sx l R X Ex fr K n0 Z pc L (st) sh μ cs ss :=
  fun p e s m args below meth c H locs ls hC hH hL => lv_aload_n hC.1 hC.2.1 hd hi (xL_at hL hx) (kk p e s m args below meth c H locs ls hC hH hL)
theorem sx_aload {i : Nat} {x : Nat} (hd : decode K.2.1 pc = .ok (.aload i, 2)) (hx : L[i]? = some (some (.ref x)))
    (kk : sx l R X Ex fr K n0 Z (pc + 2) L (.ref x :: st) sh μ cs ss) : sx l R X Ex fr K n0 Z pc L (st) sh μ cs ss :=
  fun p e s m args below meth c H locs ls hC hH hL => lv_aload hC.1 hC.2.1 hd (xL_at hL hx) (kk p e s m args below meth c H locs ls hC hH hL)
theorem sx_istore_n {k : Fin 4} {i : Nat} {x : Int32} {L' : List (Option Value)} (hd : decode K.2.1 pc = .ok (.istore_n k, 1)) (hi : (k : Nat) = i) (hn : i < K.2.2.1) (hq : L.set i (some (.int x)) = L')
    (kk : sx l R X Ex fr K n0 Z (pc + 1) L' (st) sh μ cs ss) : sx l R X Ex fr K n0 Z pc L (.int x :: st) sh μ cs ss :=
  fun p e s m args below meth c H locs ls hC hH hL => lv_istore_n hC.1 hC.2.1 hd hi hL.1 hn rfl (fun ls' hl' => kk p e s m args below meth c H locs ls' hC hH (hq ▸ xL_set hL rfl hl'))
theorem sx_istore {i : Nat} {x : Int32} {L' : List (Option Value)} (hd : decode K.2.1 pc = .ok (.istore i, 2)) (hn : i < K.2.2.1) (hq : L.set i (some (.int x)) = L')
    (kk : sx l R X Ex fr K n0 Z (pc + 2) L' (st) sh μ cs ss) : sx l R X Ex fr K n0 Z pc L (.int x :: st) sh μ cs ss :=
  fun p e s m args below meth c H locs ls hC hH hL => lv_istore hC.1 hC.2.1 hd hL.1 hn rfl (fun ls' hl' => kk p e s m args below meth c H locs ls' hC hH (hq ▸ xL_set hL rfl hl'))
theorem sx_astore_n {k : Fin 4} {i : Nat} {x : Nat} {L' : List (Option Value)} (hd : decode K.2.1 pc = .ok (.astore_n k, 1)) (hi : (k : Nat) = i) (hn : i < K.2.2.1) (hq : L.set i (some (.ref x)) = L')
    (kk : sx l R X Ex fr K n0 Z (pc + 1) L' (st) sh μ cs ss) : sx l R X Ex fr K n0 Z pc L (.ref x :: st) sh μ cs ss :=
  fun p e s m args below meth c H locs ls hC hH hL => lv_astore_n hC.1 hC.2.1 hd hi hL.1 hn rfl (fun ls' hl' => kk p e s m args below meth c H locs ls' hC hH (hq ▸ xL_set hL rfl hl'))
theorem sx_astore {i : Nat} {x : Nat} {L' : List (Option Value)} (hd : decode K.2.1 pc = .ok (.astore i, 2)) (hn : i < K.2.2.1) (hq : L.set i (some (.ref x)) = L')
    (kk : sx l R X Ex fr K n0 Z (pc + 2) L' (st) sh μ cs ss) : sx l R X Ex fr K n0 Z pc L (.ref x :: st) sh μ cs ss :=
  fun p e s m args below meth c H locs ls hC hH hL => lv_astore hC.1 hC.2.1 hd hL.1 hn rfl (fun ls' hl' => kk p e s m args below meth c H locs ls' hC hH (hq ▸ xL_set hL rfl hl'))
theorem sx_iinc {i : Nat} {n : Int} {x v : Int32} {L' : List (Option Value)} (hd : decode K.2.1 pc = .ok (.iinc i n, 3)) (hx : L[i]? = some (some (.int x))) (hv : x + Int32.ofInt n = v) (hn : i < K.2.2.1) (hq : L.set i (some (.int v)) = L')
    (kk : sx l R X Ex fr K n0 Z (pc + 3) L' (st) sh μ cs ss) : sx l R X Ex fr K n0 Z pc L (st) sh μ cs ss :=
  fun p e s m args below meth c H locs ls hC hH hL => by
    obtain ⟨j, hj⟩ := List.getElem?_of_mem ((xlv_mem L 0 (i, .int x)).mpr ⟨i, hx, (Nat.zero_add i).symm⟩)
    exact lv_iinc hC.1 hC.2.1 hd hL.1 hj hv hn rfl (fun ls' hl' => kk p e s m args below meth c H locs ls' hC hH (hq ▸ xL_set hL rfl hl'))
theorem sx_iadd {x y : Int32} (hd : decode K.2.1 pc = .ok (.iadd, 1))
    (kk : sx l R X Ex fr K n0 Z (pc + 1) L (.int (x + y) :: st) sh μ cs ss) : sx l R X Ex fr K n0 Z pc L (.int y :: .int x :: st) sh μ cs ss :=
  fun p e s m args below meth c H locs ls hC hH hL => lv_iadd hC.1 hC.2.1 hd (kk p e s m args below meth c H locs ls hC hH hL)
theorem sx_isub {x y : Int32} (hd : decode K.2.1 pc = .ok (.isub, 1))
    (kk : sx l R X Ex fr K n0 Z (pc + 1) L (.int (x - y) :: st) sh μ cs ss) : sx l R X Ex fr K n0 Z pc L (.int y :: .int x :: st) sh μ cs ss :=
  fun p e s m args below meth c H locs ls hC hH hL => lv_isub hC.1 hC.2.1 hd (kk p e s m args below meth c H locs ls hC hH hL)
theorem sx_imul {x y : Int32} (hd : decode K.2.1 pc = .ok (.imul, 1))
    (kk : sx l R X Ex fr K n0 Z (pc + 1) L (.int (x * y) :: st) sh μ cs ss) : sx l R X Ex fr K n0 Z pc L (.int y :: .int x :: st) sh μ cs ss :=
  fun p e s m args below meth c H locs ls hC hH hL => lv_imul hC.1 hC.2.1 hd (kk p e s m args below meth c H locs ls hC hH hL)
theorem sx_iand {x y : Int32} (hd : decode K.2.1 pc = .ok (.iand, 1))
    (kk : sx l R X Ex fr K n0 Z (pc + 1) L (.int (x &&& y) :: st) sh μ cs ss) : sx l R X Ex fr K n0 Z pc L (.int y :: .int x :: st) sh μ cs ss :=
  fun p e s m args below meth c H locs ls hC hH hL => lv_iand hC.1 hC.2.1 hd (kk p e s m args below meth c H locs ls hC hH hL)
theorem sx_ishr {x y : Int32} (hd : decode K.2.1 pc = .ok (.ishr, 1))
    (kk : sx l R X Ex fr K n0 Z (pc + 1) L (.int (x >>> (y &&& 31)) :: st) sh μ cs ss) : sx l R X Ex fr K n0 Z pc L (.int y :: .int x :: st) sh μ cs ss :=
  fun p e s m args below meth c H locs ls hC hH hL => lv_ishr hC.1 hC.2.1 hd (kk p e s m args below meth c H locs ls hC hH hL)
theorem sx_idiv {x y : Int32} (hd : decode K.2.1 pc = .ok (.idiv, 1)) (hne : ¬ y = 0)
    (kk : sx l R X Ex fr K n0 Z (pc + 1) L (.int (x / y) :: st) sh μ cs ss) : sx l R X Ex fr K n0 Z pc L (.int y :: .int x :: st) sh μ cs ss :=
  fun p e s m args below meth c H locs ls hC hH hL => lv_idiv hC.1 hC.2.1 hd hne (kk p e s m args below meth c H locs ls hC hH hL)
theorem sx_irem {x y : Int32} (hd : decode K.2.1 pc = .ok (.irem, 1)) (hne : ¬ y = 0)
    (kk : sx l R X Ex fr K n0 Z (pc + 1) L (.int (x - x / y * y) :: st) sh μ cs ss) : sx l R X Ex fr K n0 Z pc L (.int y :: .int x :: st) sh μ cs ss :=
  fun p e s m args below meth c H locs ls hC hH hL => lv_irem hC.1 hC.2.1 hd hne (kk p e s m args below meth c H locs ls hC hH hL)
theorem sx_i2b {x v : Int32} (hd : decode K.2.1 pc = .ok (.i2b, 1)) (hv : x.toInt8.toInt32 = v)
    (kk : sx l R X Ex fr K n0 Z (pc + 1) L (.int v :: st) sh μ cs ss) : sx l R X Ex fr K n0 Z pc L (.int x :: st) sh μ cs ss :=
  fun p e s m args below meth c H locs ls hC hH hL => lv_i2b hC.1 hC.2.1 hd hv (kk p e s m args below meth c H locs ls hC hH hL)
theorem sx_i2l {x : Int32} {v : Int64} (hd : decode K.2.1 pc = .ok (.i2l, 1)) (hv : x.toInt64 = v)
    (kk : sx l R X Ex fr K n0 Z (pc + 1) L (.long v :: st) sh μ cs ss) : sx l R X Ex fr K n0 Z pc L (.int x :: st) sh μ cs ss :=
  fun p e s m args below meth c H locs ls hC hH hL => lv_i2l hC.1 hC.2.1 hd hv (kk p e s m args below meth c H locs ls hC hH hL)
theorem sx_dup {va : Value} (hd : decode K.2.1 pc = .ok (.dup, 1)) (h1 : va.category = 1)
    (kk : sx l R X Ex fr K n0 Z (pc + 1) L (va :: va :: st) sh μ cs ss) : sx l R X Ex fr K n0 Z pc L (va :: st) sh μ cs ss :=
  fun p e s m args below meth c H locs ls hC hH hL => lv_dup hC.1 hC.2.1 hd h1 (kk p e s m args below meth c H locs ls hC hH hL)
theorem sx_pop {va : Value} (hd : decode K.2.1 pc = .ok (.pop, 1)) (h1 : va.category = 1)
    (kk : sx l R X Ex fr K n0 Z (pc + 1) L (st) sh μ cs ss) : sx l R X Ex fr K n0 Z pc L (va :: st) sh μ cs ss :=
  fun p e s m args below meth c H locs ls hC hH hL => lv_pop hC.1 hC.2.1 hd h1 (kk p e s m args below meth c H locs ls hC hH hL)
theorem sx_dup_x1 {va vb : Value} (hd : decode K.2.1 pc = .ok (.dup_x1, 1)) (h1 : va.category = 1) (h2 : vb.category = 1)
    (kk : sx l R X Ex fr K n0 Z (pc + 1) L (va :: vb :: va :: st) sh μ cs ss) : sx l R X Ex fr K n0 Z pc L (va :: vb :: st) sh μ cs ss :=
  fun p e s m args below meth c H locs ls hC hH hL => lv_dup_x1 hC.1 hC.2.1 hd h1 h2 (kk p e s m args below meth c H locs ls hC hH hL)
theorem sx_dup_x2 {va vb vd : Value} (hd : decode K.2.1 pc = .ok (.dup_x2, 1)) (h1 : va.category = 1) (h2 : vb.category = 1) (h3 : vd.category = 1)
    (kk : sx l R X Ex fr K n0 Z (pc + 1) L (va :: vb :: vd :: va :: st) sh μ cs ss) : sx l R X Ex fr K n0 Z pc L (va :: vb :: vd :: st) sh μ cs ss :=
  fun p e s m args below meth c H locs ls hC hH hL => lv_dup_x2 hC.1 hC.2.1 hd h1 h2 h3 (kk p e s m args below meth c H locs ls hC hH hL)
theorem sx_dup2 {va vb : Value} (hd : decode K.2.1 pc = .ok (.dup2, 1)) (h1 : va.category = 1) (h2 : vb.category = 1)
    (kk : sx l R X Ex fr K n0 Z (pc + 1) L (va :: vb :: va :: vb :: st) sh μ cs ss) : sx l R X Ex fr K n0 Z pc L (va :: vb :: st) sh μ cs ss :=
  fun p e s m args below meth c H locs ls hC hH hL => lv_dup2_11 hC.1 hC.2.1 hd h1 h2 (kk p e s m args below meth c H locs ls hC hH hL)
theorem sx_goto {off : Int} {tgt : Nat} (hd : decode K.2.1 pc = .ok (.goto off, 3)) (ht : (pc : Int) + off = (tgt : Int))
    (kk : sx l R X Ex fr K n0 Z (tgt) L (st) sh μ cs ss) : sx l R X Ex fr K n0 Z pc L (st) sh μ cs ss :=
  fun p e s m args below meth c H locs ls hC hH hL => lv_goto hC.1 hC.2.1 hd ht (kk p e s m args below meth c H locs ls hC hH hL)
theorem sx_if_eq {x : Int32} {off : Int} {tgt : Nat} (hd : decode K.2.1 pc = .ok (.ifCond .eq off, 3)) (ht : (pc : Int) + off = (tgt : Int))
    (kt : (x = 0) → sx l R X Ex fr K n0 Z tgt L st sh μ cs ss) (kf : ¬ (x = 0) → sx l R X Ex fr K n0 Z (pc + 3) L st sh μ cs ss) : sx l R X Ex fr K n0 Z pc L (.int x :: st) sh μ cs ss :=
  fun p e s m args below meth c H locs ls hC hH hL => lv_if_eq hC.1 hC.2.1 hd ht (fun q => kt q p e s m args below meth c H locs ls hC hH hL) (fun q => kf q p e s m args below meth c H locs ls hC hH hL)
theorem sx_icmp_eq {x y : Int32} {off : Int} {tgt : Nat} (hd : decode K.2.1 pc = .ok (.if_icmp .eq off, 3)) (ht : (pc : Int) + off = (tgt : Int))
    (kt : (x = y) → sx l R X Ex fr K n0 Z tgt L st sh μ cs ss) (kf : ¬ (x = y) → sx l R X Ex fr K n0 Z (pc + 3) L st sh μ cs ss) : sx l R X Ex fr K n0 Z pc L (.int y :: .int x :: st) sh μ cs ss :=
  fun p e s m args below meth c H locs ls hC hH hL => lv_icmp_eq hC.1 hC.2.1 hd ht (fun q => kt q p e s m args below meth c H locs ls hC hH hL) (fun q => kf q p e s m args below meth c H locs ls hC hH hL)
theorem sx_if_ne {x : Int32} {off : Int} {tgt : Nat} (hd : decode K.2.1 pc = .ok (.ifCond .ne off, 3)) (ht : (pc : Int) + off = (tgt : Int))
    (kt : ¬ x = 0 → sx l R X Ex fr K n0 Z tgt L st sh μ cs ss) (kf : x = 0 → sx l R X Ex fr K n0 Z (pc + 3) L st sh μ cs ss) : sx l R X Ex fr K n0 Z pc L (.int x :: st) sh μ cs ss :=
  fun p e s m args below meth c H locs ls hC hH hL => lv_if_ne hC.1 hC.2.1 hd ht (fun q => kt q p e s m args below meth c H locs ls hC hH hL) (fun q => kf q p e s m args below meth c H locs ls hC hH hL)
theorem sx_icmp_ne {x y : Int32} {off : Int} {tgt : Nat} (hd : decode K.2.1 pc = .ok (.if_icmp .ne off, 3)) (ht : (pc : Int) + off = (tgt : Int))
    (kt : ¬ x = y → sx l R X Ex fr K n0 Z tgt L st sh μ cs ss) (kf : x = y → sx l R X Ex fr K n0 Z (pc + 3) L st sh μ cs ss) : sx l R X Ex fr K n0 Z pc L (.int y :: .int x :: st) sh μ cs ss :=
  fun p e s m args below meth c H locs ls hC hH hL => lv_icmp_ne hC.1 hC.2.1 hd ht (fun q => kt q p e s m args below meth c H locs ls hC hH hL) (fun q => kf q p e s m args below meth c H locs ls hC hH hL)
theorem sx_if_lt {x : Int32} {off : Int} {tgt : Nat} (hd : decode K.2.1 pc = .ok (.ifCond .lt off, 3)) (ht : (pc : Int) + off = (tgt : Int))
    (kt : (x < 0) → sx l R X Ex fr K n0 Z tgt L st sh μ cs ss) (kf : ¬ (x < 0) → sx l R X Ex fr K n0 Z (pc + 3) L st sh μ cs ss) : sx l R X Ex fr K n0 Z pc L (.int x :: st) sh μ cs ss :=
  fun p e s m args below meth c H locs ls hC hH hL => lv_if_lt hC.1 hC.2.1 hd ht (fun q => kt q p e s m args below meth c H locs ls hC hH hL) (fun q => kf q p e s m args below meth c H locs ls hC hH hL)
theorem sx_icmp_lt {x y : Int32} {off : Int} {tgt : Nat} (hd : decode K.2.1 pc = .ok (.if_icmp .lt off, 3)) (ht : (pc : Int) + off = (tgt : Int))
    (kt : (x < y) → sx l R X Ex fr K n0 Z tgt L st sh μ cs ss) (kf : ¬ (x < y) → sx l R X Ex fr K n0 Z (pc + 3) L st sh μ cs ss) : sx l R X Ex fr K n0 Z pc L (.int y :: .int x :: st) sh μ cs ss :=
  fun p e s m args below meth c H locs ls hC hH hL => lv_icmp_lt hC.1 hC.2.1 hd ht (fun q => kt q p e s m args below meth c H locs ls hC hH hL) (fun q => kf q p e s m args below meth c H locs ls hC hH hL)
theorem sx_if_ge {x : Int32} {off : Int} {tgt : Nat} (hd : decode K.2.1 pc = .ok (.ifCond .ge off, 3)) (ht : (pc : Int) + off = (tgt : Int))
    (kt : (0 ≤ x) → sx l R X Ex fr K n0 Z tgt L st sh μ cs ss) (kf : ¬ (0 ≤ x) → sx l R X Ex fr K n0 Z (pc + 3) L st sh μ cs ss) : sx l R X Ex fr K n0 Z pc L (.int x :: st) sh μ cs ss :=
  fun p e s m args below meth c H locs ls hC hH hL => lv_if_ge hC.1 hC.2.1 hd ht (fun q => kt q p e s m args below meth c H locs ls hC hH hL) (fun q => kf q p e s m args below meth c H locs ls hC hH hL)
theorem sx_icmp_ge {x y : Int32} {off : Int} {tgt : Nat} (hd : decode K.2.1 pc = .ok (.if_icmp .ge off, 3)) (ht : (pc : Int) + off = (tgt : Int))
    (kt : (y ≤ x) → sx l R X Ex fr K n0 Z tgt L st sh μ cs ss) (kf : ¬ (y ≤ x) → sx l R X Ex fr K n0 Z (pc + 3) L st sh μ cs ss) : sx l R X Ex fr K n0 Z pc L (.int y :: .int x :: st) sh μ cs ss :=
  fun p e s m args below meth c H locs ls hC hH hL => lv_icmp_ge hC.1 hC.2.1 hd ht (fun q => kt q p e s m args below meth c H locs ls hC hH hL) (fun q => kf q p e s m args below meth c H locs ls hC hH hL)
theorem sx_if_gt {x : Int32} {off : Int} {tgt : Nat} (hd : decode K.2.1 pc = .ok (.ifCond .gt off, 3)) (ht : (pc : Int) + off = (tgt : Int))
    (kt : (0 < x) → sx l R X Ex fr K n0 Z tgt L st sh μ cs ss) (kf : ¬ (0 < x) → sx l R X Ex fr K n0 Z (pc + 3) L st sh μ cs ss) : sx l R X Ex fr K n0 Z pc L (.int x :: st) sh μ cs ss :=
  fun p e s m args below meth c H locs ls hC hH hL => lv_if_gt hC.1 hC.2.1 hd ht (fun q => kt q p e s m args below meth c H locs ls hC hH hL) (fun q => kf q p e s m args below meth c H locs ls hC hH hL)
theorem sx_icmp_gt {x y : Int32} {off : Int} {tgt : Nat} (hd : decode K.2.1 pc = .ok (.if_icmp .gt off, 3)) (ht : (pc : Int) + off = (tgt : Int))
    (kt : (y < x) → sx l R X Ex fr K n0 Z tgt L st sh μ cs ss) (kf : ¬ (y < x) → sx l R X Ex fr K n0 Z (pc + 3) L st sh μ cs ss) : sx l R X Ex fr K n0 Z pc L (.int y :: .int x :: st) sh μ cs ss :=
  fun p e s m args below meth c H locs ls hC hH hL => lv_icmp_gt hC.1 hC.2.1 hd ht (fun q => kt q p e s m args below meth c H locs ls hC hH hL) (fun q => kf q p e s m args below meth c H locs ls hC hH hL)
theorem sx_if_le {x : Int32} {off : Int} {tgt : Nat} (hd : decode K.2.1 pc = .ok (.ifCond .le off, 3)) (ht : (pc : Int) + off = (tgt : Int))
    (kt : (x ≤ 0) → sx l R X Ex fr K n0 Z tgt L st sh μ cs ss) (kf : ¬ (x ≤ 0) → sx l R X Ex fr K n0 Z (pc + 3) L st sh μ cs ss) : sx l R X Ex fr K n0 Z pc L (.int x :: st) sh μ cs ss :=
  fun p e s m args below meth c H locs ls hC hH hL => lv_if_le hC.1 hC.2.1 hd ht (fun q => kt q p e s m args below meth c H locs ls hC hH hL) (fun q => kf q p e s m args below meth c H locs ls hC hH hL)
theorem sx_icmp_le {x y : Int32} {off : Int} {tgt : Nat} (hd : decode K.2.1 pc = .ok (.if_icmp .le off, 3)) (ht : (pc : Int) + off = (tgt : Int))
    (kt : (x ≤ y) → sx l R X Ex fr K n0 Z tgt L st sh μ cs ss) (kf : ¬ (x ≤ y) → sx l R X Ex fr K n0 Z (pc + 3) L st sh μ cs ss) : sx l R X Ex fr K n0 Z pc L (.int y :: .int x :: st) sh μ cs ss :=
  fun p e s m args below meth c H locs ls hC hH hL => lv_icmp_le hC.1 hC.2.1 hd ht (fun q => kt q p e s m args below meth c H locs ls hC hH hL) (fun q => kf q p e s m args below meth c H locs ls hC hH hL)
theorem sx_lookup {dflt : Int} {ps : Array (Int × Int)} {len : Nat} {x : Int32} {off : Int} {tgt : Nat} (hd : decode K.2.1 pc = .ok (.lookupswitch dflt ps, len)) (hp : (ps.toList.zip (ps.toList.drop 1)).all (fun (a, next) => a.1 < next.1) = true) (ho : Op.lookupswitch.offset ps.toList dflt x.toInt = off) (ht : (pc : Int) + off = (tgt : Int))
    (kk : sx l R X Ex fr K n0 Z (tgt) L (st) sh μ cs ss) : sx l R X Ex fr K n0 Z pc L (.int x :: st) sh μ cs ss :=
  fun p e s m args below meth c H locs ls hC hH hL => lv_lookup hC.1 hC.2.1 hd hp ho ht (kk p e s m args below meth c H locs ls hC hH hL)
theorem sx_tableOut {dflt lo hi : Int} {offs : Array Int} {len : Nat} {x : Int32} {tgt : Nat} (hd : decode K.2.1 pc = .ok (.tableswitch dflt lo hi offs, len)) (h : x.toInt < lo ∨ hi < x.toInt) (ht : (pc : Int) + dflt = (tgt : Int))
    (kk : sx l R X Ex fr K n0 Z (tgt) L (st) sh μ cs ss) : sx l R X Ex fr K n0 Z pc L (.int x :: st) sh μ cs ss :=
  fun p e s m args below meth c H locs ls hC hH hL => lv_tableOut hC.1 hC.2.1 hd h ht (kk p e s m args below meth c H locs ls hC hH hL)
theorem sx_tableIn {dflt lo hi : Int} {offs : Array Int} {len : Nat} {x : Int32} {off : Int} {tgt : Nat} (hd : decode K.2.1 pc = .ok (.tableswitch dflt lo hi offs, len)) (h1 : ¬ x.toInt < lo) (h2 : ¬ hi < x.toInt) (ho : offs[(x.toInt - lo).toNat]? = some off) (ht : (pc : Int) + off = (tgt : Int))
    (kk : sx l R X Ex fr K n0 Z (tgt) L (st) sh μ cs ss) : sx l R X Ex fr K n0 Z pc L (.int x :: st) sh μ cs ss :=
  fun p e s m args below meth c H locs ls hC hH hL => lv_tableIn hC.1 hC.2.1 hd h1 h2 ho ht (kk p e s m args below meth c H locs ls hC hH hL)
end SX
section SXP
variable {p : Program} {l : Launch} {e : Env} {R : Room} {s : State} {m : MethodId} {args : Array Value} {below : List Frame} {meth : Method} {c : Code} {H : Heap} {locs : List Loc} {cells slots : Nat} {Q : State → Prop}
variable {cc : ByteArray} {pc : Nat} {ls : Array Slot} {rest : List Value} {D : va_G} {cl : List vw_C} {A : Nat → Prop} {a : Nat} {tys : List (ClassId × FieldType)} {ws : va_W} {H0 : Heap}
/-- what a field of a cell of the world is, for a store -/
theorem xf_slot {own C : String} {T : u_T} {N ci : Nat} {Ts : List Cond} (hts : ∀ w ∈ Ts, w.before args s = true) (hin : ∀ w ∈ u_ws C T N, w ∈ Ts) (ty0 : Nat → FieldType) (hty : ∀ k, k < N → parseFieldDescriptor (T k).2.2.1 = some (ty0 k)) (hnm : ∀ a, a < N → ∀ b, b < N → a ≠ b → (T a).2.1 ≠ (T b).2.1) (hK : va_K D cl tys s) (hP : va_P D cl ws H) (q0 : Nat) {fs : List Value} (he : ws[q0]? = some (a, .inr (ci, fs))) (hc : cl[ci]? = some (C, T, N)) (k : Nat) (hk : k < N) (hl : k < fs.length) (v : Value) :
    ∃ (cell : Cell) (cf fi : Nat) (kf kC : Class) (f : Field), H[a]? = some cell ∧ cell.cls = D.1 ci ∧ cell.vm = .none ∧ s.fieldFound? (T k).1 (T k).2.1 (T k).2.2.1 = some (cf, kf, fi, f) ∧ f.isStatic = false ∧ f.slot < cell.slots.size ∧ s.vm.findClass C = some (D.1 ci) ∧ s.vm.classes[D.1 ci]? = some kC ∧ kC.kind = .ordinary ∧
      ∀ H1 : Heap, H1[a]? = some (cell.setSlot f.slot v) → va_at D cl (a, .inr (ci, fs.set k v)) H1 := by
  have hap := va_apart (own := own) hts hin ty0 hty hnm hK hc
  obtain ⟨r, h1, cell, q1, q2, q3, q4⟩ := hP q0 _ he
  obtain rfl : r = (C, T, N) := Option.some.inj (h1.symm.trans hc)
  obtain ⟨hS, hfc, kC, hkC, hkind⟩ := hK.1 ci _ hc
  obtain ⟨cf, kf, fi, f, hi, hsl⟩ := hS k hk
  refine ⟨cell, cf, fi, kf, kC, f, q1, q2, q3, hi, (u_facts hfc hkC (u_lays hts hin hk) hi).1, by rw [hsl]; exact k2_hasslot (q4 k hk), hfc, hkC, hkind, fun H1 e1 => ?_⟩
  rw [hsl] at e1
  exact ⟨_, hc, t_OB.to (V := updV (vp_V fs) k v) ⟨_, e1, q2, q3, t_set q4 hap hk v⟩ (fun j _ => vp_updV_set hl v j)⟩
theorem va_putz (hexec : p.tables.exec = Jvm.exec) (hb : c.code = cc) {own C : String} {T : u_T} {N ci index : Nat} {Ts : List Cond} (hts : ∀ w ∈ Ts, w.before args s = true) (hin : ∀ w ∈ u_ws C T N, w ∈ Ts) (ty0 : Nat → FieldType) (hty : ∀ k, k < N → parseFieldDescriptor (T k).2.2.1 = some (ty0 k)) (hnm : ∀ a, a < N → ∀ b, b < N → a ≠ b → (T a).2.1 ≠ (T b).2.1) (hown : s.vm.findClass own = some m.cls) (hK : va_K D cl tys s) (hP : va_P D cl ws H) (hD : va_D A ws) (hS0 : va_S A H0 H locs) (q0 : Nat) {fs : List Value} (he : ws[q0]? = some (a, .inr (ci, fs))) (hc : cl[ci]? = some (C, T, N)) (k : Nat) (hk : k < N) (hlink : (Cond.fieldLink own index (T k).1 (T k).2.1 (T k).2.2.1).before args s = true) (hfin : (T k).2.2.2 = false) {ty : FieldType} {v : Value} (hd : parseFieldDescriptor (T k).2.2.1 = some ty) (hn : narrow ty v = v) (hfit : fits ty v = true) (hl : k < fs.length)
    (hdg : decode cc pc = .ok (.putfield index, 3)) (kk : ∀ (H1 : Heap) (locs1 : List Loc), H1.size = H.size → va_P D cl (ws.set q0 (a, .inr (ci, fs.set k v))) H1 → va_S A H0 H1 locs1 → W p l e R s m args below meth c H1 locs1 cells slots Q (F0 m (pc + 3) ls rest)) : W p l e R s m args below meth c H locs cells slots Q (F0 m pc ls (v :: .ref a :: rest)) := by
  obtain ⟨cell, cf, fi, kf, kC, f, q1, q2, q3, hi, hst, hlt, hfc, hkC, hkind, hat⟩ := xf_slot (own := own) hts hin ty0 hty hnm hK hP q0 he hc k hk hl v
  have hlay := hts _ (hin _ (u_in_lay hk))
  unfold u_lay at hlay
  rw [if_neg (by rw [hfin]; decide)] at hlay
  refine W.putK hexec hb (f := f) ⟨hown, hlink, ⟨_, _, _, hi⟩, hst⟩ (by rw [q2]; exact u_store hfc hkC hkind hlay hi hd hn hfit) q1 q3 hlt rfl rfl hdg fun H' e1 e2 e3 => ?_
  exact kk H' _ e2 (hP.set hD he (hat H' e1) e3) (hS0.put e2 e3 (hD.2 q0 _ he))
theorem va_putFz (hexec : p.tables.exec = Jvm.exec) (hb : c.code = cc) {own C : String} {T : u_T} {N ci index : Nat} {Ts : List Cond} (hts : ∀ w ∈ Ts, w.before args s = true) (hin : ∀ w ∈ u_ws C T N, w ∈ Ts) (ty0 : Nat → FieldType) (hty : ∀ k, k < N → parseFieldDescriptor (T k).2.2.1 = some (ty0 k)) (hnm : ∀ a, a < N → ∀ b, b < N → a ≠ b → (T a).2.1 ≠ (T b).2.1) (hown : s.vm.findClass own = some m.cls) (hK : va_K D cl tys s) (hP : va_P D cl ws H) (hD : va_D A ws) (hS0 : va_S A H0 H locs) (q0 : Nat) {fs : List Value} (he : ws[q0]? = some (a, .inr (ci, fs))) (hc : cl[ci]? = some (C, T, N)) (k : Nat) (hk : k < N) (hlink : (Cond.fieldLink own index (T k).1 (T k).2.1 (T k).2.2.1).before args s = true) (hfin : (T k).2.2.2 = true) (hin2 : meth.name = "<init>") (hdecl : (T k).1 = own) {ty : FieldType} {v : Value} (hd : parseFieldDescriptor (T k).2.2.1 = some ty) (hn : narrow ty v = v) (hfit : fits ty v = true) (hl : k < fs.length)
    (hdg : decode cc pc = .ok (.putfield index, 3)) (kk : ∀ (H1 : Heap) (locs1 : List Loc), H1.size = H.size → va_P D cl (ws.set q0 (a, .inr (ci, fs.set k v))) H1 → va_S A H0 H1 locs1 → W p l e R s m args below meth c H1 locs1 cells slots Q (F0 m (pc + 3) ls rest)) : W p l e R s m args below meth c H locs cells slots Q (F0 m pc ls (v :: .ref a :: rest)) := by
  obtain ⟨cell, cf, fi, kf, kC, f, q1, q2, q3, hi, hst, hlt, hfc, hkC, hkind, hat⟩ := xf_slot (own := own) hts hin ty0 hty hnm hK hP q0 he hc k hk hl v
  have hlay := hts _ (hin _ (u_in_lay hk))
  unfold u_lay at hlay
  rw [if_pos hfin] at hlay
  have hcf : m.cls = cf := by
    obtain ⟨_, _, c', _, _, _, -, -, hf', -, -, -, hown2, -⟩ := Cond.laysFinal_spec hlay
    have e1 : c' = cf := by have := hi.symm.trans hf'; simp at this; exact this.1.symm
    rw [hdecl] at hown2
    rw [← e1]; exact Option.some.inj (hown.symm.trans hown2)
  refine W.putFinK hexec hb hown hlink hi hst hcf hin2 (by rw [q2]; exact u_fits hfc hkC hkind (Or.inr hlay) hi hd hn hfit) q1 q3 hlt rfl rfl hdg fun H' e1 e2 e3 => ?_
  exact kk H' _ e2 (hP.set hD he (hat H' e1) e3) (hS0.put e2 e3 (hD.2 q0 _ he))
theorem va_iastz (hexec : p.tables.exec = Jvm.exec) (hb : c.code = cc) (hK : va_K D cl tys s) (hP : va_P D cl ws H) (hD : va_D A ws) (hS : va_S A H0 H locs) (q0 t0 : Nat) {cA : ClassId} {n : Nat} {f : Nat → Int32} (ha : ws[q0]? = some (a, .inl (cA, n, .inl f))) (ht : tys[t0]? = some (cA, .int)) {i : Int32} {x : Int32} (hin : vp_in i n) (hdg : decode cc pc = .ok (.iastore, 1))
    (kk : ∀ (H1 : Heap) (locs1 : List Loc), H1.size = H.size → va_P D cl (ws.set q0 (a, .inl (cA, n, .inl (upd f i.toNatClampNeg x)))) H1 → va_S A H0 H1 locs1 → W p l e R s m args below meth c H1 locs1 cells slots Q (F0 m (pc + 1) ls rest)) : W p l e R s m args below meth c H locs cells slots Q (F0 m pc ls (.int x :: .int i :: .ref a :: rest)) := by
  refine W.iast hexec hb (hP q0 _ ha) ((hK.2 t0 _ ht).1 n (fun j => .int (f j))) (fun q => by cases q) (by show ¬ (i < 0 ∨ (arrV _ _ _).slots.size ≤ _); rw [arrV_size]; exact hin) rfl rfl hdg fun H1 e z oq => ?_
  refine kk H1 _ z (hP.set hD ha ?_ oq) (hS.put z oq (hD.2 q0 _ ha))
  show H1[a]? = some (vp_cell _ _)
  rw [e, vp_cell_i, vp_cell_i, arrV_store]
  congr 2
  funext q
  by_cases hq : q = i.toNatClampNeg
  · subst hq
    simp [updV, upd]
  · simp [updV, upd, hq]
end SXP
section SXH
variable {l : Launch} {R : Room} {X : xD} {Ex : State → Prop} {fr : Bool} {K : xK} {n0 : Nat} {Z : List Frame → Array Value → State → State → Prop} {pc : Nat} {L : List (Option Value)} {st : List Value} {sh : List xS} {μ : xM} {cs ss : Nat}
theorem xH_set {n0 : Nat} {fr : Bool} {sh : List xS} {μ : xM} {s : State} {H : Heap} {locs : List Loc} {X : xD} (hH : xH X fr n0 sh μ s H locs) {k : Nat} {s' : xS} {f : Nat → Int32} {e : va_E} (hk : k < sh.length) (he : e = xpic X s' f) {H1 : Heap} {locs1 : List Loc} (hz : H1.size = H.size) (hP : va_P X.1.1 classes ((xwl X sh μ).set k (X.2 + k, e)) H1) (hS : va_S (xA X.2 n0 fr) s.heap H1 locs1) : xH X fr n0 (sh.set k s') (va_up μ k f) s H1 locs1 := by
  subst he
  rw [xwl_set hk] at hP
  refine ⟨hP, hS, by rw [List.length_set]; exact hH.2.2.1, fun h => by rw [List.length_set]; exact hH.2.2.2.1 h, fun h => by rw [List.length_set, hz]; exact hH.2.2.2.2 h⟩
theorem sx_geti {C : String} {T : u_T} {N ci i j k : Nat} {fl : List (Option (Option Nat))} (hd : decode K.2.1 pc = .ok (.getfield i, 3)) (hc : classes[ci]? = some (C, T, N)) (hs : sh[k]? = some (.inl (ci, fl))) (hj : fl[j]? = some none) (hjn : j < N) (hw : Cond.fieldLink K.1 i (T j).1 (T j).2.1 (T j).2.2.1 ∈ xws)
    (kk : sx l R X Ex fr K n0 Z (pc + 3) L (.int (μ k j) :: st) sh μ cs ss) : sx l R X Ex fr K n0 Z pc L (.ref (X.2 + k) :: st) sh μ cs ss :=
  fun p e s m args below meth c H locs ls hC hH hL => va_get hC.1 hC.2.1 hC.2.2.2.2.2.2.1 (xcl_ok ci _ hc).1 hC.2.2.2.2.2.1 hC.2.2.2.2.2.2.2.2.1 hH.1 k (xwl_get μ hs) hc j hjn (hC.2.2.2.2.2.2.1 _ hw) (fun _ h => h) (v := .int (μ k j)) (by have := xfs_get X.2 (μ k) fl 0 j none hj; rwa [Nat.zero_add] at this) hd (kk p e s m args below meth c H locs ls hC hH hL)
theorem sx_getr {C : String} {T : u_T} {N ci i j k r : Nat} {fl : List (Option (Option Nat))} (hd : decode K.2.1 pc = .ok (.getfield i, 3)) (hc : classes[ci]? = some (C, T, N)) (hs : sh[k]? = some (.inl (ci, fl))) (hj : fl[j]? = some (some (some r))) (hjn : j < N) (hw : Cond.fieldLink K.1 i (T j).1 (T j).2.1 (T j).2.2.1 ∈ xws)
    (kk : sx l R X Ex fr K n0 Z (pc + 3) L (.ref (X.2 + r) :: st) sh μ cs ss) : sx l R X Ex fr K n0 Z pc L (.ref (X.2 + k) :: st) sh μ cs ss :=
  fun p e s m args below meth c H locs ls hC hH hL => va_get hC.1 hC.2.1 hC.2.2.2.2.2.2.1 (xcl_ok ci _ hc).1 hC.2.2.2.2.2.1 hC.2.2.2.2.2.2.2.2.1 hH.1 k (xwl_get μ hs) hc j hjn (hC.2.2.2.2.2.2.1 _ hw) (fun _ h => h) (v := .ref (X.2 + r)) (by have := xfs_get X.2 (μ k) fl 0 j _ hj; rwa [Nat.zero_add] at this) hd (kk p e s m args below meth c H locs ls hC hH hL)
theorem sx_getiN {C host : String} {T : u_T} {N ci i j k : Nat} {fl : List (Option (Option Nat))} (hd : decode K.2.1 pc = .ok (.getfield i, 3)) (hc : classes[ci]? = some (C, T, N)) (hs : sh[k]? = some (.inl (ci, fl))) (hj : fl[j]? = some none) (hjn : j < N) (hw : Cond.fieldLinkNest K.1 i (T j).1 (T j).2.1 (T j).2.2.1 host ∈ xnw)
    (kk : sx l R X Ex fr K n0 Z (pc + 3) L (.int (μ k j) :: st) sh μ cs ss) : sx l R X Ex fr K n0 Z pc L (.ref (X.2 + k) :: st) sh μ cs ss :=
  fun p e s m args below meth c H locs ls hC hH hL => va_getN hC.1 hC.2.1 hC.2.2.2.2.2.2.1 (xcl_ok ci _ hc).1 hC.2.2.2.2.2.1 hC.2.2.2.2.2.2.2.2.1 hH.1 k (xwl_get μ hs) hc j hjn (va_Nw.use rfl (hC.2.2.2.2.2.2.2.1 _ hw)) (fun _ h => h) (v := .int (μ k j)) (by have := xfs_get X.2 (μ k) fl 0 j none hj; rwa [Nat.zero_add] at this) hd (kk p e s m args below meth c H locs ls hC hH hL)
theorem sx_getrN {C host : String} {T : u_T} {N ci i j k r : Nat} {fl : List (Option (Option Nat))} (hd : decode K.2.1 pc = .ok (.getfield i, 3)) (hc : classes[ci]? = some (C, T, N)) (hs : sh[k]? = some (.inl (ci, fl))) (hj : fl[j]? = some (some (some r))) (hjn : j < N) (hw : Cond.fieldLinkNest K.1 i (T j).1 (T j).2.1 (T j).2.2.1 host ∈ xnw)
    (kk : sx l R X Ex fr K n0 Z (pc + 3) L (.ref (X.2 + r) :: st) sh μ cs ss) : sx l R X Ex fr K n0 Z pc L (.ref (X.2 + k) :: st) sh μ cs ss :=
  fun p e s m args below meth c H locs ls hC hH hL => va_getN hC.1 hC.2.1 hC.2.2.2.2.2.2.1 (xcl_ok ci _ hc).1 hC.2.2.2.2.2.1 hC.2.2.2.2.2.2.2.2.1 hH.1 k (xwl_get μ hs) hc j hjn (va_Nw.use rfl (hC.2.2.2.2.2.2.2.1 _ hw)) (fun _ h => h) (v := .ref (X.2 + r)) (by have := xfs_get X.2 (μ k) fl 0 j _ hj; rwa [Nat.zero_add] at this) hd (kk p e s m args below meth c H locs ls hC hH hL)
theorem xpic_put {X : xD} {ci j : Nat} {fl : List (Option (Option Nat))} {f : Nat → Int32} (o : Option (Option Nat)) (x : Int32) : (Sum.inr (ci, (xfs X.2 f fl 0).set j (xval X.2 o x)) : va_E) = xpic X (.inl (ci, fl.set j o)) (upd f j x) := by
  have h := xfs_set X.2 f o x fl 0 j
  rw [Nat.zero_add] at h
  simp only [xpic, h]
theorem sx_puti {C : String} {T : u_T} {N ci i j k : Nat} {fl : List (Option (Option Nat))} {v : Int32} {ty : FieldType} (hd : decode K.2.1 pc = .ok (.putfield i, 3)) (hc : classes[ci]? = some (C, T, N)) (hs : sh[k]? = some (.inl (ci, fl))) (hj : fl[j]? = some none) (hjn : j < N) (hw : Cond.fieldLink K.1 i (T j).1 (T j).2.1 (T j).2.2.1 ∈ xws) (hf : (T j).2.2.2 = false) (hy : parseFieldDescriptor (T j).2.2.1 = some ty) (hn : narrow ty (.int v) = .int v) (hv : fits ty (.int v) = true)
    (kk : ∀ μ' : xM, μ' = xup μ k j v → sx l R X Ex fr K n0 Z (pc + 3) L st sh μ' cs ss) : sx l R X Ex fr K n0 Z pc L (.int v :: .ref (X.2 + k) :: st) sh μ cs ss := by
  intro p e s m args below meth c H locs ls hC hH hL
  obtain ⟨hin, ty0, hty, hnm⟩ := xcl_ok ci _ hc
  have hjl : j < (xfs X.2 (μ k) fl 0).length := by rw [xfs_len]; exact (List.getElem?_eq_some_iff.mp hj).1
  have hkl := (List.getElem?_eq_some_iff.mp hs).1
  refine va_putz hC.1 hC.2.1 hC.2.2.2.2.2.2.1 hin ty0 hty hnm hC.2.2.2.2.2.1 hC.2.2.2.2.2.2.2.2.1 hH.1 (xwl_D hH.2.2.2.1) hH.2.1 k (xwl_get μ hs) hc j hjn (hC.2.2.2.2.2.2.1 _ hw) hf hy hn hv hjl hd (fun H1 locs1 hz hP hS => ?_)
  have h2 := xH_set hH hkl (xpic_put (X := X) (ci := ci) (j := j) (fl := fl) (f := μ k) none v) hz hP hS
  rw [xsame hj, xsame hs] at h2
  exact kk _ rfl p e s m args below meth c H1 locs1 ls hC h2 hL
theorem sx_putiN {C host : String} {T : u_T} {N ci i j k : Nat} {fl : List (Option (Option Nat))} {v : Int32} {ty : FieldType} (hfr : fr = false) (hd : decode K.2.1 pc = .ok (.putfield i, 3)) (hc : classes[ci]? = some (C, T, N)) (hs : sh[k]? = some (.inl (ci, fl))) (hj : fl[j]? = some none) (hjn : j < N) (hw : Cond.fieldLinkNest K.1 i (T j).1 (T j).2.1 (T j).2.2.1 host ∈ xnw) (hf : (T j).2.2.2 = false) (hy : parseFieldDescriptor (T j).2.2.1 = some ty) (hn : narrow ty (.int v) = .int v) (hv : fits ty (.int v) = true)
    (kk : ∀ μ' : xM, μ' = xup μ k j v → sx l R X Ex fr K n0 Z (pc + 3) L st sh μ' cs ss) : sx l R X Ex fr K n0 Z pc L (.int v :: .ref (X.2 + k) :: st) sh μ cs ss := by
  intro p e s m args below meth c H locs ls hC hH hL
  subst hfr
  obtain ⟨hin, ty0, hty, hnm⟩ := xcl_ok ci _ hc
  have hjl : j < (xfs X.2 (μ k) fl 0).length := by rw [xfs_len]; exact (List.getElem?_eq_some_iff.mp hj).1
  have hkl := (List.getElem?_eq_some_iff.mp hs).1
  refine va_putN hC.1 hC.2.1 hC.2.2.2.2.2.2.1 hin ty0 hty hnm hC.2.2.2.2.2.1 hC.2.2.2.2.2.2.2.2.1 hH.1 (xwl_D hH.2.2.2.1) hH.2.1 k (xwl_get μ hs) hc j hjn (va_Nw.use rfl (hC.2.2.2.2.2.2.2.1 _ hw)) (fun _ h => h) hf hy hn hv hjl hd (fun H1 locs1 hP _ hS => ?_)
  have h2 : xH X false n0 (sh.set k (.inl (ci, fl.set j none))) (va_up μ k (upd (μ k) j v)) s H1 locs1 := by
    rw [show (Sum.inr (ci, (xfs X.2 (μ k) fl 0).set j (.int v)) : va_E) = xpic X (.inl (ci, fl.set j none)) (upd (μ k) j v) from xpic_put none v, xwl_set hkl] at hP
    exact ⟨hP, hS, by rw [List.length_set]; exact hH.2.2.1, fun h => by rw [List.length_set]; exact hH.2.2.2.1 h, fun h => by cases h⟩
  rw [xsame hj, xsame hs] at h2
  exact kk _ rfl p e s m args below meth c H1 locs1 ls hC h2 hL
/-- a final field of a constructor gets a cell -/
theorem sx_putrF {C : String} {T : u_T} {N ci i j k r : Nat} {fl : List (Option (Option Nat))} {sh' : List xS} {ty : FieldType} (hd : decode K.2.1 pc = .ok (.putfield i, 3)) (hc : classes[ci]? = some (C, T, N)) (hs : sh[k]? = some (.inl (ci, fl))) (hjl : j < fl.length) (hjn : j < N) (hw : Cond.fieldLink K.1 i (T j).1 (T j).2.1 (T j).2.2.1 ∈ xws) (hf : (T j).2.2.2 = true) (hi : K.2.2.2.2 = true) (hT : (T j).1 = K.1) (hy : parseFieldDescriptor (T j).2.2.1 = some ty) (hn : narrow ty (.ref (X.2 + r)) = .ref (X.2 + r)) (hv : fits ty (.ref (X.2 + r)) = true) (hsh : sh.set k (.inl (ci, fl.set j (some (some r)))) = sh')
    (kk : sx l R X Ex fr K n0 Z (pc + 3) L st sh' (xup μ k j 0) cs ss) : sx l R X Ex fr K n0 Z pc L (.ref (X.2 + r) :: .ref (X.2 + k) :: st) sh μ cs ss := by
  subst hsh
  intro p e s m args below meth c H locs ls hC hH hL
  obtain ⟨hin, ty0, hty, hnm⟩ := xcl_ok ci _ hc
  have hkl := (List.getElem?_eq_some_iff.mp hs).1
  refine va_putFz hC.1 hC.2.1 hC.2.2.2.2.2.2.1 hin ty0 hty hnm hC.2.2.2.2.2.1 hC.2.2.2.2.2.2.2.2.1 hH.1 (xwl_D hH.2.2.2.1) hH.2.1 k (xwl_get μ hs) hc j hjn (hC.2.2.2.2.2.2.1 _ hw) hf (hC.2.2.2.2.2.2.2.2.2.2.2 hi) hT hy hn hv (by rw [xfs_len]; exact hjl) hd (fun H1 locs1 hz hP hS => ?_)
  exact kk p e s m args below meth c H1 locs1 ls hC (xH_set hH hkl (xpic_put (X := X) (ci := ci) (j := j) (fl := fl) (f := μ k) (some (some r)) 0) hz hP hS) hL
/-! arrays -/
theorem xpic_i {X : xD} {ti n : Nat} {f : Nat → Int32} (h : ti ≠ 0) : xpic X (.inr (ti, n, none)) f = .inl (X.1.2 ti, n, .inl f) := by simp [xpic, h]
theorem sx_iald {k ti n : Nat} {i : Int32} (hd : decode K.2.1 pc = .ok (.iaload, 1)) (hs : sh[k]? = some (.inr (ti, n, none))) (h0 : ti ≠ 0) (ht : xty[ti]? = some .int) (hin : vp_in i n)
    (kk : sx l R X Ex fr K n0 Z (pc + 1) L (.int (μ k i.toNatClampNeg) :: st) sh μ cs ss) : sx l R X Ex fr K n0 Z pc L (.int i :: .ref (X.2 + k) :: st) sh μ cs ss :=
  fun p e s m args below meth c H locs ls hC hH hL => va_iald hC.1 hC.2.1 hC.2.2.2.2.2.2.2.2.1 hH.1 k ti (by rw [xwl_get μ hs, xpic_i h0]) (xtys_at ht) hin hd (kk p e s m args below meth c H locs ls hC hH hL)
theorem sx_bald {k ti n : Nat} {i : Int32} (hd : decode K.2.1 pc = .ok (.baload, 1)) (hs : sh[k]? = some (.inr (ti, n, none))) (h0 : ti ≠ 0) (ht : xty[ti]? = some .byte) (hin : vp_in i n)
    (kk : sx l R X Ex fr K n0 Z (pc + 1) L (.int (μ k i.toNatClampNeg) :: st) sh μ cs ss) : sx l R X Ex fr K n0 Z pc L (.int i :: .ref (X.2 + k) :: st) sh μ cs ss :=
  fun p e s m args below meth c H locs ls hC hH hL => va_bald hC.1 hC.2.1 hC.2.2.2.2.2.2.2.2.1 hH.1 k ti (by rw [xwl_get μ hs, xpic_i h0]) (xtys_at ht) hin hd (kk p e s m args below meth c H locs ls hC hH hL)
theorem sx_zald {k ti n : Nat} {i : Int32} (hd : decode K.2.1 pc = .ok (.baload, 1)) (hs : sh[k]? = some (.inr (ti, n, none))) (h0 : ti ≠ 0) (ht : xty[ti]? = some .boolean) (hin : vp_in i n)
    (kk : sx l R X Ex fr K n0 Z (pc + 1) L (.int (μ k i.toNatClampNeg) :: st) sh μ cs ss) : sx l R X Ex fr K n0 Z pc L (.int i :: .ref (X.2 + k) :: st) sh μ cs ss :=
  fun p e s m args below meth c H locs ls hC hH hL => va_zald hC.1 hC.2.1 hC.2.2.2.2.2.2.2.2.1 hH.1 k ti (by rw [xwl_get μ hs, xpic_i h0]) (xtys_at ht) hin hd (kk p e s m args below meth c H locs ls hC hH hL)
theorem sx_alen {k ti n : Nat} {g : Option (List (Option Nat))} {ty : FieldType} {v : Int32} (hd : decode K.2.1 pc = .ok (.arraylength, 1)) (hs : sh[k]? = some (.inr (ti, n, g))) (ht : xty[ti]? = some ty) (hv : Int32.ofNat n = v)
    (kk : sx l R X Ex fr K n0 Z (pc + 1) L (.int v :: st) sh μ cs ss) : sx l R X Ex fr K n0 Z pc L (.ref (X.2 + k) :: st) sh μ cs ss := by
  intro p e s m args below meth c H locs ls hC hH hL
  cases g with
  | none => exact va_alen (v := v) hC.1 hC.2.1 hC.2.2.2.2.2.2.2.2.1 hH.1 k ti (x := (n, if ti = 0 then .inr (.inl (fun j => (μ k j).toInt64)) else .inl (μ k))) (by rw [xwl_get μ hs]; rfl) (xtys_at ht) hv hd (kk p e s m args below meth c H locs ls hC hH hL)
  | some g => exact va_alen (v := v) hC.1 hC.2.1 hC.2.2.2.2.2.2.2.2.1 hH.1 k ti (x := (n, .inr (.inr (.inr (.inr (fun i => (g.getD i none).map (X.2 + ·))))))) (by rw [xwl_get μ hs]; rfl) (xtys_at ht) hv hd (kk p e s m args below meth c H locs ls hC hH hL)
theorem sx_aald {k ti n r : Nat} {g : List (Option Nat)} {ty : FieldType} {i : Int32} (hd : decode K.2.1 pc = .ok (.aaload, 1)) (hs : sh[k]? = some (.inr (ti, n, some g))) (ht : xty[ti]? = some ty) (hR : ty.isReference = true) (hin : vp_in i n) (hg : g.getD i.toNatClampNeg none = some r)
    (kk : sx l R X Ex fr K n0 Z (pc + 1) L (.ref (X.2 + r) :: st) sh μ cs ss) : sx l R X Ex fr K n0 Z pc L (.int i :: .ref (X.2 + k) :: st) sh μ cs ss := by
  intro p e s m args below meth c H locs ls hC hH hL
  have hlt : i.toNatClampNeg < n := Nat.not_le.mp fun q => hin (Or.inr q)
  have hcell : H[X.2 + k]? = some (vp_cell (X.1.2 ti) (n, .inr (.inr (.inr (.inr (fun i => (g.getD i none).map (X.2 + ·))))))) := hH.1 k _ (xwl_get μ hs)
  rw [vp_cell_q] at hcell
  refine W.aald (v := .ref (X.2 + r)) hC.1 hC.2.1 hcell ((hC.2.2.2.2.2.2.2.2.1.2 ti _ (xtys_at ht)).1 n _) hR (fun q => by cases q) (by rw [arrV_size]; exact hin) (by rw [arrV_read _ _ hlt, hg]; rfl) rfl rfl hd (kk p e s m args below meth c H locs ls hC hH hL)
theorem sx_iast {k ti n : Nat} {i x : Int32} (hd : decode K.2.1 pc = .ok (.iastore, 1)) (hs : sh[k]? = some (.inr (ti, n, none))) (h0 : ti ≠ 0) (ht : xty[ti]? = some .int) (hin : vp_in i n)
    (kk : ∀ μ' : xM, μ' = xup μ k i.toNatClampNeg x → sx l R X Ex fr K n0 Z (pc + 1) L st sh μ' cs ss) : sx l R X Ex fr K n0 Z pc L (.int x :: .int i :: .ref (X.2 + k) :: st) sh μ cs ss := by
  intro p e s m args below meth c H locs ls hC hH hL
  have hkl := (List.getElem?_eq_some_iff.mp hs).1
  refine va_iastz hC.1 hC.2.1 hC.2.2.2.2.2.2.2.2.1 hH.1 (xwl_D hH.2.2.2.1) hH.2.1 k ti (by rw [xwl_get μ hs, xpic_i h0]) (xtys_at ht) hin hd (fun H1 locs1 hz hP hS => ?_)
  have h2 := xH_set hH hkl (xpic_i (X := X) (n := n) (f := upd (μ k) i.toNatClampNeg x) h0).symm hz hP hS
  rw [xsame hs] at h2
  exact kk _ rfl p e s m args below meth c H1 locs1 ls hC h2 hL
theorem sx_bast {k ti n : Nat} {i x : Int32} (hfr : fr = false) (hd : decode K.2.1 pc = .ok (.bastore, 1)) (hs : sh[k]? = some (.inr (ti, n, none))) (h0 : ti ≠ 0) (ht : xty[ti]? = some .byte) (hin : vp_in i n)
    (kk : ∀ μ' : xM, μ' = xup μ k i.toNatClampNeg (vp_nar .byte x) → sx l R X Ex fr K n0 Z (pc + 1) L st sh μ' cs ss) : sx l R X Ex fr K n0 Z pc L (.int x :: .int i :: .ref (X.2 + k) :: st) sh μ cs ss := by
  intro p e s m args below meth c H locs ls hC hH hL
  subst hfr
  have hkl := (List.getElem?_eq_some_iff.mp hs).1
  refine va_bast hC.1 hC.2.1 hC.2.2.2.2.2.2.2.2.1 hH.1 (xwl_D hH.2.2.2.1) hH.2.1 k ti (by rw [xwl_get μ hs, xpic_i h0]) (xtys_at ht) hin hd (fun H1 locs1 hP _ hS => ?_)
  have h2 : xH X false n0 (sh.set k (.inr (ti, n, none))) (va_up μ k (upd (μ k) i.toNatClampNeg (vp_nar .byte x))) s H1 locs1 := by
    rw [← xpic_i (X := X) (n := n) (f := upd (μ k) i.toNatClampNeg (vp_nar .byte x)) h0, xwl_set hkl] at hP
    exact ⟨hP, hS, by rw [List.length_set]; exact hH.2.2.1, fun h => by rw [List.length_set]; exact hH.2.2.2.1 h, fun h => by cases h⟩
  rw [xsame hs] at h2
  exact kk _ rfl p e s m args below meth c H1 locs1 ls hC h2 hL
theorem sx_zast {k ti n : Nat} {i x : Int32} (hfr : fr = false) (hd : decode K.2.1 pc = .ok (.bastore, 1)) (hs : sh[k]? = some (.inr (ti, n, none))) (h0 : ti ≠ 0) (ht : xty[ti]? = some .boolean) (hin : vp_in i n)
    (kk : ∀ μ' : xM, μ' = xup μ k i.toNatClampNeg (vp_nar .boolean x) → sx l R X Ex fr K n0 Z (pc + 1) L st sh μ' cs ss) : sx l R X Ex fr K n0 Z pc L (.int x :: .int i :: .ref (X.2 + k) :: st) sh μ cs ss := by
  intro p e s m args below meth c H locs ls hC hH hL
  subst hfr
  have hkl := (List.getElem?_eq_some_iff.mp hs).1
  refine va_zast hC.1 hC.2.1 hC.2.2.2.2.2.2.2.2.1 hH.1 (xwl_D hH.2.2.2.1) hH.2.1 k ti (by rw [xwl_get μ hs, xpic_i h0]) (xtys_at ht) hin hd (fun H1 locs1 hP _ hS => ?_)
  have h2 : xH X false n0 (sh.set k (.inr (ti, n, none))) (va_up μ k (upd (μ k) i.toNatClampNeg (vp_nar .boolean x))) s H1 locs1 := by
    rw [← xpic_i (X := X) (n := n) (f := upd (μ k) i.toNatClampNeg (vp_nar .boolean x)) h0, xwl_set hkl] at hP
    exact ⟨hP, hS, by rw [List.length_set]; exact hH.2.2.1, fun h => by rw [List.length_set]; exact hH.2.2.2.1 h, fun h => by cases h⟩
  rw [xsame hs] at h2
  exact kk _ rfl p e s m args below meth c H1 locs1 ls hC h2 hL
theorem sx_widen {k n : Nat} (h1 : cs ≤ k) (h2 : ss ≤ n) (kk : sx l R X Ex fr K n0 Z pc L st sh μ k n) : sx l R X Ex fr K n0 Z pc L st sh μ cs ss :=
  fun p e s m args below meth c H locs ls hC hH hL => W.widen h1 h2 (kk p e s m args below meth c H locs ls hC hH hL)
end SXH
end
section
/-! Contracts over the block, and the rows of a call. -/
def xisN : Cond → Bool
  | .fieldLinkNest .. => true
  | .methodLinkNest .. => true
  | _ => false
theorem xnw_warm {w : Cond} (h : xisN w = true) {s U : State} (hW : s.WarmedH U.vm) (hz : va_Nw w s) : va_Nw w U := by
  cases w <;> first | exact va_Nw.warmF hW hz | exact va_Nw.warmM hW hz | cases h
theorem xnw_ok : ∀ w ∈ xnw, xisN w = true := by decide +kernel
def xQ (X : xD) (fr : Bool) (n0 : Nat) (Po : Option Value → List xS → xM → Prop) : Array Value → State → Outcome → State → Prop := fun _ st oc t =>
  (∃ (r : Option Value) (sh' : List xS) (μ' : xM), oc = .returned r ∧ Po r sh' μ' ∧ va_P X.1.1 classes (xwl X sh' μ') t.heap ∧ n0 ≤ sh'.length ∧ (fr = false → sh'.length = n0) ∧ (fr = true → t.heap.size = X.2 + sh'.length)) ∧ va_F (xA X.2 n0 fr) st t
abbrev xZ (X : xD) (fr : Bool) (n0 : Nat) (Po : Option Value → List xS → xM → Prop) (mc ms : Nat) : List Frame → Array Value → State → State → Prop := fun below args s => MQ below (xQ X fr n0 Po) args s mc ms (xA X.2 n0 fr)
def xpre (X : xD) (Ex : State → Prop) (fr : Bool) (sh : List xS) (μ : xM) (U : State) : Prop := va_P X.1.1 classes (xwl X sh μ) U.heap ∧ va_K X.1.1 classes (xtys X) U ∧ (∀ w ∈ xnw, va_Nw w U) ∧ Ex U ∧ (fr = true → U.heap.size = X.2 + sh.length)
/-- what a method is given besides the block stays given -/
def xEs (X : xD) (fr : Bool) (n : Nat) (Ex : State → Prop) : Prop := ∀ s U : State, s.WarmedH U.vm → s.heap.size ≤ U.heap.size → (∀ q, q < s.heap.size → ¬ xA X.2 n fr q → U.heap[q]? = s.heap[q]?) → Ex s → Ex U
theorem xEs_true {X : xD} {fr : Bool} {n : Nat} : xEs X fr n (fun _ => True) := fun _ _ _ _ _ _ => trivial
def Ct (X : xD) (Ex : State → Prop) (fr : Bool) (y : MethodName) (K : xK) (rm : Room) (As : List Value) (sh : List xS) (μ : xM) (Po : Option Value → List xS → xM → Prop) : Prop :=
  ∀ l : Launch, Met l y (.code y K.2.1 K.2.2.1 K.2.2.2.1 :: xws) rm (va_Pc As (xpre X Ex fr sh μ)) (xQ X fr sh.length Po) rm.cells rm.slots (xA X.2 sh.length fr)
theorem xpre_blind {X : xD} {Ex : State → Prop} {fr : Bool} {As : List Value} {sh : List xS} {μ : xM} (hE : xEs X fr sh.length Ex) : FrameBlind (va_Pc As (xpre X Ex fr sh μ)) := by
  rintro a U g mk ⟨rfl, hP, hK, hN, hEx, hf⟩
  refine ⟨rfl, hP, va_K.moved (u := U) (U := U.calling g mk _) (Vm.Alike.refl U.vm) hK, fun w hw => xnw_warm (xnw_ok w hw) (U := U.calling g mk _) (State.WarmedH.refl U) (hN w hw), hE U (U.calling g mk _) (State.WarmedH.refl U) (Nat.le_refl _) (fun _ _ _ => rfl) hEx, hf⟩
theorem xlv_args (As : List Value) (h : ∀ v ∈ As, v.category = 1) (i n : Nat) : xlv (As.map some ++ List.replicate n none) i = lv_args i As := by
  induction As generalizing i with
  | nil =>
    induction n generalizing i with
    | zero => rfl
    | succ n ih => exact ih (i + 1)
  | cons v r ih =>
    have hv := h v List.mem_cons_self
    show (i, v) :: xlv (r.map some ++ List.replicate n none) (i + 1) = lv_args i (v :: r)
    rw [ih (fun w hw => h w (List.mem_cons_of_mem _ hw))]
    simp [lv_args, hv]
theorem lg_sl_len (As : List Value) (h : ∀ v ∈ As, v.category = 1) : (lg_sl As).length = As.length := by
  induction As with
  | nil => rfl
  | cons v r ih =>
    have hv := h v List.mem_cons_self
    have := ih (fun w hw => h w (List.mem_cons_of_mem _ hw))
    unfold lg_sl at this ⊢
    simp [hv, this]
theorem Ct.of {X : xD} {Ex : State → Prop} {fr : Bool} {y : MethodName} {K : xK} {rm : Room} {As : List Value} {sh : List xS} {μ : xM} {Po : Option Value → List xS → xM → Prop} {L0 : List (Option Value)} (hy : plainName y.cls = true) (hK : K.1 = y.cls) (hi : K.2.2.2.2 = true → y.name = "<init>") (hc : ∀ v ∈ As, v.category = 1) (hn : As.length ≤ K.2.2.1) (hL0 : As.map some ++ List.replicate (K.2.2.1 - As.length) none = L0)
    (h : ∀ l : Launch, sx l rm X Ex fr K sh.length (xZ X fr sh.length Po rm.cells rm.slots) 0 L0 [] sh μ 0 0) : Ct X Ex fr y K rm As sh μ Po := by
  intro l
  subst hL0
  refine Met.ofW (cc := K.2.1) (maxL := K.2.2.1) (ret := K.2.2.2.1) hy rfl ?_
  intro p e s m args below meth c s₁ B hml hv
  obtain ⟨rfl, hP, hKk, hN, hEx, hf⟩ := hv
  have hts := atoms_spec (ws := (.code y K.2.1 K.2.2.1 K.2.2.2.1 :: xws)) B.pre
  have hl := lv_entry As (n := K.2.2.1) (by rw [lg_sl_len As hc]; exact hn)
  rw [lg_entry_eq]
  refine h l p e s m As.toArray below meth c s.heap [] _ ⟨B.exec, B.bytes, hml, B.returns, B.notSynchronized, by rw [hK]; exact findClass_of_methodNamed B.named, fun w hw => hts w (List.mem_cons_of_mem _ hw), hN, hKk, hEx, hf, fun q => ?_⟩ ⟨hP, va_S.rf, Nat.le_refl _, fun _ => rfl, hf⟩ ⟨?_, fun j v hj => ?_⟩
  · exact (name_of_methodNamed B.named B.method).1.trans (hi q)
  · rw [xlv_args As hc]
    exact hl
  · have hm := List.mem_of_getElem? hj
    rcases List.mem_append.mp hm with h1 | h1
    · obtain ⟨w, hw, e⟩ := List.mem_map.mp h1
      cases e
      exact hc v hw
    · have := (List.mem_replicate.mp h1).2
      cases this
/-- what the tables say of a method that is called -/
def xcB (y : MethodName) (K : xK) (n : Nat) : Prop := Cond.code y K.2.1 K.2.2.1 K.2.2.2.1 ∈ xws ∧ Cond.initialized y.cls ∈ xws ∧ y.cls ≠ "java/lang/invoke/MethodHandle" ∧ y.cls ≠ "java/lang/invoke/VarHandle" ∧ (parseMethodDescriptor y.desc).map (fun d => d.parameters.length) = some n
def xcV (y : MethodName) (K : xK) (n : Nat) : Prop := xcB y K n ∧ Cond.instanceMethod y ∈ xws ∧ Cond.selects y.cls y y ∈ xws
def xcS (y : MethodName) (K : xK) (n : Nat) : Prop := xcB y K n ∧ Cond.static y ∈ xws
def xcI (y : MethodName) (K : xK) (n : Nat) : Prop := xcB y K n ∧ Cond.instanceMethod y ∈ xws ∧ y.name = "<init>"
theorem xgood {y : MethodName} {K : xK} {n : Nat} (h : xcB y K n) : GoodIn xws (.code y K.2.1 K.2.2.1 K.2.2.2.1 :: xws) := by
  intro w hw
  rcases List.mem_cons.mp hw with rfl | hw
  · exact ⟨h.1, good_of_word (List.mem_filter.mp h.1).2⟩
  · exact ⟨hw, good_of_word (List.mem_filter.mp hw).2⟩
section SXC
variable {l : Launch} {R : Room} {X : xD} {Ex : State → Prop} {fr : Bool} {K K' : xK} {n0 : Nat} {Z : List Frame → Array Value → State → State → Prop} {pc : Nat} {L : List (Option Value)} {st st0 : List Value} {sh : List xS} {μ : xM} {cs ss : Nat} {y : MethodName} {rm : Room} {As : List Value} {Po : Option Value → List xS → xM → Prop}
theorem xA_call {n0 n : Nat} {b : Nat} {fr : Bool} (h : fr = false → n = n0) {q : Nat} (hq : xA b n fr q) : xA b n0 fr q := by
  cases fr with
  | true => exact ⟨hq.1, Or.inl rfl⟩
  | false => rw [← h rfl]; exact hq
/-- behind a call -/
theorem xcall_on {p : Program} {e : Env} {s : State} {m : MethodId} {args : Array Value} {below : List Frame} {meth : Method} {c : Code} {H : Heap} {locs : List Loc} {ls : Array Slot} {aa : Array Value}
    (hC : xC X Ex fr K n0 p s m args meth c) (hH : xH X fr n0 sh μ s H locs) (hL : xL ls K.2.2.1 L)
    (hr : va_Run p l e R s m args below meth c H locs cs ss rm.cells rm.slots (F0 m pc ls st0) st (xQ X fr sh.length Po aa) (xA X.2 sh.length fr))
    (kk : ∀ (r : Option Value) (sh' : List xS) (μ' : xM), Po r sh' μ' → sx l R X Ex fr K n0 Z (pc + 3) L (r.toList ++ st) sh' μ' (cs + rm.cells) (ss + rm.slots)) : W p l e R s m args below meth c H locs cs ss (Z below args s) (F0 m pc ls st0) := by
  intro T hT X'
  obtain ⟨v, st₀, t, T', L', h0, X1, hL', e1, e2, ⟨⟨r, sh', μ', hv, hp, hP', hn', hf', hz'⟩, hzF, hkF⟩, stp⟩ := hr T hT X'
  cases hv
  rw [h0] at hzF hkF
  have hA : ∀ q, xA X.2 sh.length fr q → xA X.2 n0 fr q := fun q => xA_call hH.2.2.2.1
  obtain ⟨t2, a1, b1⟩ := kk _ sh' μ' hp p e s m args below meth c T'.heap (locs ++ L') ls hC ⟨by rw [e1]; exact hP', ⟨Nat.le_trans hH.2.1.1 (by rw [e1]; exact hzF), fun q h1 h2 => by
      rw [e1, hkF q (Nat.lt_of_lt_of_le h1 hH.2.1.1) (fun z => h2 (hA q z))]; exact hH.2.1.2.1 q h1 h2, fun q hq => by
      rcases List.mem_append.mp hq with h | h
      · exact hH.2.1.2.2 q h
      · exact hA _ (hL' q h)⟩, Nat.le_trans hH.2.2.1 hn', fun h => (hf' h).trans (hH.2.2.2.1 h), fun h => by rw [e1]; exact hz' h⟩ hL T' rfl X1
  exact ⟨t2, stp t2 a1, b1⟩
theorem xpre_at {p : Program} {s : State} {m : MethodId} {args : Array Value} {meth : Method} {c : Code} {H : Heap} {locs : List Loc} (hC : xC X Ex fr K n0 p s m args meth c) (hH : xH X fr n0 sh μ s H locs) (hE : xEs X fr n0 Ex) {U : State} (hU : U.heap = H) (hW : s.WarmedH U.vm) : xpre X Ex fr sh μ U := by
  refine ⟨by rw [hU]; exact hH.1, va_K.moved hW.alike hC.2.2.2.2.2.2.2.2.1, fun w hw => xnw_warm (xnw_ok w hw) hW (hC.2.2.2.2.2.2.2.1 w hw), hE s U hW (by rw [hU]; exact hH.2.1.1) (fun q h1 h2 => by rw [hU]; exact hH.2.1.2.1 q h1 h2) hC.2.2.2.2.2.2.2.2.2.1, fun h => by rw [hU]; exact hH.2.2.2.2 h⟩
theorem xEs_sub {n0 n : Nat} (hE : xEs X fr n0 Ex) (h : fr = false → n = n0) : xEs X fr n Ex := fun s U hW hz hk hx => hE s U hW hz (fun q h1 h2 => hk q h1 (fun z => h2 (xA_call h z))) hx
theorem xroom {m : MethodId} {pc : Nat} {ls : Array Slot} {st0 st : List Value} (h : (st.map fun v => v.category).sum ≤ 8) : 2 * (F0 m pc ls st0).monitorRoom + (st.map fun v => v.category).sum ≤ 8 := by
  simpa [JFrame.monitorRoom] using h
theorem sx_callV {i k ci N : Nat} {T : u_T} {fl : List (Option (Option Nat))} (hd : decode K.2.1 pc = .ok (.invokevirtual i, 3)) (hct : Ct X Ex fr y K' rm (.ref (X.2 + k) :: As) sh μ Po) (hw : xcV y K' As.length) (hl : Cond.methodLink K.1 i y ∈ xws) (hst : st0 = As.reverse ++ .ref (X.2 + k) :: st) (hs : sh[k]? = some (.inl (ci, fl))) (hc : classes[ci]? = some (y.cls, T, N)) (hm : rm.frames + 1 ≤ R.frames ∧ 8 + (K'.2.2.1 + 11) + rm.locals ≤ R.locals) (hf : cs + rm.cells ≤ R.cells ∧ ss + rm.slots ≤ R.slots) (h8 : (st.map fun v => v.category).sum ≤ 8) (hE : xEs X fr n0 Ex)
    (kk : ∀ (r : Option Value) (sh' : List xS) (μ' : xM), Po r sh' μ' → sx l R X Ex fr K n0 Z (pc + 3) L (r.toList ++ st) sh' μ' (cs + rm.cells) (ss + rm.slots)) : sx l R X Ex fr K n0 Z pc L st0 sh μ cs ss := by
  intro p e s m args below meth c H locs ls hC hH hL
  subst hst
  have hts := hC.2.2.2.2.2.2.1
  refine xcall_on hC hH hL (va_runV (As := As) (rest := st) (C := y.cls) ⟨hC.1, hC.2.1, hC.2.2.1, hC.2.2.2.2.2.1, hts⟩ (hct l) ⟨callB_of As.length hts (xgood hw.1) rfl rfl rfl (hts _ hw.1.2.1) (hts _ hl) hw.1.2.2 hm, hts _ hw.2.1, hts _ hw.2.2⟩ ⟨xpre_blind (xEs_sub hE hH.2.2.2.1), va_recv hC.2.2.2.2.2.2.2.2.1 hH.1 hc (xwl_get μ hs), fun U hU hW => ⟨rfl, xpre_at hC hH hE hU hW⟩⟩ rfl rfl hL.1.1 rfl (xroom h8) hd hf) kk
theorem sx_callS {i : Nat} (hd : decode K.2.1 pc = .ok (.invokestatic i, 3)) (hct : Ct X Ex fr y K' rm As sh μ Po) (hw : xcS y K' As.length) (hl : Cond.methodLink K.1 i y ∈ xws) (hst : st0 = As.reverse ++ st) (hm : rm.frames + 1 ≤ R.frames ∧ 8 + (K'.2.2.1 + 11) + rm.locals ≤ R.locals) (hf : cs + rm.cells ≤ R.cells ∧ ss + rm.slots ≤ R.slots) (h8 : (st.map fun v => v.category).sum ≤ 8) (hE : xEs X fr n0 Ex)
    (kk : ∀ (r : Option Value) (sh' : List xS) (μ' : xM), Po r sh' μ' → sx l R X Ex fr K n0 Z (pc + 3) L (r.toList ++ st) sh' μ' (cs + rm.cells) (ss + rm.slots)) : sx l R X Ex fr K n0 Z pc L st0 sh μ cs ss := by
  intro p e s m args below meth c H locs ls hC hH hL
  subst hst
  have hts := hC.2.2.2.2.2.2.1
  refine xcall_on hC hH hL (va_runS (As := As) (rest := st) ⟨hC.1, hC.2.1, hC.2.2.1, hC.2.2.2.2.2.1, hts⟩ (hct l) ⟨callB_of As.length hts (xgood hw.1) rfl rfl rfl (hts _ hw.1.2.1) (hts _ hl) hw.1.2.2 hm, hts _ hw.2⟩ ⟨xpre_blind (xEs_sub hE hH.2.2.2.1), fun U hU hW => ⟨rfl, xpre_at hC hH hE hU hW⟩⟩ rfl rfl hL.1.1 rfl (xroom h8) hd hf) kk
theorem sx_callSN {i : Nat} {host : String} (hd : decode K.2.1 pc = .ok (.invokestatic i, 3)) (hct : Ct X Ex fr y K' rm As sh μ Po) (hw : xcS y K' As.length) (hl : Cond.methodLinkNest K.1 i y host ∈ xnw) (hst : st0 = As.reverse ++ st) (hm : rm.frames + 1 ≤ R.frames ∧ 8 + (K'.2.2.1 + 11) + rm.locals ≤ R.locals) (hf : cs + rm.cells ≤ R.cells ∧ ss + rm.slots ≤ R.slots) (h8 : (st.map fun v => v.category).sum ≤ 8) (hE : xEs X fr n0 Ex)
    (kk : ∀ (r : Option Value) (sh' : List xS) (μ' : xM), Po r sh' μ' → sx l R X Ex fr K n0 Z (pc + 3) L (r.toList ++ st) sh' μ' (cs + rm.cells) (ss + rm.slots)) : sx l R X Ex fr K n0 Z pc L st0 sh μ cs ss := by
  intro p e s m args below meth c H locs ls hC hH hL
  subst hst
  have hts := hC.2.2.2.2.2.2.1
  refine xcall_on hC hH hL (va_runSN (As := As) (rest := st) ⟨hC.1, hC.2.1, hC.2.2.1, hC.2.2.2.2.2.1, hts⟩ (hct l) ⟨va_cnB As.length hts (xgood hw.1) rfl rfl rfl (hC.2.2.2.2.2.2.2.1 _ hl) (hts _ hw.1.2.1) hw.1.2.2 hm, hts _ hw.2, trivial⟩ ⟨xpre_blind (xEs_sub hE hH.2.2.2.1), fun U hU hW => ⟨rfl, xpre_at hC hH hE hU hW⟩⟩ rfl rfl hL.1.1 rfl (xroom h8) hd hf) kk
theorem sx_callI {i k : Nat} (hr : K'.2.2.2.1 = none) (hd : decode K.2.1 pc = .ok (.invokespecial i, 3)) (hct : Ct X Ex fr y K' rm (.ref (X.2 + k) :: As) sh μ Po) (hw : xcI y K' As.length) (hl : Cond.methodLink K.1 i y ∈ xws) (hst : st0 = As.reverse ++ .ref (X.2 + k) :: st) (hm : rm.frames + 1 ≤ R.frames ∧ 8 + (K'.2.2.1 + 11) + rm.locals ≤ R.locals) (hf : cs + rm.cells ≤ R.cells ∧ ss + rm.slots ≤ R.slots) (h8 : (st.map fun v => v.category).sum ≤ 8) (hE : xEs X fr n0 Ex)
    (kk : ∀ (r : Option Value) (sh' : List xS) (μ' : xM), Po r sh' μ' → sx l R X Ex fr K n0 Z (pc + 3) L (r.toList ++ st) sh' μ' (cs + rm.cells) (ss + rm.slots)) : sx l R X Ex fr K n0 Z pc L st0 sh μ cs ss := by
  intro p e s m args below meth c H locs ls hC hH hL
  subst hst
  obtain ⟨KA, KB, KC, KD, KE⟩ := K'
  have hr : KD = none := hr
  subst hr
  have hts := hC.2.2.2.2.2.2.1
  refine xcall_on hC hH hL (va_runI (As := As) (rest := st) ⟨hC.1, hC.2.1, hC.2.2.1, hC.2.2.2.2.2.1, hts⟩ (hct l) ⟨callB_of As.length hts (xgood hw.1) rfl rfl rfl (hts _ hw.1.2.1) (hts _ hl) hw.1.2.2 hm, hw.2.2, hts _ hw.2.1⟩ ⟨xpre_blind (xEs_sub hE hH.2.2.2.1), fun U hU hW => ⟨rfl, xpre_at hC hH hE hU hW⟩⟩ rfl rfl hL.1.1 rfl (xroom h8) hd hf) kk
theorem sx_callIN {i k : Nat} {host : String} (hr : K'.2.2.2.1 = none) (hd : decode K.2.1 pc = .ok (.invokespecial i, 3)) (hct : Ct X Ex fr y K' rm (.ref (X.2 + k) :: As) sh μ Po) (hw : xcI y K' As.length) (hl : Cond.methodLinkNest K.1 i y host ∈ xnw) (hst : st0 = As.reverse ++ .ref (X.2 + k) :: st) (hm : rm.frames + 1 ≤ R.frames ∧ 8 + (K'.2.2.1 + 11) + rm.locals ≤ R.locals) (hf : cs + rm.cells ≤ R.cells ∧ ss + rm.slots ≤ R.slots) (h8 : (st.map fun v => v.category).sum ≤ 8) (hE : xEs X fr n0 Ex)
    (kk : ∀ (r : Option Value) (sh' : List xS) (μ' : xM), Po r sh' μ' → sx l R X Ex fr K n0 Z (pc + 3) L (r.toList ++ st) sh' μ' (cs + rm.cells) (ss + rm.slots)) : sx l R X Ex fr K n0 Z pc L st0 sh μ cs ss := by
  intro p e s m args below meth c H locs ls hC hH hL
  subst hst
  obtain ⟨KA, KB, KC, KD, KE⟩ := K'
  have hr : KD = none := hr
  subst hr
  have hts := hC.2.2.2.2.2.2.1
  refine xcall_on hC hH hL (va_runIN (As := As) (rest := st) ⟨hC.1, hC.2.1, hC.2.2.1, hC.2.2.2.2.2.1, hts⟩ (hct l) ⟨va_cnB As.length hts (xgood hw.1) rfl rfl rfl (hC.2.2.2.2.2.2.2.1 _ hl) (hts _ hw.1.2.1) hw.1.2.2 hm, hw.2.2, hts _ hw.2.1⟩ ⟨xpre_blind (xEs_sub hE hH.2.2.2.1), fun U hU hW => ⟨rfl, xpre_at hC hH hE hU hW⟩⟩ rfl rfl hL.1.1 rfl (xroom h8) hd hf) kk
theorem sx_iret {ty : FieldType} {v : Int32} {mc ms : Nat} (hd : decode K.2.1 pc = .ok (.ireturn, 1)) (hr : K.2.2.2.1 = some ty) (hn : narrow ty (.int v) = .int v) (h1 : cs ≤ mc) (h2 : ss ≤ ms) (hp : Po (some (.int v)) sh μ) : sx l R X Ex fr K n0 (xZ X fr n0 Po mc ms) pc L [.int v] sh μ cs ss := by
  intro p e s m args below meth c H locs ls hC hH hL
  have hlocks := hC.2.2.2.2.1
  refine W.widen h1 h2 (W.zret (ty := ty) hC.1 hC.2.1 (hC.2.2.2.1.trans hr) hn (fun t ht hW => ⟨⟨_, sh, μ, rfl, hp, by rw [ht]; exact hH.1, hH.2.2.1, hH.2.2.2.1, fun h => by rw [ht]; exact hH.2.2.2.2 h⟩, hH.2.1.F ht⟩) hH.2.1.2.2 hd)
theorem sx_vret {mc ms : Nat} (hd : decode K.2.1 pc = .ok (.return_, 1)) (hr : K.2.2.2.1 = none) (h1 : cs ≤ mc) (h2 : ss ≤ ms) (hp : Po none sh μ) : sx l R X Ex fr K n0 (xZ X fr n0 Po mc ms) pc L [] sh μ cs ss := by
  intro p e s m args below meth c H locs ls hC hH hL
  have hlocks := hC.2.2.2.2.1
  refine W.widen h1 h2 (W.vret hC.1 hC.2.1 (hC.2.2.2.1.trans hr) (fun t ht hW => ⟨⟨_, sh, μ, rfl, hp, by rw [ht]; exact hH.1, hH.2.2.1, hH.2.2.2.1, fun h => by rw [ht]; exact hH.2.2.2.2 h⟩, hH.2.1.F ht⟩) hH.2.1.2.2 hd)
end SXC
end
