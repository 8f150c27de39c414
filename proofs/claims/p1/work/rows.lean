section
-- ===== PART A: goes FIRST, ahead of the names: the tables' words, and 'selects' of the private methods out of them =====
/-- a private method of a class that the tables say can be made, by its rows of tables_1 -/
def lw_okq (q : MethodName × Nat) : Prop := (q.1.cls ≠ "java/lang/invoke/MethodHandle" ∧ q.1.cls ≠ "java/lang/invoke/VarHandle") ∧ Cond.instantiable q.1.cls q.2 ∈ tables_1 ∧ Cond.privateMethod q.1 ∈ tables_1 ∧ Cond.instanceMethod q.1 ∈ tables_1
theorem lw_p0 : lw_okq (⟨"ExchangeWire", "endMessage", "(ILExchangeWire$Line;)V"⟩, 5) := ⟨⟨by decide +kernel, by decide +kernel⟩, List.mem_of_getElem? (i := 20) (by decide +kernel), List.mem_of_getElem? (i := 207) (by decide +kernel), List.mem_of_getElem? (i := 208) (by decide +kernel)⟩
theorem lw_p1 : lw_okq (⟨"ExchangeWire$Message", "forget", "()V"⟩, 5) := ⟨⟨by decide +kernel, by decide +kernel⟩, List.mem_of_getElem? (i := 143) (by decide +kernel), List.mem_of_getElem? (i := 215) (by decide +kernel), List.mem_of_getElem? (i := 216) (by decide +kernel)⟩
theorem lw_p2 : lw_okq (⟨"ExchangeWire$Message", "readField", "(I[III)I"⟩, 5) := ⟨⟨by decide +kernel, by decide +kernel⟩, List.mem_of_getElem? (i := 143) (by decide +kernel), List.mem_of_getElem? (i := 278) (by decide +kernel), List.mem_of_getElem? (i := 279) (by decide +kernel)⟩
theorem lw_p3 : lw_okq (⟨"ExchangeWire$Message", "keepField", "(II)V"⟩, 5) := ⟨⟨by decide +kernel, by decide +kernel⟩, List.mem_of_getElem? (i := 143) (by decide +kernel), List.mem_of_getElem? (i := 285) (by decide +kernel), List.mem_of_getElem? (i := 286) (by decide +kernel)⟩
theorem lw_p4 : lw_okq (⟨"ExchangeWire$Reply", "add", "(I)V"⟩, 2) := ⟨⟨by decide +kernel, by decide +kernel⟩, List.mem_of_getElem? (i := 35) (by decide +kernel), List.mem_of_getElem? (i := 302) (by decide +kernel), List.mem_of_getElem? (i := 303) (by decide +kernel)⟩
theorem lw_p5 : lw_okq (⟨"ExchangeWire$Reply", "addSumAndEnd", "()V"⟩, 2) := ⟨⟨by decide +kernel, by decide +kernel⟩, List.mem_of_getElem? (i := 35) (by decide +kernel), List.mem_of_getElem? (i := 306) (by decide +kernel), List.mem_of_getElem? (i := 307) (by decide +kernel)⟩
theorem lw_p6 : lw_okq (⟨"ExchangeWire$Reply", "addSource", "(LExchangeWire$Message;)V"⟩, 2) := ⟨⟨by decide +kernel, by decide +kernel⟩, List.mem_of_getElem? (i := 35) (by decide +kernel), List.mem_of_getElem? (i := 316) (by decide +kernel), List.mem_of_getElem? (i := 317) (by decide +kernel)⟩
theorem lw_p7 : lw_okq (⟨"ExchangeWire", "doMessage", "(ILExchangeWire$Line;)V"⟩, 5) := ⟨⟨by decide +kernel, by decide +kernel⟩, List.mem_of_getElem? (i := 20) (by decide +kernel), List.mem_of_getElem? (i := 320) (by decide +kernel), List.mem_of_getElem? (i := 321) (by decide +kernel)⟩
theorem lw_p8 : lw_okq (⟨"ExchangeWire$Message", "isGoodField", "(I)Z"⟩, 5) := ⟨⟨by decide +kernel, by decide +kernel⟩, List.mem_of_getElem? (i := 143) (by decide +kernel), List.mem_of_getElem? (i := 328) (by decide +kernel), List.mem_of_getElem? (i := 329) (by decide +kernel)⟩
theorem lw_p9 : lw_okq (⟨"ExchangeWire", "carryOut", "(I)Z"⟩, 5) := ⟨⟨by decide +kernel, by decide +kernel⟩, List.mem_of_getElem? (i := 20) (by decide +kernel), List.mem_of_getElem? (i := 338) (by decide +kernel), List.mem_of_getElem? (i := 339) (by decide +kernel)⟩
theorem lw_p10 : lw_okq (⟨"ExchangeWire$House", "lend", "(II)Z"⟩, 5) := ⟨⟨by decide +kernel, by decide +kernel⟩, List.mem_of_getElem? (i := 101) (by decide +kernel), List.mem_of_getElem? (i := 346) (by decide +kernel), List.mem_of_getElem? (i := 347) (by decide +kernel)⟩
theorem lw_p11 : lw_okq (⟨"ExchangeWire$House", "dropFirst", "(I)V"⟩, 5) := ⟨⟨by decide +kernel, by decide +kernel⟩, List.mem_of_getElem? (i := 101) (by decide +kernel), List.mem_of_getElem? (i := 350) (by decide +kernel), List.mem_of_getElem? (i := 351) (by decide +kernel)⟩
theorem lw_p12 : lw_okq (⟨"ExchangeWire$House", "bringBack", "(I)Z"⟩, 5) := ⟨⟨by decide +kernel, by decide +kernel⟩, List.mem_of_getElem? (i := 101) (by decide +kernel), List.mem_of_getElem? (i := 354) (by decide +kernel), List.mem_of_getElem? (i := 355) (by decide +kernel)⟩
theorem lw_p13 : lw_okq (⟨"ExchangeWire$House", "pay", "(II)Z"⟩, 5) := ⟨⟨by decide +kernel, by decide +kernel⟩, List.mem_of_getElem? (i := 101) (by decide +kernel), List.mem_of_getElem? (i := 358) (by decide +kernel), List.mem_of_getElem? (i := 359) (by decide +kernel)⟩
theorem lw_p14 : lw_okq (⟨"ExchangeWire$House", "queueUp", "(II)Z"⟩, 5) := ⟨⟨by decide +kernel, by decide +kernel⟩, List.mem_of_getElem? (i := 101) (by decide +kernel), List.mem_of_getElem? (i := 362) (by decide +kernel), List.mem_of_getElem? (i := 363) (by decide +kernel)⟩
theorem lw_p15 : lw_okq (⟨"ExchangeWire$House", "isInQueue", "(II)Z"⟩, 5) := ⟨⟨by decide +kernel, by decide +kernel⟩, List.mem_of_getElem? (i := 101) (by decide +kernel), List.mem_of_getElem? (i := 366) (by decide +kernel), List.mem_of_getElem? (i := 367) (by decide +kernel)⟩
def lw_privs_1 : List (MethodName × Nat) := [(⟨"ExchangeWire", "endMessage", "(ILExchangeWire$Line;)V"⟩, 5), (⟨"ExchangeWire$Message", "forget", "()V"⟩, 5), (⟨"ExchangeWire$Message", "readField", "(I[III)I"⟩, 5), (⟨"ExchangeWire$Message", "keepField", "(II)V"⟩, 5), (⟨"ExchangeWire$Reply", "add", "(I)V"⟩, 2), (⟨"ExchangeWire$Reply", "addSumAndEnd", "()V"⟩, 2), (⟨"ExchangeWire$Reply", "addSource", "(LExchangeWire$Message;)V"⟩, 2), (⟨"ExchangeWire", "doMessage", "(ILExchangeWire$Line;)V"⟩, 5), (⟨"ExchangeWire$Message", "isGoodField", "(I)Z"⟩, 5), (⟨"ExchangeWire", "carryOut", "(I)Z"⟩, 5), (⟨"ExchangeWire$House", "lend", "(II)Z"⟩, 5), (⟨"ExchangeWire$House", "dropFirst", "(I)V"⟩, 5), (⟨"ExchangeWire$House", "bringBack", "(I)Z"⟩, 5), (⟨"ExchangeWire$House", "pay", "(II)Z"⟩, 5), (⟨"ExchangeWire$House", "queueUp", "(II)Z"⟩, 5), (⟨"ExchangeWire$House", "isInQueue", "(II)Z"⟩, 5)]
theorem lw_r1 : ∀ q ∈ lw_privs_1, lw_okq q := List.forall_mem_cons.mpr ⟨lw_p0, List.forall_mem_cons.mpr ⟨lw_p1, List.forall_mem_cons.mpr ⟨lw_p2, List.forall_mem_cons.mpr ⟨lw_p3, List.forall_mem_cons.mpr ⟨lw_p4, List.forall_mem_cons.mpr ⟨lw_p5, List.forall_mem_cons.mpr ⟨lw_p6, List.forall_mem_cons.mpr ⟨lw_p7, List.forall_mem_cons.mpr ⟨lw_p8, List.forall_mem_cons.mpr ⟨lw_p9, List.forall_mem_cons.mpr ⟨lw_p10, List.forall_mem_cons.mpr ⟨lw_p11, List.forall_mem_cons.mpr ⟨lw_p12, List.forall_mem_cons.mpr ⟨lw_p13, List.forall_mem_cons.mpr ⟨lw_p14, List.forall_mem_cons.mpr ⟨lw_p15, fun _ h => absurd h List.not_mem_nil⟩⟩⟩⟩⟩⟩⟩⟩⟩⟩⟩⟩⟩⟩⟩⟩
theorem lw_p16 : lw_okq (⟨"ExchangeWire$House", "renew", "(II)Z"⟩, 5) := ⟨⟨by decide +kernel, by decide +kernel⟩, List.mem_of_getElem? (i := 101) (by decide +kernel), List.mem_of_getElem? (i := 371) (by decide +kernel), List.mem_of_getElem? (i := 372) (by decide +kernel)⟩
theorem lw_p17 : lw_okq (⟨"ExchangeWire$House", "itemsOf", "(I)I"⟩, 5) := ⟨⟨by decide +kernel, by decide +kernel⟩, List.mem_of_getElem? (i := 101) (by decide +kernel), List.mem_of_getElem? (i := 388) (by decide +kernel), List.mem_of_getElem? (i := 389) (by decide +kernel)⟩
theorem lw_p18 : lw_okq (⟨"ExchangeWire$Reply", "addDigits", "(I)V"⟩, 2) := ⟨⟨by decide +kernel, by decide +kernel⟩, List.mem_of_getElem? (i := 35) (by decide +kernel), List.mem_of_getElem? (i := 396) (by decide +kernel), List.mem_of_getElem? (i := 397) (by decide +kernel)⟩
theorem lw_p19 : lw_okq (⟨"java/lang/Throwable", "fillInStackTrace", "(I)Ljava/lang/Throwable;"⟩, 6) := ⟨⟨by decide +kernel, by decide +kernel⟩, List.mem_of_getElem? (i := 509) (by decide +kernel), List.mem_of_getElem? (i := 507) (by decide +kernel), List.mem_of_getElem? (i := 508) (by decide +kernel)⟩
theorem lw_p20 : lw_okq (⟨"ExchangeWireModel", "answers", "(I)V"⟩, 30) := ⟨⟨by decide +kernel, by decide +kernel⟩, List.mem_of_getElem? (i := 541) (by decide +kernel), List.mem_of_getElem? (i := 653) (by decide +kernel), List.mem_of_getElem? (i := 654) (by decide +kernel)⟩
theorem lw_p21 : lw_okq (⟨"ExchangeWireModel", "reads", "(I)Z"⟩, 30) := ⟨⟨by decide +kernel, by decide +kernel⟩, List.mem_of_getElem? (i := 541) (by decide +kernel), List.mem_of_getElem? (i := 657) (by decide +kernel), List.mem_of_getElem? (i := 658) (by decide +kernel)⟩
theorem lw_p22 : lw_okq (⟨"ExchangeWireModel", "look", "(I)I"⟩, 30) := ⟨⟨by decide +kernel, by decide +kernel⟩, List.mem_of_getElem? (i := 541) (by decide +kernel), List.mem_of_getElem? (i := 661) (by decide +kernel), List.mem_of_getElem? (i := 662) (by decide +kernel)⟩
theorem lw_p23 : lw_okq (⟨"ExchangeWireModel", "field", "(II)I"⟩, 30) := ⟨⟨by decide +kernel, by decide +kernel⟩, List.mem_of_getElem? (i := 541) (by decide +kernel), List.mem_of_getElem? (i := 671) (by decide +kernel), List.mem_of_getElem? (i := 672) (by decide +kernel)⟩
theorem lw_p24 : lw_okq (⟨"ExchangeWireModel", "put", "(II)V"⟩, 30) := ⟨⟨by decide +kernel, by decide +kernel⟩, List.mem_of_getElem? (i := 541) (by decide +kernel), List.mem_of_getElem? (i := 681) (by decide +kernel), List.mem_of_getElem? (i := 682) (by decide +kernel)⟩
theorem lw_p25 : lw_okq (⟨"ExchangeWireModel", "close", "(I)V"⟩, 30) := ⟨⟨by decide +kernel, by decide +kernel⟩, List.mem_of_getElem? (i := 541) (by decide +kernel), List.mem_of_getElem? (i := 685) (by decide +kernel), List.mem_of_getElem? (i := 686) (by decide +kernel)⟩
theorem lw_p26 : lw_okq (⟨"ExchangeWireModel", "finish", "(IZ)V"⟩, 30) := ⟨⟨by decide +kernel, by decide +kernel⟩, List.mem_of_getElem? (i := 541) (by decide +kernel), List.mem_of_getElem? (i := 692) (by decide +kernel), List.mem_of_getElem? (i := 693) (by decide +kernel)⟩
theorem lw_p27 : lw_okq (⟨"ExchangeWireModel", "again", "(I)V"⟩, 30) := ⟨⟨by decide +kernel, by decide +kernel⟩, List.mem_of_getElem? (i := 541) (by decide +kernel), List.mem_of_getElem? (i := 696) (by decide +kernel), List.mem_of_getElem? (i := 697) (by decide +kernel)⟩
theorem lw_p28 : lw_okq (⟨"ExchangeWireModel", "bad", "()I"⟩, 30) := ⟨⟨by decide +kernel, by decide +kernel⟩, List.mem_of_getElem? (i := 541) (by decide +kernel), List.mem_of_getElem? (i := 700) (by decide +kernel), List.mem_of_getElem? (i := 701) (by decide +kernel)⟩
theorem lw_p29 : lw_okq (⟨"ExchangeWireModel", "judge", "(II)I"⟩, 30) := ⟨⟨by decide +kernel, by decide +kernel⟩, List.mem_of_getElem? (i := 541) (by decide +kernel), List.mem_of_getElem? (i := 705) (by decide +kernel), List.mem_of_getElem? (i := 706) (by decide +kernel)⟩
theorem lw_p30 : lw_okq (⟨"ExchangeWireModel", "lends", "(II)I"⟩, 30) := ⟨⟨by decide +kernel, by decide +kernel⟩, List.mem_of_getElem? (i := 541) (by decide +kernel), List.mem_of_getElem? (i := 709) (by decide +kernel), List.mem_of_getElem? (i := 710) (by decide +kernel)⟩
theorem lw_p31 : lw_okq (⟨"ExchangeWireModel", "enter", "(IIIII)V"⟩, 30) := ⟨⟨by decide +kernel, by decide +kernel⟩, List.mem_of_getElem? (i := 541) (by decide +kernel), List.mem_of_getElem? (i := 713) (by decide +kernel), List.mem_of_getElem? (i := 714) (by decide +kernel)⟩
def lw_privs_2 : List (MethodName × Nat) := [(⟨"ExchangeWire$House", "renew", "(II)Z"⟩, 5), (⟨"ExchangeWire$House", "itemsOf", "(I)I"⟩, 5), (⟨"ExchangeWire$Reply", "addDigits", "(I)V"⟩, 2), (⟨"java/lang/Throwable", "fillInStackTrace", "(I)Ljava/lang/Throwable;"⟩, 6), (⟨"ExchangeWireModel", "answers", "(I)V"⟩, 30), (⟨"ExchangeWireModel", "reads", "(I)Z"⟩, 30), (⟨"ExchangeWireModel", "look", "(I)I"⟩, 30), (⟨"ExchangeWireModel", "field", "(II)I"⟩, 30), (⟨"ExchangeWireModel", "put", "(II)V"⟩, 30), (⟨"ExchangeWireModel", "close", "(I)V"⟩, 30), (⟨"ExchangeWireModel", "finish", "(IZ)V"⟩, 30), (⟨"ExchangeWireModel", "again", "(I)V"⟩, 30), (⟨"ExchangeWireModel", "bad", "()I"⟩, 30), (⟨"ExchangeWireModel", "judge", "(II)I"⟩, 30), (⟨"ExchangeWireModel", "lends", "(II)I"⟩, 30), (⟨"ExchangeWireModel", "enter", "(IIIII)V"⟩, 30)]
theorem lw_r2 : ∀ q ∈ lw_privs_2, lw_okq q := List.forall_mem_cons.mpr ⟨lw_p16, List.forall_mem_cons.mpr ⟨lw_p17, List.forall_mem_cons.mpr ⟨lw_p18, List.forall_mem_cons.mpr ⟨lw_p19, List.forall_mem_cons.mpr ⟨lw_p20, List.forall_mem_cons.mpr ⟨lw_p21, List.forall_mem_cons.mpr ⟨lw_p22, List.forall_mem_cons.mpr ⟨lw_p23, List.forall_mem_cons.mpr ⟨lw_p24, List.forall_mem_cons.mpr ⟨lw_p25, List.forall_mem_cons.mpr ⟨lw_p26, List.forall_mem_cons.mpr ⟨lw_p27, List.forall_mem_cons.mpr ⟨lw_p28, List.forall_mem_cons.mpr ⟨lw_p29, List.forall_mem_cons.mpr ⟨lw_p30, List.forall_mem_cons.mpr ⟨lw_p31, fun _ h => absurd h List.not_mem_nil⟩⟩⟩⟩⟩⟩⟩⟩⟩⟩⟩⟩⟩⟩⟩⟩
theorem lw_p32 : lw_okq (⟨"ExchangeWireModel", "items", "(I)I"⟩, 30) := ⟨⟨by decide +kernel, by decide +kernel⟩, List.mem_of_getElem? (i := 541) (by decide +kernel), List.mem_of_getElem? (i := 717) (by decide +kernel), List.mem_of_getElem? (i := 718) (by decide +kernel)⟩
theorem lw_p33 : lw_okq (⟨"ExchangeWireModel", "brings", "(II)I"⟩, 30) := ⟨⟨by decide +kernel, by decide +kernel⟩, List.mem_of_getElem? (i := 541) (by decide +kernel), List.mem_of_getElem? (i := 721) (by decide +kernel), List.mem_of_getElem? (i := 722) (by decide +kernel)⟩
theorem lw_p34 : lw_okq (⟨"ExchangeWireModel", "placeOf", "(II)I"⟩, 30) := ⟨⟨by decide +kernel, by decide +kernel⟩, List.mem_of_getElem? (i := 541) (by decide +kernel), List.mem_of_getElem? (i := 725) (by decide +kernel), List.mem_of_getElem? (i := 726) (by decide +kernel)⟩
def lw_privs_3 : List (MethodName × Nat) := [(⟨"ExchangeWireModel", "items", "(I)I"⟩, 30), (⟨"ExchangeWireModel", "brings", "(II)I"⟩, 30), (⟨"ExchangeWireModel", "placeOf", "(II)I"⟩, 30)]
theorem lw_r3 : ∀ q ∈ lw_privs_3, lw_okq q := List.forall_mem_cons.mpr ⟨lw_p32, List.forall_mem_cons.mpr ⟨lw_p33, List.forall_mem_cons.mpr ⟨lw_p34, fun _ h => absurd h List.not_mem_nil⟩⟩⟩
def lw_privs : List (MethodName × Nat) := lw_privs_1 ++ (lw_privs_2 ++ (lw_privs_3))
def lw_tbl : List Cond := k2_sels lw_privs ++ tables_1
theorem lw_privs_ok : ∀ q ∈ lw_privs, lw_okq q := by
  show ∀ q ∈ lw_privs_1 ++ (lw_privs_2 ++ (lw_privs_3)), lw_okq q
  exact List.forall_mem_append.mpr ⟨lw_r1, List.forall_mem_append.mpr ⟨lw_r2, lw_r3⟩⟩
end
section
def RX0 : String := "ExchangeWire$House"
def TX0 : u_T := fun k => match k with
  | 0 => ("ExchangeWire$House", "debts", "[I", true)
  | 1 => ("ExchangeWire$House", "borrowers", "[I", true)
  | 2 => ("ExchangeWire$House", "renewals", "[I", true)
  | 3 => ("ExchangeWire$House", "queues", "[[I", true)
  | _ => ("ExchangeWire$House", "queueLengths", "[I", true)
def tyX0 : Nat → FieldType := fun k => match k with
  | 0 => .array .int
  | 1 => .array .int
  | 2 => .array .int
  | 3 => .array (.array .int)
  | _ => .array .int
theorem nmX0 : ∀ a, a < 5 → ∀ b, b < 5 → a ≠ b → (TX0 a).2.1 ≠ (TX0 b).2.1 := by decide +kernel
theorem tyX0_ok : ∀ k, k < 5 → parseFieldDescriptor (TX0 k).2.2.1 = some (tyX0 k) := by decide +kernel
abbrev cX0_init : ByteArray := prog_2_method_1_code
def yX0_init : MethodName := ⟨RX0, "<init>", "()V"⟩
abbrev cX0_decide : ByteArray := prog_2_method_2_code
def yX0_decide : MethodName := ⟨RX0, "decide", "(LExchangeWire$Message;)Z"⟩
abbrev cX0_figureFor : ByteArray := prog_2_method_3_code
def yX0_figureFor : MethodName := ⟨RX0, "figureFor", "(LExchangeWire$Message;)I"⟩
abbrev cX0_lend : ByteArray := prog_2_method_4_code
def yX0_lend : MethodName := ⟨RX0, "lend", "(II)Z"⟩
abbrev cX0_bringBack : ByteArray := prog_2_method_5_code
def yX0_bringBack : MethodName := ⟨RX0, "bringBack", "(I)Z"⟩
abbrev cX0_pay : ByteArray := prog_2_method_6_code
def yX0_pay : MethodName := ⟨RX0, "pay", "(II)Z"⟩
abbrev cX0_queueUp : ByteArray := prog_2_method_7_code
def yX0_queueUp : MethodName := ⟨RX0, "queueUp", "(II)Z"⟩
abbrev cX0_renew : ByteArray := prog_2_method_8_code
def yX0_renew : MethodName := ⟨RX0, "renew", "(II)Z"⟩
abbrev cX0_itemsOf : ByteArray := prog_2_method_9_code
def yX0_itemsOf : MethodName := ⟨RX0, "itemsOf", "(I)I"⟩
abbrev cX0_isInQueue : ByteArray := prog_2_method_10_code
def yX0_isInQueue : MethodName := ⟨RX0, "isInQueue", "(II)Z"⟩
abbrev cX0_dropFirst : ByteArray := prog_2_method_11_code
def yX0_dropFirst : MethodName := ⟨RX0, "dropFirst", "(I)V"⟩
def RX1 : String := "ExchangeWire$Journal"
def TX1 : u_T := fun k => match k with
  | 0 => ("ExchangeWire$Journal", "parts", "[I", true)
  | _ => ("ExchangeWire$Journal", "count", "I", false)
def tyX1 : Nat → FieldType := fun k => match k with
  | 0 => .array .int
  | _ => .int
theorem nmX1 : ∀ a, a < 2 → ∀ b, b < 2 → a ≠ b → (TX1 a).2.1 ≠ (TX1 b).2.1 := by decide +kernel
theorem tyX1_ok : ∀ k, k < 2 → parseFieldDescriptor (TX1 k).2.2.1 = some (tyX1 k) := by decide +kernel
abbrev cX1_init : ByteArray := prog_3_method_1_code
def yX1_init : MethodName := ⟨RX1, "<init>", "()V"⟩
abbrev cX1_add : ByteArray := prog_3_method_2_code
def yX1_add : MethodName := ⟨RX1, "add", "(ILExchangeWire$Message;)V"⟩
abbrev cX1_tell : ByteArray := prog_3_method_3_code
def yX1_tell : MethodName := ⟨RX1, "tell", "(II)I"⟩
def RX2 : String := "ExchangeWire$Line"
def TX2 : u_T := fun k => match k with
  | 0 => ("ExchangeWire$Line", "signs", "[I", true)
  | 1 => ("ExchangeWire$Line", "count", "I", false)
  | 2 => ("ExchangeWire$Line", "broken", "Z", false)
  | 3 => ("ExchangeWire$Line", "signedOn", "Z", false)
  | 4 => ("ExchangeWire$Line", "latestNumber", "I", false)
  | 5 => ("ExchangeWire$Line", "wrongCount", "I", false)
  | 6 => ("ExchangeWire$Line", "shown", "LExchangeWire$Reply;", true)
  | 7 => ("ExchangeWire$Line", "kept", "LExchangeWire$Reply;", true)
  | 8 => ("ExchangeWire$Line", "rowKinds", "[I", true)
  | 9 => ("ExchangeWire$Line", "rowItems", "[I", true)
  | 10 => ("ExchangeWire$Line", "rowPersons", "[I", true)
  | _ => ("ExchangeWire$Line", "rowCount", "I", false)
def tyX2 : Nat → FieldType := fun k => match k with
  | 0 => .array .int
  | 1 => .int
  | 2 => .boolean
  | 3 => .boolean
  | 4 => .int
  | 5 => .int
  | 6 => .object "ExchangeWire$Reply"
  | 7 => .object "ExchangeWire$Reply"
  | 8 => .array .int
  | 9 => .array .int
  | 10 => .array .int
  | _ => .int
theorem nmX2 : ∀ a, a < 12 → ∀ b, b < 12 → a ≠ b → (TX2 a).2.1 ≠ (TX2 b).2.1 := by decide +kernel
theorem tyX2_ok : ∀ k, k < 12 → parseFieldDescriptor (TX2 k).2.2.1 = some (tyX2 k) := by decide +kernel
abbrev cX2_init : ByteArray := prog_4_method_1_code
def yX2_init : MethodName := ⟨RX2, "<init>", "()V"⟩
abbrev cX2_take : ByteArray := prog_4_method_2_code
def yX2_take : MethodName := ⟨RX2, "take", "(I)I"⟩
abbrev cX2_clear : ByteArray := prog_4_method_3_code
def yX2_clear : MethodName := ⟨RX2, "clear", "()V"⟩
abbrev cX2_addRow : ByteArray := prog_4_method_4_code
def yX2_addRow : MethodName := ⟨RX2, "addRow", "(III)I"⟩
def RX3 : String := "ExchangeWire$Message"
def TX3 : u_T := fun k => match k with
  | 0 => ("ExchangeWire$Message", "kind", "I", false)
  | 1 => ("ExchangeWire$Message", "number", "I", false)
  | 2 => ("ExchangeWire$Message", "person", "I", false)
  | 3 => ("ExchangeWire$Message", "item", "I", false)
  | _ => ("ExchangeWire$Message", "cents", "I", false)
def tyX3 : Nat → FieldType := fun k => match k with
  | 0 => .int
  | 1 => .int
  | 2 => .int
  | 3 => .int
  | _ => .int
theorem nmX3 : ∀ a, a < 5 → ∀ b, b < 5 → a ≠ b → (TX3 a).2.1 ≠ (TX3 b).2.1 := by decide +kernel
theorem tyX3_ok : ∀ k, k < 5 → parseFieldDescriptor (TX3 k).2.2.1 = some (tyX3 k) := by decide +kernel
abbrev cX3_init : ByteArray := prog_5_method_1_code
def yX3_init : MethodName := ⟨RX3, "<init>", "()V"⟩
abbrev cX3_fillFromRow : ByteArray := prog_5_method_2_code
def yX3_fillFromRow : MethodName := ⟨RX3, "fillFromRow", "(III)V"⟩
abbrev cX3_read : ByteArray := prog_5_method_3_code
def yX3_read : MethodName := ⟨RX3, "read", "([II)Z"⟩
abbrev cX3_firstBadField : ByteArray := prog_5_method_4_code
def yX3_firstBadField : MethodName := ⟨RX3, "firstBadField", "()I"⟩
abbrev cX3_changesTheHouse : ByteArray := prog_5_method_5_code
def yX3_changesTheHouse : MethodName := ⟨RX3, "changesTheHouse", "()Z"⟩
abbrev cX3_forget : ByteArray := prog_5_method_6_code
def yX3_forget : MethodName := ⟨RX3, "forget", "()V"⟩
abbrev cX3_fieldsOf : ByteArray := prog_5_method_7_code
def yX3_fieldsOf : MethodName := ⟨RX3, "fieldsOf", "(I)Ljava/lang/String;"⟩
abbrev cX3_readField : ByteArray := prog_5_method_8_code
def yX3_readField : MethodName := ⟨RX3, "readField", "(I[III)I"⟩
abbrev cX3_keepField : ByteArray := prog_5_method_9_code
def yX3_keepField : MethodName := ⟨RX3, "keepField", "(II)V"⟩
abbrev cX3_isGoodField : ByteArray := prog_5_method_10_code
def yX3_isGoodField : MethodName := ⟨RX3, "isGoodField", "(I)Z"⟩
abbrev cX3_endsWithSum : ByteArray := prog_5_method_11_code
def yX3_endsWithSum : MethodName := ⟨RX3, "endsWithSum", "([III)Z"⟩
def RX4 : String := "ExchangeWire$Reply"
def TX4 : u_T := fun k => match k with
  | 0 => ("ExchangeWire$Reply", "signs", "[I", true)
  | _ => ("ExchangeWire$Reply", "length", "I", false)
def tyX4 : Nat → FieldType := fun k => match k with
  | 0 => .array .int
  | _ => .int
theorem nmX4 : ∀ a, a < 2 → ∀ b, b < 2 → a ≠ b → (TX4 a).2.1 ≠ (TX4 b).2.1 := by decide +kernel
theorem tyX4_ok : ∀ k, k < 2 → parseFieldDescriptor (TX4 k).2.2.1 = some (tyX4 k) := by decide +kernel
abbrev cX4_init : ByteArray := prog_6_method_1_code
def yX4_init : MethodName := ⟨RX4, "<init>", "()V"⟩
abbrev cX4_writeWrong : ByteArray := prog_6_method_2_code
def yX4_writeWrong : MethodName := ⟨RX4, "writeWrong", "()V"⟩
abbrev cX4_writeNo : ByteArray := prog_6_method_3_code
def yX4_writeNo : MethodName := ⟨RX4, "writeNo", "(LExchangeWire$Message;)V"⟩
abbrev cX4_writeError : ByteArray := prog_6_method_4_code
def yX4_writeError : MethodName := ⟨RX4, "writeError", "(LExchangeWire$Message;I)V"⟩
abbrev cX4_writeVerdict : ByteArray := prog_6_method_5_code
def yX4_writeVerdict : MethodName := ⟨RX4, "writeVerdict", "(LExchangeWire$Message;ZI)V"⟩
abbrev cX4_copy : ByteArray := prog_6_method_6_code
def yX4_copy : MethodName := ⟨RX4, "copy", "(LExchangeWire$Reply;)V"⟩
abbrev cX4_addSource : ByteArray := prog_6_method_7_code
def yX4_addSource : MethodName := ⟨RX4, "addSource", "(LExchangeWire$Message;)V"⟩
abbrev cX4_addSumAndEnd : ByteArray := prog_6_method_8_code
def yX4_addSumAndEnd : MethodName := ⟨RX4, "addSumAndEnd", "()V"⟩
abbrev cX4_addDigits : ByteArray := prog_6_method_9_code
def yX4_addDigits : MethodName := ⟨RX4, "addDigits", "(I)V"⟩
abbrev cX4_add : ByteArray := prog_6_method_10_code
def yX4_add : MethodName := ⟨RX4, "add", "(I)V"⟩
def RX5 : String := "ExchangeWire"
def TX5 : u_T := fun k => match k with
  | 0 => ("ExchangeWire", "lines", "[LExchangeWire$Line;", true)
  | 1 => ("ExchangeWire", "house", "LExchangeWire$House;", true)
  | 2 => ("ExchangeWire", "journal", "LExchangeWire$Journal;", true)
  | 3 => ("ExchangeWire", "message", "LExchangeWire$Message;", true)
  | _ => ("ExchangeWire", "sumSoFar", "I", false)
def tyX5 : Nat → FieldType := fun k => match k with
  | 0 => .array (.object "ExchangeWire$Line")
  | 1 => .object "ExchangeWire$House"
  | 2 => .object "ExchangeWire$Journal"
  | 3 => .object "ExchangeWire$Message"
  | _ => .int
theorem nmX5 : ∀ a, a < 5 → ∀ b, b < 5 → a ≠ b → (TX5 a).2.1 ≠ (TX5 b).2.1 := by decide +kernel
theorem tyX5_ok : ∀ k, k < 5 → parseFieldDescriptor (TX5 k).2.2.1 = some (tyX5 k) := by decide +kernel
abbrev cX5_init : ByteArray := prog_1_method_1_code
def yX5_init : MethodName := ⟨RX5, "<init>", "()V"⟩
abbrev cX5_octet : ByteArray := prog_1_method_2_code
def yX5_octet : MethodName := ⟨RX5, "octet", "(II)I"⟩
abbrev cX5_answer : ByteArray := prog_1_method_3_code
def yX5_answer : MethodName := ⟨RX5, "answer", "(II)I"⟩
abbrev cX5_reset : ByteArray := prog_1_method_4_code
def yX5_reset : MethodName := ⟨RX5, "reset", "(I)I"⟩
abbrev cX5_offline : ByteArray := prog_1_method_5_code
def yX5_offline : MethodName := ⟨RX5, "offline", "(IIII)I"⟩
abbrev cX5_join : ByteArray := prog_1_method_6_code
def yX5_join : MethodName := ⟨RX5, "join", "(I)I"⟩
abbrev cX5_owes : ByteArray := prog_1_method_7_code
def yX5_owes : MethodName := ⟨RX5, "owes", "(II)I"⟩
abbrev cX5_acts : ByteArray := prog_1_method_8_code
def yX5_acts : MethodName := ⟨RX5, "acts", "()I"⟩
abbrev cX5_act : ByteArray := prog_1_method_9_code
def yX5_act : MethodName := ⟨RX5, "act", "(II)I"⟩
abbrev cX5_sum : ByteArray := prog_1_method_10_code
def yX5_sum : MethodName := ⟨RX5, "sum", "(I)I"⟩
abbrev cX5_state : ByteArray := prog_1_method_11_code
def yX5_state : MethodName := ⟨RX5, "state", "(II)I"⟩
abbrev cX5_waits : ByteArray := prog_1_method_12_code
def yX5_waits : MethodName := ⟨RX5, "waits", "(II)I"⟩
abbrev cX5_endMessage : ByteArray := prog_1_method_13_code
def yX5_endMessage : MethodName := ⟨RX5, "endMessage", "(ILExchangeWire$Line;)V"⟩
abbrev cX5_doMessage : ByteArray := prog_1_method_14_code
def yX5_doMessage : MethodName := ⟨RX5, "doMessage", "(ILExchangeWire$Line;)V"⟩
abbrev cX5_carryOut : ByteArray := prog_1_method_15_code
def yX5_carryOut : MethodName := ⟨RX5, "carryOut", "(I)Z"⟩
abbrev cX5_isBelow : ByteArray := prog_1_method_16_code
def yX5_isBelow : MethodName := ⟨RX5, "isBelow", "(II)Z"⟩
abbrev cX5_isDigit : ByteArray := prog_1_method_17_code
def yX5_isDigit : MethodName := ⟨RX5, "isDigit", "(I)Z"⟩
abbrev cX5_hexDigit : ByteArray := prog_1_method_18_code
def yX5_hexDigit : MethodName := ⟨RX5, "hexDigit", "(I)I"⟩
abbrev cX5_sumOf : ByteArray := prog_1_method_19_code
def yX5_sumOf : MethodName := ⟨RX5, "sumOf", "([II)I"⟩
def RX6 : String := "ExchangeWireModel"
def TX6 : u_T := fun k => match k with
  | 0 => ("ExchangeWireModel", "thrown", "I", false)
  | 1 => ("ExchangeWireModel", "size", "[I", true)
  | 2 => ("ExchangeWireModel", "line", "[B", true)
  | 3 => ("ExchangeWireModel", "broken", "[Z", true)
  | 4 => ("ExchangeWireModel", "signed", "[Z", true)
  | 5 => ("ExchangeWireModel", "done", "[I", true)
  | 6 => ("ExchangeWireModel", "wrongs", "[I", true)
  | 7 => ("ExchangeWireModel", "told", "[I", true)
  | 8 => ("ExchangeWireModel", "answers", "[B", true)
  | 9 => ("ExchangeWireModel", "kept", "[I", true)
  | 10 => ("ExchangeWireModel", "keeps", "[B", true)
  | 11 => ("ExchangeWireModel", "rows", "[I", true)
  | 12 => ("ExchangeWireModel", "rowKind", "[I", true)
  | 13 => ("ExchangeWireModel", "rowItem", "[I", true)
  | 14 => ("ExchangeWireModel", "rowPerson", "[I", true)
  | 15 => ("ExchangeWireModel", "owes", "[I", true)
  | 16 => ("ExchangeWireModel", "lent", "[I", true)
  | 17 => ("ExchangeWireModel", "renewed", "[I", true)
  | 18 => ("ExchangeWireModel", "waiting", "[I", true)
  | 19 => ("ExchangeWireModel", "waits", "[I", true)
  | 20 => ("ExchangeWireModel", "acts", "I", false)
  | 21 => ("ExchangeWireModel", "actRow", "[I", true)
  | 22 => ("ExchangeWireModel", "summed", "I", false)
  | 23 => ("ExchangeWireModel", "at", "I", false)
  | 24 => ("ExchangeWireModel", "kind", "I", false)
  | 25 => ("ExchangeWireModel", "number", "I", false)
  | 26 => ("ExchangeWireModel", "person", "I", false)
  | 27 => ("ExchangeWireModel", "item", "I", false)
  | 28 => ("ExchangeWireModel", "cents", "I", false)
  | _ => ("ExchangeWireModel", "verdict", "Z", false)
def tyX6 : Nat → FieldType := fun k => match k with
  | 0 => .int
  | 1 => .array .int
  | 2 => .array .byte
  | 3 => .array .boolean
  | 4 => .array .boolean
  | 5 => .array .int
  | 6 => .array .int
  | 7 => .array .int
  | 8 => .array .byte
  | 9 => .array .int
  | 10 => .array .byte
  | 11 => .array .int
  | 12 => .array .int
  | 13 => .array .int
  | 14 => .array .int
  | 15 => .array .int
  | 16 => .array .int
  | 17 => .array .int
  | 18 => .array .int
  | 19 => .array .int
  | 20 => .int
  | 21 => .array .int
  | 22 => .int
  | 23 => .int
  | 24 => .int
  | 25 => .int
  | 26 => .int
  | 27 => .int
  | 28 => .int
  | _ => .boolean
theorem nmX6 : ∀ a, a < 30 → ∀ b, b < 30 → a ≠ b → (TX6 a).2.1 ≠ (TX6 b).2.1 := by decide +kernel
theorem tyX6_ok : ∀ k, k < 30 → parseFieldDescriptor (TX6 k).2.2.1 = some (tyX6 k) := by decide +kernel
abbrev cX6_init : ByteArray := prog_8_method_1_code
def yX6_init : MethodName := ⟨RX6, "<init>", "()V"⟩
abbrev cX6_thrown : ByteArray := prog_8_method_2_code
def yX6_thrown : MethodName := ⟨RX6, "thrown", "()I"⟩
abbrev cX6_in : ByteArray := prog_8_method_3_code
def yX6_in : MethodName := ⟨RX6, "in", "(III)Z"⟩
abbrev cX6_isDevice : ByteArray := prog_8_method_4_code
def yX6_isDevice : MethodName := ⟨RX6, "isDevice", "(I)Z"⟩
abbrev cX6_look : ByteArray := prog_8_method_5_code
def yX6_look : MethodName := ⟨RX6, "look", "(I)I"⟩
abbrev cX6_isKind : ByteArray := prog_8_method_6_code
def yX6_isKind : MethodName := ⟨RX6, "isKind", "(I)Z"⟩
abbrev cX6_hasPerson : ByteArray := prog_8_method_7_code
def yX6_hasPerson : MethodName := ⟨RX6, "hasPerson", "(I)Z"⟩
abbrev cX6_hasItem : ByteArray := prog_8_method_8_code
def yX6_hasItem : MethodName := ⟨RX6, "hasItem", "(I)Z"⟩
abbrev cX6_field : ByteArray := prog_8_method_9_code
def yX6_field : MethodName := ⟨RX6, "field", "(II)I"⟩
abbrev cX6_hex : ByteArray := prog_8_method_10_code
def yX6_hex : MethodName := ⟨RX6, "hex", "(I)I"⟩
abbrev cX6_digit : ByteArray := prog_8_method_11_code
def yX6_digit : MethodName := ⟨RX6, "digit", "(I)I"⟩
abbrev cX6_reads : ByteArray := prog_8_method_12_code
def yX6_reads : MethodName := ⟨RX6, "reads", "(I)Z"⟩
abbrev cX6_put : ByteArray := prog_8_method_13_code
def yX6_put : MethodName := ⟨RX6, "put", "(II)V"⟩
abbrev cX6_close : ByteArray := prog_8_method_14_code
def yX6_close : MethodName := ⟨RX6, "close", "(I)V"⟩
abbrev cX6_finish : ByteArray := prog_8_method_15_code
def yX6_finish : MethodName := ⟨RX6, "finish", "(IZ)V"⟩
abbrev cX6_again : ByteArray := prog_8_method_16_code
def yX6_again : MethodName := ⟨RX6, "again", "(I)V"⟩
abbrev cX6_bad : ByteArray := prog_8_method_17_code
def yX6_bad : MethodName := ⟨RX6, "bad", "()I"⟩
abbrev cX6_answers : ByteArray := prog_8_method_18_code
def yX6_answers : MethodName := ⟨RX6, "answers", "(I)V"⟩
abbrev cX6_items : ByteArray := prog_8_method_19_code
def yX6_items : MethodName := ⟨RX6, "items", "(I)I"⟩
abbrev cX6_placeOf : ByteArray := prog_8_method_20_code
def yX6_placeOf : MethodName := ⟨RX6, "placeOf", "(II)I"⟩
abbrev cX6_enter : ByteArray := prog_8_method_21_code
def yX6_enter : MethodName := ⟨RX6, "enter", "(IIIII)V"⟩
abbrev cX6_lends : ByteArray := prog_8_method_22_code
def yX6_lends : MethodName := ⟨RX6, "lends", "(II)I"⟩
abbrev cX6_brings : ByteArray := prog_8_method_23_code
def yX6_brings : MethodName := ⟨RX6, "brings", "(II)I"⟩
abbrev cX6_judge : ByteArray := prog_8_method_24_code
def yX6_judge : MethodName := ⟨RX6, "judge", "(II)I"⟩
abbrev cX6_octet : ByteArray := prog_8_method_25_code
def yX6_octet : MethodName := ⟨RX6, "octet", "(II)I"⟩
abbrev cX6_answer : ByteArray := prog_8_method_26_code
def yX6_answer : MethodName := ⟨RX6, "answer", "(II)I"⟩
abbrev cX6_reset : ByteArray := prog_8_method_27_code
def yX6_reset : MethodName := ⟨RX6, "reset", "(I)I"⟩
abbrev cX6_offline : ByteArray := prog_8_method_28_code
def yX6_offline : MethodName := ⟨RX6, "offline", "(IIII)I"⟩
abbrev cX6_join : ByteArray := prog_8_method_29_code
def yX6_join : MethodName := ⟨RX6, "join", "(I)I"⟩
abbrev cX6_owes : ByteArray := prog_8_method_30_code
def yX6_owes : MethodName := ⟨RX6, "owes", "(II)I"⟩
abbrev cX6_acts : ByteArray := prog_8_method_31_code
def yX6_acts : MethodName := ⟨RX6, "acts", "()I"⟩
abbrev cX6_act : ByteArray := prog_8_method_32_code
def yX6_act : MethodName := ⟨RX6, "act", "(II)I"⟩
abbrev cX6_sum : ByteArray := prog_8_method_33_code
def yX6_sum : MethodName := ⟨RX6, "sum", "(I)I"⟩
abbrev cX6_state : ByteArray := prog_8_method_34_code
def yX6_state : MethodName := ⟨RX6, "state", "(II)I"⟩
abbrev cX6_waits : ByteArray := prog_8_method_35_code
def yX6_waits : MethodName := ⟨RX6, "waits", "(II)I"⟩
def RJx00060 : String := "java/lang/ArrayIndexOutOfBoundsException"
def TJx00060 : u_T := fun k => match k with
  | 0 => ("java/lang/Throwable", "cause", "Ljava/lang/Throwable;", false)
  | 1 => ("java/lang/Throwable", "stackTrace", "[Ljava/lang/StackTraceElement;", false)
  | 2 => ("java/lang/Throwable", "suppressedExceptions", "Ljava/util/List;", false)
  | 3 => ("java/lang/Throwable", "detailMessage", "Ljava/lang/String;", false)
  | 4 => ("java/lang/Throwable", "backtrace", "Ljava/lang/Object;", false)
  | _ => ("java/lang/Throwable", "depth", "I", false)
def tyJx00060 : Nat → FieldType := fun k => match k with
  | 0 => .object "java/lang/Throwable"
  | 1 => .array (.object "java/lang/StackTraceElement")
  | 2 => .object "java/util/List"
  | 3 => .object "java/lang/String"
  | 4 => .object "java/lang/Object"
  | _ => .int
theorem nmJx00060 : ∀ a, a < 6 → ∀ b, b < 6 → a ≠ b → (TJx00060 a).2.1 ≠ (TJx00060 b).2.1 := by decide +kernel
theorem tyJx00060_ok : ∀ k, k < 6 → parseFieldDescriptor (TJx00060 k).2.2.1 = some (tyJx00060 k) := by decide +kernel
abbrev cJx00060_init_a7421 : ByteArray := prog_9_method_2_code
def yJx00060_init_a7421 : MethodName := ⟨RJx00060, "<init>", "(Ljava/lang/String;)V"⟩
def RJ9 : String := "java/lang/Math"
def TJ9 : u_T := fun k => match k with
  | _ => ("", "", "", false)
def tyJ9 : Nat → FieldType := fun k => match k with
  | _ => .int
theorem nmJ9 : ∀ a, a < 0 → ∀ b, b < 0 → a ≠ b → (TJ9 a).2.1 ≠ (TJ9 b).2.1 := by decide +kernel
theorem tyJ9_ok : ∀ k, k < 0 → parseFieldDescriptor (TJ9 k).2.2.1 = some (tyJ9 k) := by decide +kernel
abbrev cJ9_min_7cf53 : ByteArray := prog_12_method_69_code
def yJ9_min_7cf53 : MethodName := ⟨RJ9, "min", "(II)I"⟩
def RJ0 : String := "java/lang/String"
def TJ0 : u_T := fun k => match k with
  | _ => ("", "", "", false)
def tyJ0 : Nat → FieldType := fun k => match k with
  | _ => .int
theorem nmJ0 : ∀ a, a < 0 → ∀ b, b < 0 → a ≠ b → (TJ0 a).2.1 ≠ (TJ0 b).2.1 := by decide +kernel
theorem tyJ0_ok : ∀ k, k < 0 → parseFieldDescriptor (TJ0 k).2.2.1 = some (tyJ0 k) := by decide +kernel
abbrev cJ0_length_8abf5 : ByteArray := prog_14_method_54_code
def yJ0_length_8abf5 : MethodName := ⟨RJ0, "length", "()I"⟩
abbrev cJ0_charAt_5068e : ByteArray := prog_14_method_56_code
def yJ0_charAt_5068e : MethodName := ⟨RJ0, "charAt", "(I)C"⟩
abbrev cJ0_coder_7d493 : ByteArray := prog_14_method_152_code
def yJ0_coder_7d493 : MethodName := ⟨RJ0, "coder", "()B"⟩
abbrev cJ0_isLatin1_aae02 : ByteArray := prog_14_method_154_code
def yJ0_isLatin1_aae02 : MethodName := ⟨RJ0, "isLatin1", "()Z"⟩
abbrev cJ0_checkIndex_df160 : ByteArray := prog_14_method_155_code
def yJ0_checkIndex_df160 : MethodName := ⟨RJ0, "checkIndex", "(II)V"⟩
def RJ1 : String := "java/lang/StringLatin1"
def TJ1 : u_T := fun k => match k with
  | _ => ("", "", "", false)
def tyJ1 : Nat → FieldType := fun k => match k with
  | _ => .int
theorem nmJ1 : ∀ a, a < 0 → ∀ b, b < 0 → a ≠ b → (TJ1 a).2.1 ≠ (TJ1 b).2.1 := by decide +kernel
theorem tyJ1_ok : ∀ k, k < 0 → parseFieldDescriptor (TJ1 k).2.2.1 = some (tyJ1 k) := by decide +kernel
abbrev cJ1_charAt_3b067 : ByteArray := prog_15_method_2_code
def yJ1_charAt_3b067 : MethodName := ⟨RJ1, "charAt", "([BI)C"⟩
def RJ2 : String := "java/lang/StringUTF16"
def TJ2 : u_T := fun k => match k with
  | _ => ("", "", "", false)
def tyJ2 : Nat → FieldType := fun k => match k with
  | _ => .int
theorem nmJ2 : ∀ a, a < 0 → ∀ b, b < 0 → a ≠ b → (TJ2 a).2.1 ≠ (TJ2 b).2.1 := by decide +kernel
theorem tyJ2_ok : ∀ k, k < 0 → parseFieldDescriptor (TJ2 k).2.2.1 = some (tyJ2 k) := by decide +kernel
abbrev cJ2_getChar_3b067 : ByteArray := prog_16_method_5_code
def yJ2_getChar_3b067 : MethodName := ⟨RJ2, "getChar", "([BI)C"⟩
abbrev cJ2_length_9d52b : ByteArray := prog_16_method_6_code
def yJ2_length_9d52b : MethodName := ⟨RJ2, "length", "([B)I"⟩
abbrev cJ2_charAt_3b067 : ByteArray := prog_16_method_83_code
def yJ2_charAt_3b067 : MethodName := ⟨RJ2, "charAt", "([BI)C"⟩
abbrev cJ2_checkIndex_2214a : ByteArray := prog_16_method_91_code
def yJ2_checkIndex_2214a : MethodName := ⟨RJ2, "checkIndex", "(I[B)V"⟩
def RJ10 : String := "java/lang/System"
def TJ10 : u_T := fun k => match k with
  | _ => ("", "", "", false)
def tyJ10 : Nat → FieldType := fun k => match k with
  | _ => .int
theorem nmJ10 : ∀ a, a < 0 → ∀ b, b < 0 → a ≠ b → (TJ10 a).2.1 ≠ (TJ10 b).2.1 := by decide +kernel
theorem tyJ10_ok : ∀ k, k < 0 → parseFieldDescriptor (TJ10 k).2.2.1 = some (tyJ10 k) := by decide +kernel
def RJ3 : String := "jdk/internal/util/Preconditions"
def TJ3 : u_T := fun k => match k with
  | _ => ("", "", "", false)
def tyJ3 : Nat → FieldType := fun k => match k with
  | _ => .int
theorem nmJ3 : ∀ a, a < 0 → ∀ b, b < 0 → a ≠ b → (TJ3 a).2.1 ≠ (TJ3 b).2.1 := by decide +kernel
theorem tyJ3_ok : ∀ k, k < 0 → parseFieldDescriptor (TJ3 k).2.2.1 = some (tyJ3 k) := by decide +kernel
abbrev cJ3_checkIndex_8e157 : ByteArray := prog_19_method_11_code
def yJ3_checkIndex_8e157 : MethodName := ⟨RJ3, "checkIndex", "(IILjava/util/function/BiFunction;)I"⟩
def RL : String := "ExchangeWireLaw"
abbrev cL_answer : ByteArray := method_3_code
def yL_answer : MethodName := ⟨RL, "answer", "(LExchangeWire;II[J)I"⟩
abbrev cL_law : ByteArray := code
def yL_law : MethodName := ⟨RL, "law", "([I)Z"⟩
abbrev classes : List vw_C := [(RX0, TX0, 5), (RX1, TX1, 2), (RX2, TX2, 12), (RX3, TX3, 5), (RX4, TX4, 2), (RX5, TX5, 5), (RX6, TX6, 30)]
abbrev ctypes : List (Nat → FieldType) := [tyX0, tyX1, tyX2, tyX3, tyX4, tyX5, tyX6]
abbrev xty : List FieldType := [.long, .int, .byte, .boolean, .object "ExchangeWire$Line", .array .int]
def xnw : List Cond := [(Jvm.Cond.methodLinkNest "ExchangeWire" (15 : Nat) ({ cls := "ExchangeWire$Line", name := "<init>", desc := "()V" } : Jvm.MethodName) "ExchangeWire"), (Jvm.Cond.methodLinkNest "ExchangeWire$Line" (34 : Nat) ({ cls := "ExchangeWire$Reply", name := "<init>", desc := "()V" } : Jvm.MethodName) "ExchangeWire"), (Jvm.Cond.methodLinkNest "ExchangeWire" (25 : Nat) ({ cls := "ExchangeWire$Journal", name := "<init>", desc := "()V" } : Jvm.MethodName) "ExchangeWire"), (Jvm.Cond.methodLinkNest "ExchangeWire" (32 : Nat) ({ cls := "ExchangeWire$Message", name := "<init>", desc := "()V" } : Jvm.MethodName) "ExchangeWire"), (Jvm.Cond.methodLinkNest "ExchangeWire$Line" (54 : Nat) ({ cls := "ExchangeWire", name := "isBelow", desc := "(II)Z" } : Jvm.MethodName) "ExchangeWire"), (Jvm.Cond.methodLinkNest "ExchangeWire$Message" (34 : Nat) ({ cls := "ExchangeWire", name := "isDigit", desc := "(I)Z" } : Jvm.MethodName) "ExchangeWire"), (Jvm.Cond.methodLinkNest "ExchangeWire$Message" (84 : Nat) ({ cls := "ExchangeWire", name := "sumOf", desc := "([II)I" } : Jvm.MethodName) "ExchangeWire"), (Jvm.Cond.methodLinkNest "ExchangeWire$Message" (88 : Nat) ({ cls := "ExchangeWire", name := "hexDigit", desc := "(I)I" } : Jvm.MethodName) "ExchangeWire"), (Jvm.Cond.methodLinkNest "ExchangeWire$Reply" (47 : Nat) ({ cls := "ExchangeWire", name := "sumOf", desc := "([II)I" } : Jvm.MethodName) "ExchangeWire"), (Jvm.Cond.methodLinkNest "ExchangeWire$Reply" (51 : Nat) ({ cls := "ExchangeWire", name := "hexDigit", desc := "(I)I" } : Jvm.MethodName) "ExchangeWire"), (Jvm.Cond.methodLinkNest "ExchangeWire$Message" (79 : Nat) ({ cls := "ExchangeWire", name := "isBelow", desc := "(II)Z" } : Jvm.MethodName) "ExchangeWire"), (Jvm.Cond.methodLinkNest "ExchangeWire$House" (72 : Nat) ({ cls := "ExchangeWire", name := "isBelow", desc := "(II)Z" } : Jvm.MethodName) "ExchangeWire"), (Jvm.Cond.methodLinkNest "ExchangeWire$Journal" (19 : Nat) ({ cls := "ExchangeWire", name := "isBelow", desc := "(II)Z" } : Jvm.MethodName) "ExchangeWire")]
end
section
/-! The block: cells at b, b + 1 ..; a shape says what each is, a table of ints what it holds. -/
abbrev xS : Type := (Nat × List (Option (Option Nat))) ⊕ (Nat × Nat × Option (List (Option Nat)))
abbrev xM : Type := Nat → Nat → Int32
abbrev xD : Type := (va_G × (Nat → ClassId)) × Nat
def xfs (b : Nat) (f : Nat → Int32) : List (Option (Option Nat)) → Nat → List Value
  | [], _ => []
  | none :: r, j => Value.int (f j) :: xfs b f r (j + 1)
  | some none :: r, j => Value.null :: xfs b f r (j + 1)
  | some (some k) :: r, j => Value.ref (b + k) :: xfs b f r (j + 1)
theorem xfs_len (b : Nat) (f : Nat → Int32) : ∀ (fl : List (Option (Option Nat))) (i : Nat), (xfs b f fl i).length = fl.length
  | [], _ => rfl
  | none :: r, j => by simp [xfs, xfs_len b f r]
  | some none :: r, j => by simp [xfs, xfs_len b f r]
  | some (some k) :: r, j => by simp [xfs, xfs_len b f r]
def xval (b : Nat) (o : Option (Option Nat)) (x : Int32) : Value := match o with
  | none => .int x
  | some none => .null
  | some (some k) => .ref (b + k)
theorem xfs_get (b : Nat) (f : Nat → Int32) : ∀ (fl : List (Option (Option Nat))) (i j : Nat) (o : Option (Option Nat)), fl[j]? = some o → (xfs b f fl i)[j]? = some (xval b o (f (i + j)))
  | [], i, j, o, h => by simp at h
  | a :: r, i, 0, o, h => by
    have h : a = o := by simpa using h
    subst h
    match a with
    | none => rfl
    | some none => rfl
    | some (some k) => rfl
  | a :: r, i, j + 1, o, h => by
    have ih := xfs_get b f r (i + 1) j o (by simpa using h)
    rw [show i + 1 + j = i + (j + 1) by omega] at ih
    match a with
    | none => simpa [xfs] using ih
    | some none => simpa [xfs] using ih
    | some (some k) => simpa [xfs] using ih
theorem xfs_set (b : Nat) (f : Nat → Int32) (o : Option (Option Nat)) (x : Int32) : ∀ (fl : List (Option (Option Nat))) (i j : Nat), xfs b (upd f (i + j) x) (fl.set j o) i = (xfs b f fl i).set j (xval b o x)
  | [], i, j => by simp [xfs]
  | a :: r, i, 0 => by
    have e : ∀ (fl : List (Option (Option Nat))) (k : Nat), i < k → xfs b (upd f i x) fl k = xfs b f fl k := by
      intro fl
      induction fl with
      | nil => intro k _; rfl
      | cons a r ih =>
        intro k hk
        match a with
        | none => simp [xfs, ih (k + 1) (by omega), upd, Nat.ne_of_gt hk]
        | some none => simp [xfs, ih (k + 1) (by omega)]
        | some (some z) => simp [xfs, ih (k + 1) (by omega)]
    match a, o with
    | none, none => simp [xfs, xval, e r (i + 1) (by omega), upd]
    | none, some none => simp [xfs, xval, e r (i + 1) (by omega), upd]
    | none, some (some z) => simp [xfs, xval, e r (i + 1) (by omega), upd]
    | some none, none => simp [xfs, xval, e r (i + 1) (by omega), upd]
    | some none, some none => simp [xfs, xval, e r (i + 1) (by omega), upd]
    | some none, some (some z) => simp [xfs, xval, e r (i + 1) (by omega), upd]
    | some (some y), none => simp [xfs, xval, e r (i + 1) (by omega), upd]
    | some (some y), some none => simp [xfs, xval, e r (i + 1) (by omega), upd]
    | some (some y), some (some z) => simp [xfs, xval, e r (i + 1) (by omega), upd]
  | a :: r, i, j + 1 => by
    have ih := xfs_set b f o x r (i + 1) j
    rw [show i + 1 + j = i + (j + 1) by omega] at ih
    have hn : i ≠ i + (j + 1) := by omega
    match a with
    | none => simp [xfs, ih, upd]
    | some none => simp [xfs, ih]
    | some (some k) => simp [xfs, ih]
def xpic (X : xD) (s : xS) (f : Nat → Int32) : va_E := match s with
  | .inl (ci, fl) => .inr (ci, xfs X.2 f fl 0)
  | .inr (ti, n, none) => .inl (X.1.2 ti, n, if ti = 0 then .inr (.inl (fun j => (f j).toInt64)) else .inl f)
  | .inr (ti, n, some g) => .inl (X.1.2 ti, n, .inr (.inr (.inr (.inr (fun i => (g.getD i none).map (X.2 + ·))))))
def xwl (X : xD) (sh : List xS) (μ : xM) : va_W := sh.mapIdx fun k s => (X.2 + k, xpic X s (μ k))
theorem xwl_get {X : xD} {sh : List xS} {k : Nat} {s : xS} (μ : xM) (h : sh[k]? = some s) : (xwl X sh μ)[k]? = some (X.2 + k, xpic X s (μ k)) := by
  simp [xwl, List.getElem?_mapIdx, h]
theorem xwl_len (X : xD) (sh : List xS) (μ : xM) : (xwl X sh μ).length = sh.length := by simp [xwl]
theorem xwl_of {X : xD} {sh : List xS} {μ : xM} {k : Nat} {q : Nat × va_E} (h : (xwl X sh μ)[k]? = some q) : ∃ s, sh[k]? = some s ∧ q = (X.2 + k, xpic X s (μ k)) := by
  simp only [xwl, List.getElem?_mapIdx] at h
  cases hs : sh[k]? with
  | none => rw [hs] at h; cases h
  | some s => rw [hs] at h; exact ⟨s, rfl, (Option.some.inj h).symm⟩
theorem xwl_set {X : xD} {sh : List xS} {μ : xM} {k : Nat} {s' : xS} {f : Nat → Int32} (hk : k < sh.length) : (xwl X sh μ).set k (X.2 + k, xpic X s' f) = xwl X (sh.set k s') (va_up μ k f) := by
  apply List.ext_getElem?
  intro i
  by_cases hi : i = k
  · subst hi
    simp [xwl, List.getElem?_mapIdx, va_up, hk]
  · rw [List.getElem?_set_ne (fun h => hi h.symm)]
    simp [xwl, List.getElem?_mapIdx, va_up, hi, List.getElem?_set_ne (fun h => hi h.symm : k ≠ i)]
theorem xwl_push {X : xD} {sh : List xS} {μ : xM} {s' : xS} {f : Nat → Int32} : xwl X sh μ ++ [(X.2 + sh.length, xpic X s' f)] = xwl X (sh ++ [s']) (va_up μ sh.length f) := by
  apply List.ext_getElem?
  intro i
  by_cases hi : i < sh.length
  · have hs : sh[i]? = some sh[i] := List.getElem?_eq_getElem hi
    rw [List.getElem?_append_left (by rw [xwl_len]; exact hi), xwl_get μ hs, xwl_get _ ((List.getElem?_append_left hi).trans hs)]
    simp [va_up, Nat.ne_of_lt hi]
  · rw [List.getElem?_append_right (by rw [xwl_len]; omega), xwl_len]
    by_cases he : i = sh.length
    · subst he
      rw [xwl_get _ (s := s') (by simp)]
      simp [va_up]
    · rw [List.getElem?_eq_none (by simp; omega), List.getElem?_eq_none (by rw [xwl_len]; simp; omega)]
def xA (b n0 : Nat) (fr : Bool) : Nat → Prop := fun q => b ≤ q ∧ (fr = true ∨ q < b + n0)
theorem xwl_D {X : xD} {sh : List xS} {μ : xM} {n0 : Nat} {fr : Bool} (h : fr = false → sh.length = n0) : va_D (xA X.2 n0 fr) (xwl X sh μ) := by
  refine ⟨fun i j p q hp hq e => ?_, fun k q hq => ?_⟩
  · obtain ⟨s1, -, rfl⟩ := xwl_of hp
    obtain ⟨s2, -, rfl⟩ := xwl_of hq
    have e : X.2 + i = X.2 + j := e
    omega
  · obtain ⟨s1, h1, rfl⟩ := xwl_of hq
    have hl := (List.getElem?_eq_some_iff.mp h1).1
    refine ⟨Nat.le_add_right _ _, ?_⟩
    cases fr with
    | true => exact Or.inl rfl
    | false => exact Or.inr (by have := h rfl; show X.2 + k < X.2 + n0; omega)
/-! locals by place -/
def xlv : List (Option Value) → Nat → List (Nat × Value)
  | [], _ => []
  | none :: r, i => xlv r (i + 1)
  | some v :: r, i => (i, v) :: xlv r (i + 1)
theorem xlv_mem : ∀ (L : List (Option Value)) (i : Nat) (q : Nat × Value), q ∈ xlv L i ↔ ∃ j, L[j]? = some (some q.2) ∧ q.1 = i + j
  | [], i, q => by simp [xlv]
  | none :: r, i, q => by
    rw [show xlv (none :: r) i = xlv r (i + 1) from rfl, xlv_mem r (i + 1) q]
    constructor
    · rintro ⟨j, h1, h2⟩
      exact ⟨j + 1, by simpa using h1, by omega⟩
    · rintro ⟨j, h1, h2⟩
      match j, h1, h2 with
      | 0, h1, _ => simp at h1
      | j + 1, h1, h2 => exact ⟨j, by simpa using h1, by omega⟩
  | some v :: r, i, q => by
    rw [show xlv (some v :: r) i = (i, v) :: xlv r (i + 1) from rfl, List.mem_cons, xlv_mem r (i + 1) q]
    constructor
    · rintro (rfl | ⟨j, h1, h2⟩)
      · exact ⟨0, rfl, rfl⟩
      · exact ⟨j + 1, by simpa using h1, by omega⟩
    · rintro ⟨j, h1, h2⟩
      match j, h1, h2 with
      | 0, h1, h2 =>
        have h1 : v = q.2 := by simpa using h1
        exact Or.inl (Prod.ext (by omega) h1.symm)
      | j + 1, h1, h2 => exact Or.inr ⟨j, by simpa using h1, by omega⟩
def xL (ls : Array Slot) (nL : Nat) (L : List (Option Value)) : Prop := lv_has ls nL (xlv L 0) ∧ ∀ (j : Nat) (v : Value), L[j]? = some (some v) → v.category = 1
theorem xL_at {ls : Array Slot} {nL i : Nat} {L : List (Option Value)} {v : Value} (h : xL ls nL L) (hi : L[i]? = some (some v)) : ls[i]? = some (.val v) :=
  h.1.2.2 (i, v) ((xlv_mem L 0 (i, v)).mpr ⟨i, hi, (Nat.zero_add i).symm⟩)
theorem xL_set {ls : Array Slot} {nL i : Nat} {L : List (Option Value)} {v : Value} (h : xL ls nL L) (hv : v.category = 1) {ls' : Array Slot} (hl' : lv_has ls' nL ((i, v) :: (xlv L 0).filter (fun q => !(q.1 == i) && !(q.1 + 1 == i && q.2.category == 2)))) : xL ls' nL (L.set i (some v)) := by
  refine ⟨⟨hl'.1, hl'.2.1, fun q hq => ?_⟩, fun j w hj => ?_⟩
  · obtain ⟨j, h1, h2⟩ := (xlv_mem _ _ _).mp hq
    refine hl'.2.2 q ?_
    by_cases hj : i = j
    · subst hj
      have hlt : i < L.length := by
        have := (List.getElem?_eq_some_iff.mp h1).1
        simpa using this
      rw [List.getElem?_set_self hlt] at h1
      have h1 : v = q.2 := by simpa using h1
      exact List.mem_cons.mpr (Or.inl (Prod.ext (by omega) h1.symm))
    · rw [List.getElem?_set_ne hj] at h1
      refine List.mem_cons_of_mem _ (List.mem_filter.mpr ⟨(xlv_mem _ _ _).mpr ⟨j, h1, h2⟩, ?_⟩)
      have hc := h.2 j _ h1
      have hn : ¬ q.1 = i := by omega
      simp [hn, hc]
  · by_cases hi : i = j
    · subst hi
      have hlt : i < L.length := by
        have := (List.getElem?_eq_some_iff.mp hj).1
        simpa using this
      rw [List.getElem?_set_self hlt] at hj
      have hj : v = w := by simpa using hj
      exact hj ▸ hv
    · rw [List.getElem?_set_ne hi] at hj
      exact h.2 j w hj
end
section
/-! The walk of a method over the block: 'sx .. pc L st sh μ': from pc on, with locals L, stack st, shape sh, table μ, the machine comes to what Z asks. -/
abbrev xK : Type := String × ByteArray × Nat × Option FieldType × Bool
def xws : List Cond := lw_tbl.filter goodWord
def xtys (X : xD) : List (ClassId × FieldType) := xty.mapIdx fun i t => (X.1.2 i, t)
theorem xtys_at {X : xD} {i : Nat} {t : FieldType} (h : xty[i]? = some t) : (xtys X)[i]? = some (X.1.2 i, t) := by
  unfold xtys
  rw [List.getElem?_mapIdx, h]
  rfl
def xC (X : xD) (Ex : State → Prop) (fr : Bool) (K : xK) (n0 : Nat) (p : Program) (s : State) (m : MethodId) (args : Array Value) (meth : Method) (c : Code) : Prop :=
  p.tables.exec = Jvm.exec ∧ c.code = K.2.1 ∧ c.maxLocals = K.2.2.1 ∧ meth.sig.returnType = K.2.2.2.1 ∧ meth.locks = false ∧ s.vm.findClass K.1 = some m.cls ∧ (∀ w ∈ xws, w.before args s = true) ∧ (∀ w ∈ xnw, va_Nw w s) ∧ va_K X.1.1 classes (xtys X) s ∧ Ex s ∧ (fr = true → s.heap.size = X.2 + n0) ∧ (K.2.2.2.2 = true → meth.name = "<init>")
def xH (X : xD) (fr : Bool) (n0 : Nat) (sh : List xS) (μ : xM) (s : State) (H : Heap) (locs : List Loc) : Prop :=
  va_P X.1.1 classes (xwl X sh μ) H ∧ va_S (xA X.2 n0 fr) s.heap H locs ∧ n0 ≤ sh.length ∧ (fr = false → sh.length = n0) ∧ (fr = true → H.size = X.2 + sh.length)
def sx (l : Launch) (R : Room) (X : xD) (Ex : State → Prop) (fr : Bool) (K : xK) (n0 : Nat) (Z : List Frame → Array Value → State → State → Prop) (pc : Nat) (L : List (Option Value)) (st : List Value) (sh : List xS) (μ : xM) (cs ss : Nat) : Prop :=
  ∀ (p : Program) (e : Env) (s : State) (m : MethodId) (args : Array Value) (below : List Frame) (meth : Method) (c : Code) (H : Heap) (locs : List Loc) (ls : Array Slot),
    xC X Ex fr K n0 p s m args meth c → xH X fr n0 sh μ s H locs → xL ls K.2.2.1 L → W p l e R s m args below meth c H locs cs ss (Z below args s) (F0 m pc ls st)
def xup (μ : xM) (k j : Nat) (v : Int32) : xM := va_up μ k (upd (μ k) j v)
theorem xup_at (μ : xM) (k j : Nat) (v : Int32) (a b : Nat) : xup μ k j v a b = if a = k ∧ b = j then v else μ a b := by
  unfold xup va_up upd
  by_cases h1 : a = k
  · subst h1
    by_cases h2 : b = j <;> simp [h2]
  · simp [h1]
theorem xsame {α : Type} {l : List α} {k : Nat} {x : α} (h : l[k]? = some x) : l.set k x = l := by
  apply List.ext_getElem?
  intro i
  by_cases hi : k = i
  · subst hi
    rw [List.getElem?_set_self (List.getElem?_eq_some_iff.mp h).1, h]
  · rw [List.getElem?_set_ne hi]
def xcl_t (q : vw_C × (Nat → FieldType)) : Bool := (u_ws q.1.1 q.1.2.1 q.1.2.2).all (fun w => decide (w ∈ lw_tbl) && goodWord w) && (List.range q.1.2.2).all (fun k => decide (parseFieldDescriptor (q.1.2.1 k).2.2.1 = some (q.2 k))) && (List.range q.1.2.2).all (fun a => (List.range q.1.2.2).all (fun b => decide (a = b) || decide ((q.1.2.1 a).2.1 ≠ (q.1.2.1 b).2.1)))
theorem xcl_ok : ∀ (ci : Nat) (q : vw_C), classes[ci]? = some q → (∀ w ∈ u_ws q.1 q.2.1 q.2.2, w ∈ xws) ∧ ∃ ty : Nat → FieldType, (∀ k, k < q.2.2 → parseFieldDescriptor (q.2.1 k).2.2.1 = some (ty k)) ∧ (∀ a, a < q.2.2 → ∀ b, b < q.2.2 → a ≠ b → (q.2.1 a).2.1 ≠ (q.2.1 b).2.1) := by
  have h : (classes.zip ctypes).all xcl_t = true := by decide +kernel
  have hl : classes.length = ctypes.length := by decide +kernel
  intro ci q hq
  have hlt := (List.getElem?_eq_some_iff.mp hq).1
  have ht : ctypes[ci]? = some (ctypes[ci]'(by omega)) := List.getElem?_eq_getElem _
  have hz : (classes.zip ctypes)[ci]? = some (q, ctypes[ci]'(by omega)) := by
    rw [List.getElem?_zip_eq_some]; exact ⟨hq, ht⟩
  have h1 := List.all_eq_true.mp h _ (List.mem_of_getElem? hz)
  simp only [xcl_t, Bool.and_eq_true, List.all_eq_true, decide_eq_true_eq, Bool.or_eq_true, List.mem_range] at h1
  refine ⟨fun w hw => List.mem_filter.mpr ⟨(h1.1.1 w hw).1, (h1.1.1 w hw).2⟩, _, fun k hk => h1.1.2 k hk, fun a ha b hb hne => ?_⟩
  rcases h1.2 a ha b hb with h2 | h2
  · exact absurd h2 hne
  · exact h2
section SX
variable {l : Launch} {R : Room} {X : xD} {Ex : State → Prop} {fr : Bool} {K : xK} {n0 : Nat} {Z : List Frame → Array Value → State → State → Prop} {pc : Nat} {L : List (Option Value)} {st : List Value} {sh : List xS} {μ : xM} {cs ss : Nat}
theorem sx_iconst {n : Int} {v : Int32} (hd : decode K.2.1 pc = .ok (.iconst n, 1)) (hv : Int32.ofInt n = v)
    (kk : sx l R X Ex fr K n0 Z (pc + 1) L (.int v :: st) sh μ cs ss) : sx l R X Ex fr K n0 Z pc L (st) sh μ cs ss :=
  fun p e s m args below meth c H locs ls hC hH hL => lv_iconst hC.1 hC.2.1 hd hv (kk p e s m args below meth c H locs ls hC hH hL)
theorem sx_bipush {n : Int} {v : Int32} (hd : decode K.2.1 pc = .ok (.bipush n, 2)) (hv : (Int8.ofInt n).toInt32 = v)
    (kk : sx l R X Ex fr K n0 Z (pc + 2) L (.int v :: st) sh μ cs ss) : sx l R X Ex fr K n0 Z pc L (st) sh μ cs ss :=
  fun p e s m args below meth c H locs ls hC hH hL => lv_bipush hC.1 hC.2.1 hd hv (kk p e s m args below meth c H locs ls hC hH hL)
theorem sx_sipush {n : Int} {v : Int32} (hd : decode K.2.1 pc = .ok (.sipush n, 3)) (hv : (Int16.ofInt n).toInt32 = v)
    (kk : sx l R X Ex fr K n0 Z (pc + 3) L (.int v :: st) sh μ cs ss) : sx l R X Ex fr K n0 Z pc L (st) sh μ cs ss :=
  fun p e s m args below meth c H locs ls hC hH hL => lv_sipush hC.1 hC.2.1 hd hv (kk p e s m args below meth c H locs ls hC hH hL)
theorem sx_ldc {i : Nat} {v : Int32} (hd : decode K.2.1 pc = .ok (.ldc i, 2)) (hw : Jvm.Cond.constant K.1 i v ∈ xws)
    (kk : sx l R X Ex fr K n0 Z (pc + 2) L (.int v :: st) sh μ cs ss) : sx l R X Ex fr K n0 Z pc L (st) sh μ cs ss :=
  fun p e s m args below meth c H locs ls hC hH hL => lv_ldc hC.1 hC.2.1 hC.2.2.2.2.2.1 (hC.2.2.2.2.2.2.1 _ hw) hd (kk p e s m args below meth c H locs ls hC hH hL)
theorem sx_null  (hd : decode K.2.1 pc = .ok (.aconst_null, 1))
    (kk : sx l R X Ex fr K n0 Z (pc + 1) L (.null :: st) sh μ cs ss) : sx l R X Ex fr K n0 Z pc L (st) sh μ cs ss :=
  fun p e s m args below meth c H locs ls hC hH hL => lv_null hC.1 hC.2.1 hd (kk p e s m args below meth c H locs ls hC hH hL)
theorem sx_iload_n {k : Fin 4} {i : Nat} {x : Int32} (hd : decode K.2.1 pc = .ok (.iload_n k, 1)) (hi : (k : Nat) = i) (hx : L[i]? = some (some (.int x)))
    (kk : sx l R X Ex fr K n0 Z (pc + 1) L (.int x :: st) sh μ cs ss) : sx l R X Ex fr K n0 Z pc L (st) sh μ cs ss :=
  fun p e s m args below meth c H locs ls hC hH hL => lv_iload_n hC.1 hC.2.1 hd hi (xL_at hL hx) (kk p e s m args below meth c H locs ls hC hH hL)
theorem sx_iload {i : Nat} {x : Int32} (hd : decode K.2.1 pc = .ok (.iload i, 2)) (hx : L[i]? = some (some (.int x)))
    (kk : sx l R X Ex fr K n0 Z (pc + 2) L (.int x :: st) sh μ cs ss) : sx l R X Ex fr K n0 Z pc L (st) sh μ cs ss :=
  fun p e s m args below meth c H locs ls hC hH hL => lv_iload hC.1 hC.2.1 hd (xL_at hL hx) (kk p e s m args below meth c H locs ls hC hH hL)
theorem sx_aload_n {k : Fin 4} {i : Nat} {x : Nat} (hd : decode K.2.1 pc = .ok (.aload_n k, 1)) (hi : (k : Nat) = i) (hx : L[i]? = some (some (.ref x)))
    (kk : sx l R X Ex fr K n0 Z (pc + 1) L (.ref x :: st) sh μ cs ss) : sx l R X Ex fr K n0 Z pc L (st) sh μ cs ss :=
  fun p e s m args below meth c H locs ls hC hH hL => lv_aload_n hC.1 hC.2.1 hd hi (xL_at hL hx) (kk p e s m args below meth c H locs ls hC hH hL)
theorem sx_aload {i : Nat} {x : Nat} (hd : decode K.2.1 pc = .ok (.aload i, 2)) (hx : L[i]? = some (some (.ref x)))
    (kk : sx l R X Ex fr K n0 Z (pc + 2) L (.ref x :: st) sh μ cs ss) : sx l R X Ex fr K n0 Z pc L (st) sh μ cs ss :=
  fun p e s m args below meth c H locs ls hC hH hL => lv_aload hC.1 hC.2.1 hd (xL_at hL hx) (kk p e s m args below meth c H locs ls hC hH hL)
theorem sx_istore_n {k : Fin 4} {i : Nat} {x : Int32} {L' : List (Option Value)} (hd : decode K.2.1 pc = .ok (.istore_n k, 1)) (hi : (k : Nat) = i) (hn : i < K.2.2.1) (hq : L.set i (some (.int x)) = L')
    (kk : sx l R X Ex fr K n0 Z (pc + 1) L' (st) sh μ cs ss) : sx l R X Ex fr K n0 Z pc L (.int x :: st) sh μ cs ss :=
  fun p e s m args below meth c H locs ls hC hH hL => lv_istore_n hC.1 hC.2.1 hd hi hL.1 hn rfl (fun ls' hl' => kk p e s m args below meth c H locs ls' hC hH (hq ▸ xL_set hL rfl hl'))
theorem sx_istore {i : Nat} {x : Int32} {L' : List (Option Value)} (hd : decode K.2.1 pc = .ok (.istore i, 2)) (hn : i < K.2.2.1) (hq : L.set i (some (.int x)) = L')
    (kk : sx l R X Ex fr K n0 Z (pc + 2) L' (st) sh μ cs ss) : sx l R X Ex fr K n0 Z pc L (.int x :: st) sh μ cs ss :=
  fun p e s m args below meth c H locs ls hC hH hL => lv_istore hC.1 hC.2.1 hd hL.1 hn rfl (fun ls' hl' => kk p e s m args below meth c H locs ls' hC hH (hq ▸ xL_set hL rfl hl'))
theorem sx_astore_n {k : Fin 4} {i : Nat} {x : Nat} {L' : List (Option Value)} (hd : decode K.2.1 pc = .ok (.astore_n k, 1)) (hi : (k : Nat) = i) (hn : i < K.2.2.1) (hq : L.set i (some (.ref x)) = L')
    (kk : sx l R X Ex fr K n0 Z (pc + 1) L' (st) sh μ cs ss) : sx l R X Ex fr K n0 Z pc L (.ref x :: st) sh μ cs ss :=
  fun p e s m args below meth c H locs ls hC hH hL => lv_astore_n hC.1 hC.2.1 hd hi hL.1 hn rfl (fun ls' hl' => kk p e s m args below meth c H locs ls' hC hH (hq ▸ xL_set hL rfl hl'))
theorem sx_astore {i : Nat} {x : Nat} {L' : List (Option Value)} (hd : decode K.2.1 pc = .ok (.astore i, 2)) (hn : i < K.2.2.1) (hq : L.set i (some (.ref x)) = L')
    (kk : sx l R X Ex fr K n0 Z (pc + 2) L' (st) sh μ cs ss) : sx l R X Ex fr K n0 Z pc L (.ref x :: st) sh μ cs ss :=
  fun p e s m args below meth c H locs ls hC hH hL => lv_astore hC.1 hC.2.1 hd hL.1 hn rfl (fun ls' hl' => kk p e s m args below meth c H locs ls' hC hH (hq ▸ xL_set hL rfl hl'))
theorem sx_iinc {i : Nat} {n : Int} {x v : Int32} {L' : List (Option Value)} (hd : decode K.2.1 pc = .ok (.iinc i n, 3)) (hx : L[i]? = some (some (.int x))) (hv : x + Int32.ofInt n = v) (hn : i < K.2.2.1) (hq : L.set i (some (.int v)) = L')
    (kk : sx l R X Ex fr K n0 Z (pc + 3) L' (st) sh μ cs ss) : sx l R X Ex fr K n0 Z pc L (st) sh μ cs ss :=
  fun p e s m args below meth c H locs ls hC hH hL => by
    obtain ⟨j, hj⟩ := List.getElem?_of_mem ((xlv_mem L 0 (i, .int x)).mpr ⟨i, hx, (Nat.zero_add i).symm⟩)
    exact lv_iinc hC.1 hC.2.1 hd hL.1 hj hv hn rfl (fun ls' hl' => kk p e s m args below meth c H locs ls' hC hH (hq ▸ xL_set hL rfl hl'))
theorem sx_iadd {x y : Int32} (hd : decode K.2.1 pc = .ok (.iadd, 1))
    (kk : sx l R X Ex fr K n0 Z (pc + 1) L (.int (x + y) :: st) sh μ cs ss) : sx l R X Ex fr K n0 Z pc L (.int y :: .int x :: st) sh μ cs ss :=
  fun p e s m args below meth c H locs ls hC hH hL => lv_iadd hC.1 hC.2.1 hd (kk p e s m args below meth c H locs ls hC hH hL)
theorem sx_isub {x y : Int32} (hd : decode K.2.1 pc = .ok (.isub, 1))
    (kk : sx l R X Ex fr K n0 Z (pc + 1) L (.int (x - y) :: st) sh μ cs ss) : sx l R X Ex fr K n0 Z pc L (.int y :: .int x :: st) sh μ cs ss :=
  fun p e s m args below meth c H locs ls hC hH hL => lv_isub hC.1 hC.2.1 hd (kk p e s m args below meth c H locs ls hC hH hL)
theorem sx_imul {x y : Int32} (hd : decode K.2.1 pc = .ok (.imul, 1))
    (kk : sx l R X Ex fr K n0 Z (pc + 1) L (.int (x * y) :: st) sh μ cs ss) : sx l R X Ex fr K n0 Z pc L (.int y :: .int x :: st) sh μ cs ss :=
  fun p e s m args below meth c H locs ls hC hH hL => lv_imul hC.1 hC.2.1 hd (kk p e s m args below meth c H locs ls hC hH hL)
theorem sx_iand {x y : Int32} (hd : decode K.2.1 pc = .ok (.iand, 1))
    (kk : sx l R X Ex fr K n0 Z (pc + 1) L (.int (x &&& y) :: st) sh μ cs ss) : sx l R X Ex fr K n0 Z pc L (.int y :: .int x :: st) sh μ cs ss :=
  fun p e s m args below meth c H locs ls hC hH hL => lv_iand hC.1 hC.2.1 hd (kk p e s m args below meth c H locs ls hC hH hL)
theorem sx_ishr {x y : Int32} (hd : decode K.2.1 pc = .ok (.ishr, 1))
    (kk : sx l R X Ex fr K n0 Z (pc + 1) L (.int (x >>> (y &&& 31)) :: st) sh μ cs ss) : sx l R X Ex fr K n0 Z pc L (.int y :: .int x :: st) sh μ cs ss :=
  fun p e s m args below meth c H locs ls hC hH hL => lv_ishr hC.1 hC.2.1 hd (kk p e s m args below meth c H locs ls hC hH hL)
theorem sx_idiv {x y : Int32} (hd : decode K.2.1 pc = .ok (.idiv, 1)) (hne : ¬ y = 0)
    (kk : sx l R X Ex fr K n0 Z (pc + 1) L (.int (x / y) :: st) sh μ cs ss) : sx l R X Ex fr K n0 Z pc L (.int y :: .int x :: st) sh μ cs ss :=
  fun p e s m args below meth c H locs ls hC hH hL => lv_idiv hC.1 hC.2.1 hd hne (kk p e s m args below meth c H locs ls hC hH hL)
theorem sx_irem {x y : Int32} (hd : decode K.2.1 pc = .ok (.irem, 1)) (hne : ¬ y = 0)
    (kk : sx l R X Ex fr K n0 Z (pc + 1) L (.int (x - x / y * y) :: st) sh μ cs ss) : sx l R X Ex fr K n0 Z pc L (.int y :: .int x :: st) sh μ cs ss :=
  fun p e s m args below meth c H locs ls hC hH hL => lv_irem hC.1 hC.2.1 hd hne (kk p e s m args below meth c H locs ls hC hH hL)
theorem sx_i2b {x v : Int32} (hd : decode K.2.1 pc = .ok (.i2b, 1)) (hv : x.toInt8.toInt32 = v)
    (kk : sx l R X Ex fr K n0 Z (pc + 1) L (.int v :: st) sh μ cs ss) : sx l R X Ex fr K n0 Z pc L (.int x :: st) sh μ cs ss :=
  fun p e s m args below meth c H locs ls hC hH hL => lv_i2b hC.1 hC.2.1 hd hv (kk p e s m args below meth c H locs ls hC hH hL)
theorem sx_i2l {x : Int32} {v : Int64} (hd : decode K.2.1 pc = .ok (.i2l, 1)) (hv : x.toInt64 = v)
    (kk : sx l R X Ex fr K n0 Z (pc + 1) L (.long v :: st) sh μ cs ss) : sx l R X Ex fr K n0 Z pc L (.int x :: st) sh μ cs ss :=
  fun p e s m args below meth c H locs ls hC hH hL => lv_i2l hC.1 hC.2.1 hd hv (kk p e s m args below meth c H locs ls hC hH hL)
theorem sx_dup {va : Value} (hd : decode K.2.1 pc = .ok (.dup, 1)) (h1 : va.category = 1)
    (kk : sx l R X Ex fr K n0 Z (pc + 1) L (va :: va :: st) sh μ cs ss) : sx l R X Ex fr K n0 Z pc L (va :: st) sh μ cs ss :=
  fun p e s m args below meth c H locs ls hC hH hL => lv_dup hC.1 hC.2.1 hd h1 (kk p e s m args below meth c H locs ls hC hH hL)
theorem sx_pop {va : Value} (hd : decode K.2.1 pc = .ok (.pop, 1)) (h1 : va.category = 1)
    (kk : sx l R X Ex fr K n0 Z (pc + 1) L (st) sh μ cs ss) : sx l R X Ex fr K n0 Z pc L (va :: st) sh μ cs ss :=
  fun p e s m args below meth c H locs ls hC hH hL => lv_pop hC.1 hC.2.1 hd h1 (kk p e s m args below meth c H locs ls hC hH hL)
theorem sx_dup_x1 {va vb : Value} (hd : decode K.2.1 pc = .ok (.dup_x1, 1)) (h1 : va.category = 1) (h2 : vb.category = 1)
    (kk : sx l R X Ex fr K n0 Z (pc + 1) L (va :: vb :: va :: st) sh μ cs ss) : sx l R X Ex fr K n0 Z pc L (va :: vb :: st) sh μ cs ss :=
  fun p e s m args below meth c H locs ls hC hH hL => lv_dup_x1 hC.1 hC.2.1 hd h1 h2 (kk p e s m args below meth c H locs ls hC hH hL)
theorem sx_dup_x2 {va vb vd : Value} (hd : decode K.2.1 pc = .ok (.dup_x2, 1)) (h1 : va.category = 1) (h2 : vb.category = 1) (h3 : vd.category = 1)
    (kk : sx l R X Ex fr K n0 Z (pc + 1) L (va :: vb :: vd :: va :: st) sh μ cs ss) : sx l R X Ex fr K n0 Z pc L (va :: vb :: vd :: st) sh μ cs ss :=
  fun p e s m args below meth c H locs ls hC hH hL => lv_dup_x2 hC.1 hC.2.1 hd h1 h2 h3 (kk p e s m args below meth c H locs ls hC hH hL)
theorem sx_dup2 {va vb : Value} (hd : decode K.2.1 pc = .ok (.dup2, 1)) (h1 : va.category = 1) (h2 : vb.category = 1)
    (kk : sx l R X Ex fr K n0 Z (pc + 1) L (va :: vb :: va :: vb :: st) sh μ cs ss) : sx l R X Ex fr K n0 Z pc L (va :: vb :: st) sh μ cs ss :=
  fun p e s m args below meth c H locs ls hC hH hL => lv_dup2_11 hC.1 hC.2.1 hd h1 h2 (kk p e s m args below meth c H locs ls hC hH hL)
theorem sx_goto {off : Int} {tgt : Nat} (hd : decode K.2.1 pc = .ok (.goto off, 3)) (ht : (pc : Int) + off = (tgt : Int))
    (kk : sx l R X Ex fr K n0 Z (tgt) L (st) sh μ cs ss) : sx l R X Ex fr K n0 Z pc L (st) sh μ cs ss :=
  fun p e s m args below meth c H locs ls hC hH hL => lv_goto hC.1 hC.2.1 hd ht (kk p e s m args below meth c H locs ls hC hH hL)
theorem sx_if_eq {x : Int32} {off : Int} {tgt : Nat} (hd : decode K.2.1 pc = .ok (.ifCond .eq off, 3)) (ht : (pc : Int) + off = (tgt : Int))
    (kt : (x = 0) → sx l R X Ex fr K n0 Z tgt L st sh μ cs ss) (kf : ¬ (x = 0) → sx l R X Ex fr K n0 Z (pc + 3) L st sh μ cs ss) : sx l R X Ex fr K n0 Z pc L (.int x :: st) sh μ cs ss :=
  fun p e s m args below meth c H locs ls hC hH hL => lv_if_eq hC.1 hC.2.1 hd ht (fun q => kt q p e s m args below meth c H locs ls hC hH hL) (fun q => kf q p e s m args below meth c H locs ls hC hH hL)
theorem sx_icmp_eq {x y : Int32} {off : Int} {tgt : Nat} (hd : decode K.2.1 pc = .ok (.if_icmp .eq off, 3)) (ht : (pc : Int) + off = (tgt : Int))
    (kt : (x = y) → sx l R X Ex fr K n0 Z tgt L st sh μ cs ss) (kf : ¬ (x = y) → sx l R X Ex fr K n0 Z (pc + 3) L st sh μ cs ss) : sx l R X Ex fr K n0 Z pc L (.int y :: .int x :: st) sh μ cs ss :=
  fun p e s m args below meth c H locs ls hC hH hL => lv_icmp_eq hC.1 hC.2.1 hd ht (fun q => kt q p e s m args below meth c H locs ls hC hH hL) (fun q => kf q p e s m args below meth c H locs ls hC hH hL)
theorem sx_if_ne {x : Int32} {off : Int} {tgt : Nat} (hd : decode K.2.1 pc = .ok (.ifCond .ne off, 3)) (ht : (pc : Int) + off = (tgt : Int))
    (kt : ¬ x = 0 → sx l R X Ex fr K n0 Z tgt L st sh μ cs ss) (kf : x = 0 → sx l R X Ex fr K n0 Z (pc + 3) L st sh μ cs ss) : sx l R X Ex fr K n0 Z pc L (.int x :: st) sh μ cs ss :=
  fun p e s m args below meth c H locs ls hC hH hL => lv_if_ne hC.1 hC.2.1 hd ht (fun q => kt q p e s m args below meth c H locs ls hC hH hL) (fun q => kf q p e s m args below meth c H locs ls hC hH hL)
theorem sx_icmp_ne {x y : Int32} {off : Int} {tgt : Nat} (hd : decode K.2.1 pc = .ok (.if_icmp .ne off, 3)) (ht : (pc : Int) + off = (tgt : Int))
    (kt : ¬ x = y → sx l R X Ex fr K n0 Z tgt L st sh μ cs ss) (kf : x = y → sx l R X Ex fr K n0 Z (pc + 3) L st sh μ cs ss) : sx l R X Ex fr K n0 Z pc L (.int y :: .int x :: st) sh μ cs ss :=
  fun p e s m args below meth c H locs ls hC hH hL => lv_icmp_ne hC.1 hC.2.1 hd ht (fun q => kt q p e s m args below meth c H locs ls hC hH hL) (fun q => kf q p e s m args below meth c H locs ls hC hH hL)
theorem sx_if_lt {x : Int32} {off : Int} {tgt : Nat} (hd : decode K.2.1 pc = .ok (.ifCond .lt off, 3)) (ht : (pc : Int) + off = (tgt : Int))
    (kt : (x < 0) → sx l R X Ex fr K n0 Z tgt L st sh μ cs ss) (kf : ¬ (x < 0) → sx l R X Ex fr K n0 Z (pc + 3) L st sh μ cs ss) : sx l R X Ex fr K n0 Z pc L (.int x :: st) sh μ cs ss :=
  fun p e s m args below meth c H locs ls hC hH hL => lv_if_lt hC.1 hC.2.1 hd ht (fun q => kt q p e s m args below meth c H locs ls hC hH hL) (fun q => kf q p e s m args below meth c H locs ls hC hH hL)
theorem sx_icmp_lt {x y : Int32} {off : Int} {tgt : Nat} (hd : decode K.2.1 pc = .ok (.if_icmp .lt off, 3)) (ht : (pc : Int) + off = (tgt : Int))
    (kt : (x < y) → sx l R X Ex fr K n0 Z tgt L st sh μ cs ss) (kf : ¬ (x < y) → sx l R X Ex fr K n0 Z (pc + 3) L st sh μ cs ss) : sx l R X Ex fr K n0 Z pc L (.int y :: .int x :: st) sh μ cs ss :=
  fun p e s m args below meth c H locs ls hC hH hL => lv_icmp_lt hC.1 hC.2.1 hd ht (fun q => kt q p e s m args below meth c H locs ls hC hH hL) (fun q => kf q p e s m args below meth c H locs ls hC hH hL)
theorem sx_if_ge {x : Int32} {off : Int} {tgt : Nat} (hd : decode K.2.1 pc = .ok (.ifCond .ge off, 3)) (ht : (pc : Int) + off = (tgt : Int))
    (kt : (0 ≤ x) → sx l R X Ex fr K n0 Z tgt L st sh μ cs ss) (kf : ¬ (0 ≤ x) → sx l R X Ex fr K n0 Z (pc + 3) L st sh μ cs ss) : sx l R X Ex fr K n0 Z pc L (.int x :: st) sh μ cs ss :=
  fun p e s m args below meth c H locs ls hC hH hL => lv_if_ge hC.1 hC.2.1 hd ht (fun q => kt q p e s m args below meth c H locs ls hC hH hL) (fun q => kf q p e s m args below meth c H locs ls hC hH hL)
theorem sx_icmp_ge {x y : Int32} {off : Int} {tgt : Nat} (hd : decode K.2.1 pc = .ok (.if_icmp .ge off, 3)) (ht : (pc : Int) + off = (tgt : Int))
    (kt : (y ≤ x) → sx l R X Ex fr K n0 Z tgt L st sh μ cs ss) (kf : ¬ (y ≤ x) → sx l R X Ex fr K n0 Z (pc + 3) L st sh μ cs ss) : sx l R X Ex fr K n0 Z pc L (.int y :: .int x :: st) sh μ cs ss :=
  fun p e s m args below meth c H locs ls hC hH hL => lv_icmp_ge hC.1 hC.2.1 hd ht (fun q => kt q p e s m args below meth c H locs ls hC hH hL) (fun q => kf q p e s m args below meth c H locs ls hC hH hL)
theorem sx_if_gt {x : Int32} {off : Int} {tgt : Nat} (hd : decode K.2.1 pc = .ok (.ifCond .gt off, 3)) (ht : (pc : Int) + off = (tgt : Int))
    (kt : (0 < x) → sx l R X Ex fr K n0 Z tgt L st sh μ cs ss) (kf : ¬ (0 < x) → sx l R X Ex fr K n0 Z (pc + 3) L st sh μ cs ss) : sx l R X Ex fr K n0 Z pc L (.int x :: st) sh μ cs ss :=
  fun p e s m args below meth c H locs ls hC hH hL => lv_if_gt hC.1 hC.2.1 hd ht (fun q => kt q p e s m args below meth c H locs ls hC hH hL) (fun q => kf q p e s m args below meth c H locs ls hC hH hL)
theorem sx_icmp_gt {x y : Int32} {off : Int} {tgt : Nat} (hd : decode K.2.1 pc = .ok (.if_icmp .gt off, 3)) (ht : (pc : Int) + off = (tgt : Int))
    (kt : (y < x) → sx l R X Ex fr K n0 Z tgt L st sh μ cs ss) (kf : ¬ (y < x) → sx l R X Ex fr K n0 Z (pc + 3) L st sh μ cs ss) : sx l R X Ex fr K n0 Z pc L (.int y :: .int x :: st) sh μ cs ss :=
  fun p e s m args below meth c H locs ls hC hH hL => lv_icmp_gt hC.1 hC.2.1 hd ht (fun q => kt q p e s m args below meth c H locs ls hC hH hL) (fun q => kf q p e s m args below meth c H locs ls hC hH hL)
theorem sx_if_le {x : Int32} {off : Int} {tgt : Nat} (hd : decode K.2.1 pc = .ok (.ifCond .le off, 3)) (ht : (pc : Int) + off = (tgt : Int))
    (kt : (x ≤ 0) → sx l R X Ex fr K n0 Z tgt L st sh μ cs ss) (kf : ¬ (x ≤ 0) → sx l R X Ex fr K n0 Z (pc + 3) L st sh μ cs ss) : sx l R X Ex fr K n0 Z pc L (.int x :: st) sh μ cs ss :=
  fun p e s m args below meth c H locs ls hC hH hL => lv_if_le hC.1 hC.2.1 hd ht (fun q => kt q p e s m args below meth c H locs ls hC hH hL) (fun q => kf q p e s m args below meth c H locs ls hC hH hL)
theorem sx_icmp_le {x y : Int32} {off : Int} {tgt : Nat} (hd : decode K.2.1 pc = .ok (.if_icmp .le off, 3)) (ht : (pc : Int) + off = (tgt : Int))
    (kt : (x ≤ y) → sx l R X Ex fr K n0 Z tgt L st sh μ cs ss) (kf : ¬ (x ≤ y) → sx l R X Ex fr K n0 Z (pc + 3) L st sh μ cs ss) : sx l R X Ex fr K n0 Z pc L (.int y :: .int x :: st) sh μ cs ss :=
  fun p e s m args below meth c H locs ls hC hH hL => lv_icmp_le hC.1 hC.2.1 hd ht (fun q => kt q p e s m args below meth c H locs ls hC hH hL) (fun q => kf q p e s m args below meth c H locs ls hC hH hL)
theorem sx_lookup {dflt : Int} {ps : Array (Int × Int)} {len : Nat} {x : Int32} {off : Int} {tgt : Nat} (hd : decode K.2.1 pc = .ok (.lookupswitch dflt ps, len)) (hp : (ps.toList.zip (ps.toList.drop 1)).all (fun (a, next) => a.1 < next.1) = true) (ho : Op.lookupswitch.offset ps.toList dflt x.toInt = off) (ht : (pc : Int) + off = (tgt : Int))
    (kk : sx l R X Ex fr K n0 Z (tgt) L (st) sh μ cs ss) : sx l R X Ex fr K n0 Z pc L (.int x :: st) sh μ cs ss :=
  fun p e s m args below meth c H locs ls hC hH hL => lv_lookup hC.1 hC.2.1 hd hp ho ht (kk p e s m args below meth c H locs ls hC hH hL)
theorem sx_tableOut {dflt lo hi : Int} {offs : Array Int} {len : Nat} {x : Int32} {tgt : Nat} (hd : decode K.2.1 pc = .ok (.tableswitch dflt lo hi offs, len)) (h : x.toInt < lo ∨ hi < x.toInt) (ht : (pc : Int) + dflt = (tgt : Int))
    (kk : sx l R X Ex fr K n0 Z (tgt) L (st) sh μ cs ss) : sx l R X Ex fr K n0 Z pc L (.int x :: st) sh μ cs ss :=
  fun p e s m args below meth c H locs ls hC hH hL => lv_tableOut hC.1 hC.2.1 hd h ht (kk p e s m args below meth c H locs ls hC hH hL)
theorem sx_tableIn {dflt lo hi : Int} {offs : Array Int} {len : Nat} {x : Int32} {off : Int} {tgt : Nat} (hd : decode K.2.1 pc = .ok (.tableswitch dflt lo hi offs, len)) (h1 : ¬ x.toInt < lo) (h2 : ¬ hi < x.toInt) (ho : offs[(x.toInt - lo).toNat]? = some off) (ht : (pc : Int) + off = (tgt : Int))
    (kk : sx l R X Ex fr K n0 Z (tgt) L (st) sh μ cs ss) : sx l R X Ex fr K n0 Z pc L (.int x :: st) sh μ cs ss :=
  fun p e s m args below meth c H locs ls hC hH hL => lv_tableIn hC.1 hC.2.1 hd h1 h2 ho ht (kk p e s m args below meth c H locs ls hC hH hL)
end SX
section SXP
variable {p : Program} {l : Launch} {e : Env} {R : Room} {s : State} {m : MethodId} {args : Array Value} {below : List Frame} {meth : Method} {c : Code} {H : Heap} {locs : List Loc} {cells slots : Nat} {Q : State → Prop}
variable {cc : ByteArray} {pc : Nat} {ls : Array Slot} {rest : List Value} {D : va_G} {cl : List vw_C} {A : Nat → Prop} {a : Nat} {tys : List (ClassId × FieldType)} {ws : va_W} {H0 : Heap}
/-- what a field of a cell of the world is, for a store -/
theorem xf_slot {own C : String} {T : u_T} {N ci : Nat} {Ts : List Cond} (hts : ∀ w ∈ Ts, w.before args s = true) (hin : ∀ w ∈ u_ws C T N, w ∈ Ts) (ty0 : Nat → FieldType) (hty : ∀ k, k < N → parseFieldDescriptor (T k).2.2.1 = some (ty0 k)) (hnm : ∀ a, a < N → ∀ b, b < N → a ≠ b → (T a).2.1 ≠ (T b).2.1) (hK : va_K D cl tys s) (hP : va_P D cl ws H) (q0 : Nat) {fs : List Value} (he : ws[q0]? = some (a, .inr (ci, fs))) (hc : cl[ci]? = some (C, T, N)) (k : Nat) (hk : k < N) (hl : k < fs.length) (v : Value) :
    ∃ (cell : Cell) (cf fi : Nat) (kf kC : Class) (f : Field), H[a]? = some cell ∧ cell.cls = D.1 ci ∧ cell.vm = .none ∧ s.fieldFound? (T k).1 (T k).2.1 (T k).2.2.1 = some (cf, kf, fi, f) ∧ f.isStatic = false ∧ f.slot < cell.slots.size ∧ s.vm.findClass C = some (D.1 ci) ∧ s.vm.classes[D.1 ci]? = some kC ∧ kC.kind = .ordinary ∧
      ∀ H1 : Heap, H1[a]? = some (cell.setSlot f.slot v) → va_at D cl (a, .inr (ci, fs.set k v)) H1 := by
  have hap := va_apart (own := own) hts hin ty0 hty hnm hK hc
  obtain ⟨r, h1, cell, q1, q2, q3, q4⟩ := hP q0 _ he
  obtain rfl : r = (C, T, N) := Option.some.inj (h1.symm.trans hc)
  obtain ⟨hS, hfc, kC, hkC, hkind⟩ := hK.1 ci _ hc
  obtain ⟨cf, kf, fi, f, hi, hsl⟩ := hS k hk
  refine ⟨cell, cf, fi, kf, kC, f, q1, q2, q3, hi, (u_facts hfc hkC (u_lays hts hin hk) hi).1, by rw [hsl]; exact k2_hasslot (q4 k hk), hfc, hkC, hkind, fun H1 e1 => ?_⟩
  rw [hsl] at e1
  exact ⟨_, hc, t_OB.to (V := updV (vp_V fs) k v) ⟨_, e1, q2, q3, t_set q4 hap hk v⟩ (fun j _ => vp_updV_set hl v j)⟩
theorem va_putz (hexec : p.tables.exec = Jvm.exec) (hb : c.code = cc) {own C : String} {T : u_T} {N ci index : Nat} {Ts : List Cond} (hts : ∀ w ∈ Ts, w.before args s = true) (hin : ∀ w ∈ u_ws C T N, w ∈ Ts) (ty0 : Nat → FieldType) (hty : ∀ k, k < N → parseFieldDescriptor (T k).2.2.1 = some (ty0 k)) (hnm : ∀ a, a < N → ∀ b, b < N → a ≠ b → (T a).2.1 ≠ (T b).2.1) (hown : s.vm.findClass own = some m.cls) (hK : va_K D cl tys s) (hP : va_P D cl ws H) (hD : va_D A ws) (hS0 : va_S A H0 H locs) (q0 : Nat) {fs : List Value} (he : ws[q0]? = some (a, .inr (ci, fs))) (hc : cl[ci]? = some (C, T, N)) (k : Nat) (hk : k < N) (hlink : (Cond.fieldLink own index (T k).1 (T k).2.1 (T k).2.2.1).before args s = true) (hfin : (T k).2.2.2 = false) {ty : FieldType} {v : Value} (hd : parseFieldDescriptor (T k).2.2.1 = some ty) (hn : narrow ty v = v) (hfit : fits ty v = true) (hl : k < fs.length)
    (hdg : decode cc pc = .ok (.putfield index, 3)) (kk : ∀ (H1 : Heap) (locs1 : List Loc), H1.size = H.size → va_P D cl (ws.set q0 (a, .inr (ci, fs.set k v))) H1 → va_S A H0 H1 locs1 → W p l e R s m args below meth c H1 locs1 cells slots Q (F0 m (pc + 3) ls rest)) : W p l e R s m args below meth c H locs cells slots Q (F0 m pc ls (v :: .ref a :: rest)) := by
  obtain ⟨cell, cf, fi, kf, kC, f, q1, q2, q3, hi, hst, hlt, hfc, hkC, hkind, hat⟩ := xf_slot (own := own) hts hin ty0 hty hnm hK hP q0 he hc k hk hl v
  have hlay := hts _ (hin _ (u_in_lay hk))
  unfold u_lay at hlay
  rw [if_neg (by rw [hfin]; decide)] at hlay
  refine W.putK hexec hb (f := f) ⟨hown, hlink, ⟨_, _, _, hi⟩, hst⟩ (by rw [q2]; exact u_store hfc hkC hkind hlay hi hd hn hfit) q1 q3 hlt rfl rfl hdg fun H' e1 e2 e3 => ?_
  exact kk H' _ e2 (hP.set hD he (hat H' e1) e3) (hS0.put e2 e3 (hD.2 q0 _ he))
theorem va_putFz (hexec : p.tables.exec = Jvm.exec) (hb : c.code = cc) {own C : String} {T : u_T} {N ci index : Nat} {Ts : List Cond} (hts : ∀ w ∈ Ts, w.before args s = true) (hin : ∀ w ∈ u_ws C T N, w ∈ Ts) (ty0 : Nat → FieldType) (hty : ∀ k, k < N → parseFieldDescriptor (T k).2.2.1 = some (ty0 k)) (hnm : ∀ a, a < N → ∀ b, b < N → a ≠ b → (T a).2.1 ≠ (T b).2.1) (hown : s.vm.findClass own = some m.cls) (hK : va_K D cl tys s) (hP : va_P D cl ws H) (hD : va_D A ws) (hS0 : va_S A H0 H locs) (q0 : Nat) {fs : List Value} (he : ws[q0]? = some (a, .inr (ci, fs))) (hc : cl[ci]? = some (C, T, N)) (k : Nat) (hk : k < N) (hlink : (Cond.fieldLink own index (T k).1 (T k).2.1 (T k).2.2.1).before args s = true) (hfin : (T k).2.2.2 = true) (hin2 : meth.name = "<init>") (hdecl : (T k).1 = own) {ty : FieldType} {v : Value} (hd : parseFieldDescriptor (T k).2.2.1 = some ty) (hn : narrow ty v = v) (hfit : fits ty v = true) (hl : k < fs.length)
    (hdg : decode cc pc = .ok (.putfield index, 3)) (kk : ∀ (H1 : Heap) (locs1 : List Loc), H1.size = H.size → va_P D cl (ws.set q0 (a, .inr (ci, fs.set k v))) H1 → va_S A H0 H1 locs1 → W p l e R s m args below meth c H1 locs1 cells slots Q (F0 m (pc + 3) ls rest)) : W p l e R s m args below meth c H locs cells slots Q (F0 m pc ls (v :: .ref a :: rest)) := by
  obtain ⟨cell, cf, fi, kf, kC, f, q1, q2, q3, hi, hst, hlt, hfc, hkC, hkind, hat⟩ := xf_slot (own := own) hts hin ty0 hty hnm hK hP q0 he hc k hk hl v
  have hlay := hts _ (hin _ (u_in_lay hk))
  unfold u_lay at hlay
  rw [if_pos hfin] at hlay
  have hcf : m.cls = cf := by
    obtain ⟨_, _, c', _, _, _, -, -, hf', -, -, -, hown2, -⟩ := Cond.laysFinal_spec hlay
    have e1 : c' = cf := by have := hi.symm.trans hf'; simp at this; exact this.1.symm
    rw [hdecl] at hown2
    rw [← e1]; exact Option.some.inj (hown.symm.trans hown2)
  refine W.putFinK hexec hb hown hlink hi hst hcf hin2 (by rw [q2]; exact u_fits hfc hkC hkind (Or.inr hlay) hi hd hn hfit) q1 q3 hlt rfl rfl hdg fun H' e1 e2 e3 => ?_
  exact kk H' _ e2 (hP.set hD he (hat H' e1) e3) (hS0.put e2 e3 (hD.2 q0 _ he))
theorem va_iastz (hexec : p.tables.exec = Jvm.exec) (hb : c.code = cc) (hK : va_K D cl tys s) (hP : va_P D cl ws H) (hD : va_D A ws) (hS : va_S A H0 H locs) (q0 t0 : Nat) {cA : ClassId} {n : Nat} {f : Nat → Int32} (ha : ws[q0]? = some (a, .inl (cA, n, .inl f))) (ht : tys[t0]? = some (cA, .int)) {i : Int32} {x : Int32} (hin : vp_in i n) (hdg : decode cc pc = .ok (.iastore, 1))
    (kk : ∀ (H1 : Heap) (locs1 : List Loc), H1.size = H.size → va_P D cl (ws.set q0 (a, .inl (cA, n, .inl (upd f i.toNatClampNeg x)))) H1 → va_S A H0 H1 locs1 → W p l e R s m args below meth c H1 locs1 cells slots Q (F0 m (pc + 1) ls rest)) : W p l e R s m args below meth c H locs cells slots Q (F0 m pc ls (.int x :: .int i :: .ref a :: rest)) := by
  refine W.iast hexec hb (hP q0 _ ha) ((hK.2 t0 _ ht).1 n (fun j => .int (f j))) (fun q => by cases q) (by show ¬ (i < 0 ∨ (arrV _ _ _).slots.size ≤ _); rw [arrV_size]; exact hin) rfl rfl hdg fun H1 e z oq => ?_
  refine kk H1 _ z (hP.set hD ha ?_ oq) (hS.put z oq (hD.2 q0 _ ha))
  show H1[a]? = some (vp_cell _ _)
  rw [e, vp_cell_i, vp_cell_i, arrV_store]
  congr 2
  funext q
  by_cases hq : q = i.toNatClampNeg
  · subst hq
    simp [updV, upd]
  · simp [updV, upd, hq]
end SXP
section SXH
variable {l : Launch} {R : Room} {X : xD} {Ex : State → Prop} {fr : Bool} {K : xK} {n0 : Nat} {Z : List Frame → Array Value → State → State → Prop} {pc : Nat} {L : List (Option Value)} {st : List Value} {sh : List xS} {μ : xM} {cs ss : Nat}
theorem xH_set {n0 : Nat} {fr : Bool} {sh : List xS} {μ : xM} {s : State} {H : Heap} {locs : List Loc} {X : xD} (hH : xH X fr n0 sh μ s H locs) {k : Nat} {s' : xS} {f : Nat → Int32} {e : va_E} (hk : k < sh.length) (he : e = xpic X s' f) {H1 : Heap} {locs1 : List Loc} (hz : H1.size = H.size) (hP : va_P X.1.1 classes ((xwl X sh μ).set k (X.2 + k, e)) H1) (hS : va_S (xA X.2 n0 fr) s.heap H1 locs1) : xH X fr n0 (sh.set k s') (va_up μ k f) s H1 locs1 := by
  subst he
  rw [xwl_set hk] at hP
  refine ⟨hP, hS, by rw [List.length_set]; exact hH.2.2.1, fun h => by rw [List.length_set]; exact hH.2.2.2.1 h, fun h => by rw [List.length_set, hz]; exact hH.2.2.2.2 h⟩
theorem sx_geti {C : String} {T : u_T} {N ci i j k : Nat} {fl : List (Option (Option Nat))} (hd : decode K.2.1 pc = .ok (.getfield i, 3)) (hc : classes[ci]? = some (C, T, N)) (hs : sh[k]? = some (.inl (ci, fl))) (hj : fl[j]? = some none) (hjn : j < N) (hw : Cond.fieldLink K.1 i (T j).1 (T j).2.1 (T j).2.2.1 ∈ xws)
    (kk : sx l R X Ex fr K n0 Z (pc + 3) L (.int (μ k j) :: st) sh μ cs ss) : sx l R X Ex fr K n0 Z pc L (.ref (X.2 + k) :: st) sh μ cs ss :=
  fun p e s m args below meth c H locs ls hC hH hL => va_get hC.1 hC.2.1 hC.2.2.2.2.2.2.1 (xcl_ok ci _ hc).1 hC.2.2.2.2.2.1 hC.2.2.2.2.2.2.2.2.1 hH.1 k (xwl_get μ hs) hc j hjn (hC.2.2.2.2.2.2.1 _ hw) (fun _ h => h) (v := .int (μ k j)) (by have := xfs_get X.2 (μ k) fl 0 j none hj; rwa [Nat.zero_add] at this) hd (kk p e s m args below meth c H locs ls hC hH hL)
theorem sx_getr {C : String} {T : u_T} {N ci i j k r : Nat} {fl : List (Option (Option Nat))} (hd : decode K.2.1 pc = .ok (.getfield i, 3)) (hc : classes[ci]? = some (C, T, N)) (hs : sh[k]? = some (.inl (ci, fl))) (hj : fl[j]? = some (some (some r))) (hjn : j < N) (hw : Cond.fieldLink K.1 i (T j).1 (T j).2.1 (T j).2.2.1 ∈ xws)
    (kk : sx l R X Ex fr K n0 Z (pc + 3) L (.ref (X.2 + r) :: st) sh μ cs ss) : sx l R X Ex fr K n0 Z pc L (.ref (X.2 + k) :: st) sh μ cs ss :=
  fun p e s m args below meth c H locs ls hC hH hL => va_get hC.1 hC.2.1 hC.2.2.2.2.2.2.1 (xcl_ok ci _ hc).1 hC.2.2.2.2.2.1 hC.2.2.2.2.2.2.2.2.1 hH.1 k (xwl_get μ hs) hc j hjn (hC.2.2.2.2.2.2.1 _ hw) (fun _ h => h) (v := .ref (X.2 + r)) (by have := xfs_get X.2 (μ k) fl 0 j _ hj; rwa [Nat.zero_add] at this) hd (kk p e s m args below meth c H locs ls hC hH hL)
theorem sx_getiN {C host : String} {T : u_T} {N ci i j k : Nat} {fl : List (Option (Option Nat))} (hd : decode K.2.1 pc = .ok (.getfield i, 3)) (hc : classes[ci]? = some (C, T, N)) (hs : sh[k]? = some (.inl (ci, fl))) (hj : fl[j]? = some none) (hjn : j < N) (hw : Cond.fieldLinkNest K.1 i (T j).1 (T j).2.1 (T j).2.2.1 host ∈ xnw)
    (kk : sx l R X Ex fr K n0 Z (pc + 3) L (.int (μ k j) :: st) sh μ cs ss) : sx l R X Ex fr K n0 Z pc L (.ref (X.2 + k) :: st) sh μ cs ss :=
  fun p e s m args below meth c H locs ls hC hH hL => va_getN hC.1 hC.2.1 hC.2.2.2.2.2.2.1 (xcl_ok ci _ hc).1 hC.2.2.2.2.2.1 hC.2.2.2.2.2.2.2.2.1 hH.1 k (xwl_get μ hs) hc j hjn (va_Nw.use rfl (hC.2.2.2.2.2.2.2.1 _ hw)) (fun _ h => h) (v := .int (μ k j)) (by have := xfs_get X.2 (μ k) fl 0 j none hj; rwa [Nat.zero_add] at this) hd (kk p e s m args below meth c H locs ls hC hH hL)
theorem sx_getrN {C host : String} {T : u_T} {N ci i j k r : Nat} {fl : List (Option (Option Nat))} (hd : decode K.2.1 pc = .ok (.getfield i, 3)) (hc : classes[ci]? = some (C, T, N)) (hs : sh[k]? = some (.inl (ci, fl))) (hj : fl[j]? = some (some (some r))) (hjn : j < N) (hw : Cond.fieldLinkNest K.1 i (T j).1 (T j).2.1 (T j).2.2.1 host ∈ xnw)
    (kk : sx l R X Ex fr K n0 Z (pc + 3) L (.ref (X.2 + r) :: st) sh μ cs ss) : sx l R X Ex fr K n0 Z pc L (.ref (X.2 + k) :: st) sh μ cs ss :=
  fun p e s m args below meth c H locs ls hC hH hL => va_getN hC.1 hC.2.1 hC.2.2.2.2.2.2.1 (xcl_ok ci _ hc).1 hC.2.2.2.2.2.1 hC.2.2.2.2.2.2.2.2.1 hH.1 k (xwl_get μ hs) hc j hjn (va_Nw.use rfl (hC.2.2.2.2.2.2.2.1 _ hw)) (fun _ h => h) (v := .ref (X.2 + r)) (by have := xfs_get X.2 (μ k) fl 0 j _ hj; rwa [Nat.zero_add] at this) hd (kk p e s m args below meth c H locs ls hC hH hL)
theorem xpic_put {X : xD} {ci j : Nat} {fl : List (Option (Option Nat))} {f : Nat → Int32} (o : Option (Option Nat)) (x : Int32) : (Sum.inr (ci, (xfs X.2 f fl 0).set j (xval X.2 o x)) : va_E) = xpic X (.inl (ci, fl.set j o)) (upd f j x) := by
  have h := xfs_set X.2 f o x fl 0 j
  rw [Nat.zero_add] at h
  simp only [xpic, h]
theorem sx_puti {C : String} {T : u_T} {N ci i j k : Nat} {fl : List (Option (Option Nat))} {v : Int32} {ty : FieldType} (hd : decode K.2.1 pc = .ok (.putfield i, 3)) (hc : classes[ci]? = some (C, T, N)) (hs : sh[k]? = some (.inl (ci, fl))) (hj : fl[j]? = some none) (hjn : j < N) (hw : Cond.fieldLink K.1 i (T j).1 (T j).2.1 (T j).2.2.1 ∈ xws) (hf : (T j).2.2.2 = false) (hy : parseFieldDescriptor (T j).2.2.1 = some ty) (hn : narrow ty (.int v) = .int v) (hv : fits ty (.int v) = true)
    (kk : ∀ μ' : xM, μ' = xup μ k j v → sx l R X Ex fr K n0 Z (pc + 3) L st sh μ' cs ss) : sx l R X Ex fr K n0 Z pc L (.int v :: .ref (X.2 + k) :: st) sh μ cs ss := by
  intro p e s m args below meth c H locs ls hC hH hL
  obtain ⟨hin, ty0, hty, hnm⟩ := xcl_ok ci _ hc
  have hjl : j < (xfs X.2 (μ k) fl 0).length := by rw [xfs_len]; exact (List.getElem?_eq_some_iff.mp hj).1
  have hkl := (List.getElem?_eq_some_iff.mp hs).1
  refine va_putz hC.1 hC.2.1 hC.2.2.2.2.2.2.1 hin ty0 hty hnm hC.2.2.2.2.2.1 hC.2.2.2.2.2.2.2.2.1 hH.1 (xwl_D hH.2.2.2.1) hH.2.1 k (xwl_get μ hs) hc j hjn (hC.2.2.2.2.2.2.1 _ hw) hf hy hn hv hjl hd (fun H1 locs1 hz hP hS => ?_)
  have h2 := xH_set hH hkl (xpic_put (X := X) (ci := ci) (j := j) (fl := fl) (f := μ k) none v) hz hP hS
  rw [xsame hj, xsame hs] at h2
  exact kk _ rfl p e s m args below meth c H1 locs1 ls hC h2 hL
theorem sx_putiN {C host : String} {T : u_T} {N ci i j k : Nat} {fl : List (Option (Option Nat))} {v : Int32} {ty : FieldType} (hfr : fr = false) (hd : decode K.2.1 pc = .ok (.putfield i, 3)) (hc : classes[ci]? = some (C, T, N)) (hs : sh[k]? = some (.inl (ci, fl))) (hj : fl[j]? = some none) (hjn : j < N) (hw : Cond.fieldLinkNest K.1 i (T j).1 (T j).2.1 (T j).2.2.1 host ∈ xnw) (hf : (T j).2.2.2 = false) (hy : parseFieldDescriptor (T j).2.2.1 = some ty) (hn : narrow ty (.int v) = .int v) (hv : fits ty (.int v) = true)
    (kk : ∀ μ' : xM, μ' = xup μ k j v → sx l R X Ex fr K n0 Z (pc + 3) L st sh μ' cs ss) : sx l R X Ex fr K n0 Z pc L (.int v :: .ref (X.2 + k) :: st) sh μ cs ss := by
  intro p e s m args below meth c H locs ls hC hH hL
  subst hfr
  obtain ⟨hin, ty0, hty, hnm⟩ := xcl_ok ci _ hc
  have hjl : j < (xfs X.2 (μ k) fl 0).length := by rw [xfs_len]; exact (List.getElem?_eq_some_iff.mp hj).1
  have hkl := (List.getElem?_eq_some_iff.mp hs).1
  refine va_putN hC.1 hC.2.1 hC.2.2.2.2.2.2.1 hin ty0 hty hnm hC.2.2.2.2.2.1 hC.2.2.2.2.2.2.2.2.1 hH.1 (xwl_D hH.2.2.2.1) hH.2.1 k (xwl_get μ hs) hc j hjn (va_Nw.use rfl (hC.2.2.2.2.2.2.2.1 _ hw)) (fun _ h => h) hf hy hn hv hjl hd (fun H1 locs1 hP _ hS => ?_)
  have h2 : xH X false n0 (sh.set k (.inl (ci, fl.set j none))) (va_up μ k (upd (μ k) j v)) s H1 locs1 := by
    rw [show (Sum.inr (ci, (xfs X.2 (μ k) fl 0).set j (.int v)) : va_E) = xpic X (.inl (ci, fl.set j none)) (upd (μ k) j v) from xpic_put none v, xwl_set hkl] at hP
    exact ⟨hP, hS, by rw [List.length_set]; exact hH.2.2.1, fun h => by rw [List.length_set]; exact hH.2.2.2.1 h, fun h => by cases h⟩
  rw [xsame hj, xsame hs] at h2
  exact kk _ rfl p e s m args below meth c H1 locs1 ls hC h2 hL
/-- a final field of a constructor gets a cell -/
theorem sx_putrF {C : String} {T : u_T} {N ci i j k r : Nat} {fl : List (Option (Option Nat))} {sh' : List xS} {ty : FieldType} (hd : decode K.2.1 pc = .ok (.putfield i, 3)) (hc : classes[ci]? = some (C, T, N)) (hs : sh[k]? = some (.inl (ci, fl))) (hjl : j < fl.length) (hjn : j < N) (hw : Cond.fieldLink K.1 i (T j).1 (T j).2.1 (T j).2.2.1 ∈ xws) (hf : (T j).2.2.2 = true) (hi : K.2.2.2.2 = true) (hT : (T j).1 = K.1) (hy : parseFieldDescriptor (T j).2.2.1 = some ty) (hn : narrow ty (.ref (X.2 + r)) = .ref (X.2 + r)) (hv : fits ty (.ref (X.2 + r)) = true) (hsh : sh.set k (.inl (ci, fl.set j (some (some r)))) = sh')
    (kk : sx l R X Ex fr K n0 Z (pc + 3) L st sh' (xup μ k j 0) cs ss) : sx l R X Ex fr K n0 Z pc L (.ref (X.2 + r) :: .ref (X.2 + k) :: st) sh μ cs ss := by
  subst hsh
  intro p e s m args below meth c H locs ls hC hH hL
  obtain ⟨hin, ty0, hty, hnm⟩ := xcl_ok ci _ hc
  have hkl := (List.getElem?_eq_some_iff.mp hs).1
  refine va_putFz hC.1 hC.2.1 hC.2.2.2.2.2.2.1 hin ty0 hty hnm hC.2.2.2.2.2.1 hC.2.2.2.2.2.2.2.2.1 hH.1 (xwl_D hH.2.2.2.1) hH.2.1 k (xwl_get μ hs) hc j hjn (hC.2.2.2.2.2.2.1 _ hw) hf (hC.2.2.2.2.2.2.2.2.2.2.2 hi) hT hy hn hv (by rw [xfs_len]; exact hjl) hd (fun H1 locs1 hz hP hS => ?_)
  exact kk p e s m args below meth c H1 locs1 ls hC (xH_set hH hkl (xpic_put (X := X) (ci := ci) (j := j) (fl := fl) (f := μ k) (some (some r)) 0) hz hP hS) hL
/-! arrays -/
theorem xpic_i {X : xD} {ti n : Nat} {f : Nat → Int32} (h : ti ≠ 0) : xpic X (.inr (ti, n, none)) f = .inl (X.1.2 ti, n, .inl f) := by simp [xpic, h]
theorem sx_iald {k ti n : Nat} {i : Int32} (hd : decode K.2.1 pc = .ok (.iaload, 1)) (hs : sh[k]? = some (.inr (ti, n, none))) (h0 : ti ≠ 0) (ht : xty[ti]? = some .int) (hin : vp_in i n)
    (kk : sx l R X Ex fr K n0 Z (pc + 1) L (.int (μ k i.toNatClampNeg) :: st) sh μ cs ss) : sx l R X Ex fr K n0 Z pc L (.int i :: .ref (X.2 + k) :: st) sh μ cs ss :=
  fun p e s m args below meth c H locs ls hC hH hL => va_iald hC.1 hC.2.1 hC.2.2.2.2.2.2.2.2.1 hH.1 k ti (by rw [xwl_get μ hs, xpic_i h0]) (xtys_at ht) hin hd (kk p e s m args below meth c H locs ls hC hH hL)
theorem sx_bald {k ti n : Nat} {i : Int32} (hd : decode K.2.1 pc = .ok (.baload, 1)) (hs : sh[k]? = some (.inr (ti, n, none))) (h0 : ti ≠ 0) (ht : xty[ti]? = some .byte) (hin : vp_in i n)
    (kk : sx l R X Ex fr K n0 Z (pc + 1) L (.int (μ k i.toNatClampNeg) :: st) sh μ cs ss) : sx l R X Ex fr K n0 Z pc L (.int i :: .ref (X.2 + k) :: st) sh μ cs ss :=
  fun p e s m args below meth c H locs ls hC hH hL => va_bald hC.1 hC.2.1 hC.2.2.2.2.2.2.2.2.1 hH.1 k ti (by rw [xwl_get μ hs, xpic_i h0]) (xtys_at ht) hin hd (kk p e s m args below meth c H locs ls hC hH hL)
theorem sx_zald {k ti n : Nat} {i : Int32} (hd : decode K.2.1 pc = .ok (.baload, 1)) (hs : sh[k]? = some (.inr (ti, n, none))) (h0 : ti ≠ 0) (ht : xty[ti]? = some .boolean) (hin : vp_in i n)
    (kk : sx l R X Ex fr K n0 Z (pc + 1) L (.int (μ k i.toNatClampNeg) :: st) sh μ cs ss) : sx l R X Ex fr K n0 Z pc L (.int i :: .ref (X.2 + k) :: st) sh μ cs ss :=
  fun p e s m args below meth c H locs ls hC hH hL => va_zald hC.1 hC.2.1 hC.2.2.2.2.2.2.2.2.1 hH.1 k ti (by rw [xwl_get μ hs, xpic_i h0]) (xtys_at ht) hin hd (kk p e s m args below meth c H locs ls hC hH hL)
theorem sx_alen {k ti n : Nat} {g : Option (List (Option Nat))} {ty : FieldType} {v : Int32} (hd : decode K.2.1 pc = .ok (.arraylength, 1)) (hs : sh[k]? = some (.inr (ti, n, g))) (ht : xty[ti]? = some ty) (hv : Int32.ofNat n = v)
    (kk : sx l R X Ex fr K n0 Z (pc + 1) L (.int v :: st) sh μ cs ss) : sx l R X Ex fr K n0 Z pc L (.ref (X.2 + k) :: st) sh μ cs ss := by
  intro p e s m args below meth c H locs ls hC hH hL
  cases g with
  | none => exact va_alen (v := v) hC.1 hC.2.1 hC.2.2.2.2.2.2.2.2.1 hH.1 k ti (x := (n, if ti = 0 then .inr (.inl (fun j => (μ k j).toInt64)) else .inl (μ k))) (by rw [xwl_get μ hs]; rfl) (xtys_at ht) hv hd (kk p e s m args below meth c H locs ls hC hH hL)
  | some g => exact va_alen (v := v) hC.1 hC.2.1 hC.2.2.2.2.2.2.2.2.1 hH.1 k ti (x := (n, .inr (.inr (.inr (.inr (fun i => (g.getD i none).map (X.2 + ·))))))) (by rw [xwl_get μ hs]; rfl) (xtys_at ht) hv hd (kk p e s m args below meth c H locs ls hC hH hL)
theorem sx_aald {k ti n r : Nat} {g : List (Option Nat)} {ty : FieldType} {i : Int32} (hd : decode K.2.1 pc = .ok (.aaload, 1)) (hs : sh[k]? = some (.inr (ti, n, some g))) (ht : xty[ti]? = some ty) (hR : ty.isReference = true) (hin : vp_in i n) (hg : g.getD i.toNatClampNeg none = some r)
    (kk : sx l R X Ex fr K n0 Z (pc + 1) L (.ref (X.2 + r) :: st) sh μ cs ss) : sx l R X Ex fr K n0 Z pc L (.int i :: .ref (X.2 + k) :: st) sh μ cs ss := by
  intro p e s m args below meth c H locs ls hC hH hL
  have hlt : i.toNatClampNeg < n := Nat.not_le.mp fun q => hin (Or.inr q)
  have hcell : H[X.2 + k]? = some (vp_cell (X.1.2 ti) (n, .inr (.inr (.inr (.inr (fun i => (g.getD i none).map (X.2 + ·))))))) := hH.1 k _ (xwl_get μ hs)
  rw [vp_cell_q] at hcell
  refine W.aald (v := .ref (X.2 + r)) hC.1 hC.2.1 hcell ((hC.2.2.2.2.2.2.2.2.1.2 ti _ (xtys_at ht)).1 n _) hR (fun q => by cases q) (by rw [arrV_size]; exact hin) (by rw [arrV_read _ _ hlt, hg]; rfl) rfl rfl hd (kk p e s m args below meth c H locs ls hC hH hL)
theorem sx_iast {k ti n : Nat} {i x : Int32} (hd : decode K.2.1 pc = .ok (.iastore, 1)) (hs : sh[k]? = some (.inr (ti, n, none))) (h0 : ti ≠ 0) (ht : xty[ti]? = some .int) (hin : vp_in i n)
    (kk : ∀ μ' : xM, μ' = xup μ k i.toNatClampNeg x → sx l R X Ex fr K n0 Z (pc + 1) L st sh μ' cs ss) : sx l R X Ex fr K n0 Z pc L (.int x :: .int i :: .ref (X.2 + k) :: st) sh μ cs ss := by
  intro p e s m args below meth c H locs ls hC hH hL
  have hkl := (List.getElem?_eq_some_iff.mp hs).1
  refine va_iastz hC.1 hC.2.1 hC.2.2.2.2.2.2.2.2.1 hH.1 (xwl_D hH.2.2.2.1) hH.2.1 k ti (by rw [xwl_get μ hs, xpic_i h0]) (xtys_at ht) hin hd (fun H1 locs1 hz hP hS => ?_)
  have h2 := xH_set hH hkl (xpic_i (X := X) (n := n) (f := upd (μ k) i.toNatClampNeg x) h0).symm hz hP hS
  rw [xsame hs] at h2
  exact kk _ rfl p e s m args below meth c H1 locs1 ls hC h2 hL
theorem sx_bast {k ti n : Nat} {i x : Int32} (hfr : fr = false) (hd : decode K.2.1 pc = .ok (.bastore, 1)) (hs : sh[k]? = some (.inr (ti, n, none))) (h0 : ti ≠ 0) (ht : xty[ti]? = some .byte) (hin : vp_in i n)
    (kk : ∀ μ' : xM, μ' = xup μ k i.toNatClampNeg (vp_nar .byte x) → sx l R X Ex fr K n0 Z (pc + 1) L st sh μ' cs ss) : sx l R X Ex fr K n0 Z pc L (.int x :: .int i :: .ref (X.2 + k) :: st) sh μ cs ss := by
  intro p e s m args below meth c H locs ls hC hH hL
  subst hfr
  have hkl := (List.getElem?_eq_some_iff.mp hs).1
  refine va_bast hC.1 hC.2.1 hC.2.2.2.2.2.2.2.2.1 hH.1 (xwl_D hH.2.2.2.1) hH.2.1 k ti (by rw [xwl_get μ hs, xpic_i h0]) (xtys_at ht) hin hd (fun H1 locs1 hP _ hS => ?_)
  have h2 : xH X false n0 (sh.set k (.inr (ti, n, none))) (va_up μ k (upd (μ k) i.toNatClampNeg (vp_nar .byte x))) s H1 locs1 := by
    rw [← xpic_i (X := X) (n := n) (f := upd (μ k) i.toNatClampNeg (vp_nar .byte x)) h0, xwl_set hkl] at hP
    exact ⟨hP, hS, by rw [List.length_set]; exact hH.2.2.1, fun h => by rw [List.length_set]; exact hH.2.2.2.1 h, fun h => by cases h⟩
  rw [xsame hs] at h2
  exact kk _ rfl p e s m args below meth c H1 locs1 ls hC h2 hL
theorem sx_zast {k ti n : Nat} {i x : Int32} (hfr : fr = false) (hd : decode K.2.1 pc = .ok (.bastore, 1)) (hs : sh[k]? = some (.inr (ti, n, none))) (h0 : ti ≠ 0) (ht : xty[ti]? = some .boolean) (hin : vp_in i n)
    (kk : ∀ μ' : xM, μ' = xup μ k i.toNatClampNeg (vp_nar .boolean x) → sx l R X Ex fr K n0 Z (pc + 1) L st sh μ' cs ss) : sx l R X Ex fr K n0 Z pc L (.int x :: .int i :: .ref (X.2 + k) :: st) sh μ cs ss := by
  intro p e s m args below meth c H locs ls hC hH hL
  subst hfr
  have hkl := (List.getElem?_eq_some_iff.mp hs).1
  refine va_zast hC.1 hC.2.1 hC.2.2.2.2.2.2.2.2.1 hH.1 (xwl_D hH.2.2.2.1) hH.2.1 k ti (by rw [xwl_get μ hs, xpic_i h0]) (xtys_at ht) hin hd (fun H1 locs1 hP _ hS => ?_)
  have h2 : xH X false n0 (sh.set k (.inr (ti, n, none))) (va_up μ k (upd (μ k) i.toNatClampNeg (vp_nar .boolean x))) s H1 locs1 := by
    rw [← xpic_i (X := X) (n := n) (f := upd (μ k) i.toNatClampNeg (vp_nar .boolean x)) h0, xwl_set hkl] at hP
    exact ⟨hP, hS, by rw [List.length_set]; exact hH.2.2.1, fun h => by rw [List.length_set]; exact hH.2.2.2.1 h, fun h => by cases h⟩
  rw [xsame hs] at h2
  exact kk _ rfl p e s m args below meth c H1 locs1 ls hC h2 hL
theorem sx_widen {k n : Nat} (h1 : cs ≤ k) (h2 : ss ≤ n) (kk : sx l R X Ex fr K n0 Z pc L st sh μ k n) : sx l R X Ex fr K n0 Z pc L st sh μ cs ss :=
  fun p e s m args below meth c H locs ls hC hH hL => W.widen h1 h2 (kk p e s m args below meth c H locs ls hC hH hL)
end SXH
end
section
/-! Contracts over the block, and the rows of a call. -/
def xisN : Cond → Bool
  | .fieldLinkNest .. => true
  | .methodLinkNest .. => true
  | _ => false
theorem xnw_warm {w : Cond} (h : xisN w = true) {s U : State} (hW : s.WarmedH U.vm) (hz : va_Nw w s) : va_Nw w U := by
  cases w <;> first | exact va_Nw.warmF hW hz | exact va_Nw.warmM hW hz | cases h
theorem xnw_ok : ∀ w ∈ xnw, xisN w = true := by decide +kernel
def xQ (X : xD) (fr : Bool) (n0 : Nat) (Po : Option Value → List xS → xM → Prop) : Array Value → State → Outcome → State → Prop := fun _ st oc t =>
  (∃ (r : Option Value) (sh' : List xS) (μ' : xM), oc = .returned r ∧ Po r sh' μ' ∧ va_P X.1.1 classes (xwl X sh' μ') t.heap ∧ n0 ≤ sh'.length ∧ (fr = false → sh'.length = n0) ∧ (fr = true → t.heap.size = X.2 + sh'.length)) ∧ va_F (xA X.2 n0 fr) st t
abbrev xZ (X : xD) (fr : Bool) (n0 : Nat) (Po : Option Value → List xS → xM → Prop) (mc ms : Nat) : List Frame → Array Value → State → State → Prop := fun below args s => MQ below (xQ X fr n0 Po) args s mc ms (xA X.2 n0 fr)
def xpre (X : xD) (Ex : State → Prop) (fr : Bool) (sh : List xS) (μ : xM) (U : State) : Prop := va_P X.1.1 classes (xwl X sh μ) U.heap ∧ va_K X.1.1 classes (xtys X) U ∧ (∀ w ∈ xnw, va_Nw w U) ∧ Ex U ∧ (fr = true → U.heap.size = X.2 + sh.length)
/-- what a method is given besides the block stays given -/
def xEs (X : xD) (fr : Bool) (n : Nat) (Ex : State → Prop) : Prop := ∀ s U : State, s.WarmedH U.vm → s.heap.size ≤ U.heap.size → (∀ q, q < s.heap.size → ¬ xA X.2 n fr q → U.heap[q]? = s.heap[q]?) → Ex s → Ex U
theorem xEs_true {X : xD} {fr : Bool} {n : Nat} : xEs X fr n (fun _ => True) := fun _ _ _ _ _ _ => trivial
def Ct (X : xD) (Ex : State → Prop) (fr : Bool) (y : MethodName) (K : xK) (rm : Room) (As : List Value) (sh : List xS) (μ : xM) (Po : Option Value → List xS → xM → Prop) : Prop :=
  ∀ l : Launch, Met l y (.code y K.2.1 K.2.2.1 K.2.2.2.1 :: xws) rm (va_Pc As (xpre X Ex fr sh μ)) (xQ X fr sh.length Po) rm.cells rm.slots (xA X.2 sh.length fr)
theorem xpre_blind {X : xD} {Ex : State → Prop} {fr : Bool} {As : List Value} {sh : List xS} {μ : xM} (hE : xEs X fr sh.length Ex) : FrameBlind (va_Pc As (xpre X Ex fr sh μ)) := by
  rintro a U g mk ⟨rfl, hP, hK, hN, hEx, hf⟩
  refine ⟨rfl, hP, va_K.moved (u := U) (U := U.calling g mk _) (Vm.Alike.refl U.vm) hK, fun w hw => xnw_warm (xnw_ok w hw) (U := U.calling g mk _) (State.WarmedH.refl U) (hN w hw), hE U (U.calling g mk _) (State.WarmedH.refl U) (Nat.le_refl _) (fun _ _ _ => rfl) hEx, hf⟩
theorem xlv_args (As : List Value) (h : ∀ v ∈ As, v.category = 1) (i n : Nat) : xlv (As.map some ++ List.replicate n none) i = lv_args i As := by
  induction As generalizing i with
  | nil =>
    induction n generalizing i with
    | zero => rfl
    | succ n ih => exact ih (i + 1)
  | cons v r ih =>
    have hv := h v List.mem_cons_self
    show (i, v) :: xlv (r.map some ++ List.replicate n none) (i + 1) = lv_args i (v :: r)
    rw [ih (fun w hw => h w (List.mem_cons_of_mem _ hw))]
    simp [lv_args, hv]
theorem lg_sl_len (As : List Value) (h : ∀ v ∈ As, v.category = 1) : (lg_sl As).length = As.length := by
  induction As with
  | nil => rfl
  | cons v r ih =>
    have hv := h v List.mem_cons_self
    have := ih (fun w hw => h w (List.mem_cons_of_mem _ hw))
    unfold lg_sl at this ⊢
    simp [hv, this]
theorem Ct.of {X : xD} {Ex : State → Prop} {fr : Bool} {y : MethodName} {K : xK} {rm : Room} {As : List Value} {sh : List xS} {μ : xM} {Po : Option Value → List xS → xM → Prop} {L0 : List (Option Value)} (hy : plainName y.cls = true) (hK : K.1 = y.cls) (hi : K.2.2.2.2 = true → y.name = "<init>") (hc : ∀ v ∈ As, v.category = 1) (hn : As.length ≤ K.2.2.1) (hL0 : As.map some ++ List.replicate (K.2.2.1 - As.length) none = L0)
    (h : ∀ l : Launch, sx l rm X Ex fr K sh.length (xZ X fr sh.length Po rm.cells rm.slots) 0 L0 [] sh μ 0 0) : Ct X Ex fr y K rm As sh μ Po := by
  intro l
  subst hL0
  refine Met.ofW (cc := K.2.1) (maxL := K.2.2.1) (ret := K.2.2.2.1) hy rfl ?_
  intro p e s m args below meth c s₁ B hml hv
  obtain ⟨rfl, hP, hKk, hN, hEx, hf⟩ := hv
  have hts := atoms_spec (ws := (.code y K.2.1 K.2.2.1 K.2.2.2.1 :: xws)) B.pre
  have hl := lv_entry As (n := K.2.2.1) (by rw [lg_sl_len As hc]; exact hn)
  rw [lg_entry_eq]
  refine h l p e s m As.toArray below meth c s.heap [] _ ⟨B.exec, B.bytes, hml, B.returns, B.notSynchronized, by rw [hK]; exact findClass_of_methodNamed B.named, fun w hw => hts w (List.mem_cons_of_mem _ hw), hN, hKk, hEx, hf, fun q => ?_⟩ ⟨hP, va_S.rf, Nat.le_refl _, fun _ => rfl, hf⟩ ⟨?_, fun j v hj => ?_⟩
  · exact (name_of_methodNamed B.named B.method).1.trans (hi q)
  · rw [xlv_args As hc]
    exact hl
  · have hm := List.mem_of_getElem? hj
    rcases List.mem_append.mp hm with h1 | h1
    · obtain ⟨w, hw, e⟩ := List.mem_map.mp h1
      cases e
      exact hc v hw
    · have := (List.mem_replicate.mp h1).2
      cases this
/-- what the tables say of a method that is called -/
def xcB (y : MethodName) (K : xK) (n : Nat) : Prop := Cond.code y K.2.1 K.2.2.1 K.2.2.2.1 ∈ xws ∧ Cond.initialized y.cls ∈ xws ∧ y.cls ≠ "java/lang/invoke/MethodHandle" ∧ y.cls ≠ "java/lang/invoke/VarHandle" ∧ (parseMethodDescriptor y.desc).map (fun d => d.parameters.length) = some n
def xcV (y : MethodName) (K : xK) (n : Nat) : Prop := xcB y K n ∧ Cond.instanceMethod y ∈ xws ∧ Cond.selects y.cls y y ∈ xws
def xcS (y : MethodName) (K : xK) (n : Nat) : Prop := xcB y K n ∧ Cond.static y ∈ xws
def xcI (y : MethodName) (K : xK) (n : Nat) : Prop := xcB y K n ∧ Cond.instanceMethod y ∈ xws ∧ y.name = "<init>"
theorem xgood {y : MethodName} {K : xK} {n : Nat} (h : xcB y K n) : GoodIn xws (.code y K.2.1 K.2.2.1 K.2.2.2.1 :: xws) := by
  intro w hw
  rcases List.mem_cons.mp hw with rfl | hw
  · exact ⟨h.1, good_of_word (List.mem_filter.mp h.1).2⟩
  · exact ⟨hw, good_of_word (List.mem_filter.mp hw).2⟩
section SXC
variable {l : Launch} {R : Room} {X : xD} {Ex : State → Prop} {fr : Bool} {K K' : xK} {n0 : Nat} {Z : List Frame → Array Value → State → State → Prop} {pc : Nat} {L : List (Option Value)} {st st0 : List Value} {sh : List xS} {μ : xM} {cs ss : Nat} {y : MethodName} {rm : Room} {As : List Value} {Po : Option Value → List xS → xM → Prop}
theorem xA_call {n0 n : Nat} {b : Nat} {fr : Bool} (h : fr = false → n = n0) {q : Nat} (hq : xA b n fr q) : xA b n0 fr q := by
  cases fr with
  | true => exact ⟨hq.1, Or.inl rfl⟩
  | false => rw [← h rfl]; exact hq
/-- behind a call -/
theorem xcall_on {p : Program} {e : Env} {s : State} {m : MethodId} {args : Array Value} {below : List Frame} {meth : Method} {c : Code} {H : Heap} {locs : List Loc} {ls : Array Slot} {aa : Array Value}
    (hC : xC X Ex fr K n0 p s m args meth c) (hH : xH X fr n0 sh μ s H locs) (hL : xL ls K.2.2.1 L)
    (hr : va_Run p l e R s m args below meth c H locs cs ss rm.cells rm.slots (F0 m pc ls st0) st (xQ X fr sh.length Po aa) (xA X.2 sh.length fr))
    (kk : ∀ (r : Option Value) (sh' : List xS) (μ' : xM), Po r sh' μ' → sx l R X Ex fr K n0 Z (pc + 3) L (r.toList ++ st) sh' μ' (cs + rm.cells) (ss + rm.slots)) : W p l e R s m args below meth c H locs cs ss (Z below args s) (F0 m pc ls st0) := by
  intro T hT X'
  obtain ⟨v, st₀, t, T', L', h0, X1, hL', e1, e2, ⟨⟨r, sh', μ', hv, hp, hP', hn', hf', hz'⟩, hzF, hkF⟩, stp⟩ := hr T hT X'
  cases hv
  rw [h0] at hzF hkF
  have hA : ∀ q, xA X.2 sh.length fr q → xA X.2 n0 fr q := fun q => xA_call hH.2.2.2.1
  obtain ⟨t2, a1, b1⟩ := kk _ sh' μ' hp p e s m args below meth c T'.heap (locs ++ L') ls hC ⟨by rw [e1]; exact hP', ⟨Nat.le_trans hH.2.1.1 (by rw [e1]; exact hzF), fun q h1 h2 => by
      rw [e1, hkF q (Nat.lt_of_lt_of_le h1 hH.2.1.1) (fun z => h2 (hA q z))]; exact hH.2.1.2.1 q h1 h2, fun q hq => by
      rcases List.mem_append.mp hq with h | h
      · exact hH.2.1.2.2 q h
      · exact hA _ (hL' q h)⟩, Nat.le_trans hH.2.2.1 hn', fun h => (hf' h).trans (hH.2.2.2.1 h), fun h => by rw [e1]; exact hz' h⟩ hL T' rfl X1
  exact ⟨t2, stp t2 a1, b1⟩
theorem xpre_at {p : Program} {s : State} {m : MethodId} {args : Array Value} {meth : Method} {c : Code} {H : Heap} {locs : List Loc} (hC : xC X Ex fr K n0 p s m args meth c) (hH : xH X fr n0 sh μ s H locs) (hE : xEs X fr n0 Ex) {U : State} (hU : U.heap = H) (hW : s.WarmedH U.vm) : xpre X Ex fr sh μ U := by
  refine ⟨by rw [hU]; exact hH.1, va_K.moved hW.alike hC.2.2.2.2.2.2.2.2.1, fun w hw => xnw_warm (xnw_ok w hw) hW (hC.2.2.2.2.2.2.2.1 w hw), hE s U hW (by rw [hU]; exact hH.2.1.1) (fun q h1 h2 => by rw [hU]; exact hH.2.1.2.1 q h1 h2) hC.2.2.2.2.2.2.2.2.2.1, fun h => by rw [hU]; exact hH.2.2.2.2 h⟩
theorem xEs_sub {n0 n : Nat} (hE : xEs X fr n0 Ex) (h : fr = false → n = n0) : xEs X fr n Ex := fun s U hW hz hk hx => hE s U hW hz (fun q h1 h2 => hk q h1 (fun z => h2 (xA_call h z))) hx
theorem xroom {m : MethodId} {pc : Nat} {ls : Array Slot} {st0 st : List Value} (h : (st.map fun v => v.category).sum ≤ 8) : 2 * (F0 m pc ls st0).monitorRoom + (st.map fun v => v.category).sum ≤ 8 := by
  simpa [JFrame.monitorRoom] using h
theorem sx_callV {i k ci N : Nat} {T : u_T} {fl : List (Option (Option Nat))} (hd : decode K.2.1 pc = .ok (.invokevirtual i, 3)) (hct : Ct X Ex fr y K' rm (.ref (X.2 + k) :: As) sh μ Po) (hw : xcV y K' As.length) (hl : Cond.methodLink K.1 i y ∈ xws) (hst : st0 = As.reverse ++ .ref (X.2 + k) :: st) (hs : sh[k]? = some (.inl (ci, fl))) (hc : classes[ci]? = some (y.cls, T, N)) (hm : rm.frames + 1 ≤ R.frames ∧ 8 + (K'.2.2.1 + 11) + rm.locals ≤ R.locals) (hf : cs + rm.cells ≤ R.cells ∧ ss + rm.slots ≤ R.slots) (h8 : (st.map fun v => v.category).sum ≤ 8) (hE : xEs X fr n0 Ex)
    (kk : ∀ (r : Option Value) (sh' : List xS) (μ' : xM), Po r sh' μ' → sx l R X Ex fr K n0 Z (pc + 3) L (r.toList ++ st) sh' μ' (cs + rm.cells) (ss + rm.slots)) : sx l R X Ex fr K n0 Z pc L st0 sh μ cs ss := by
  intro p e s m args below meth c H locs ls hC hH hL
  subst hst
  have hts := hC.2.2.2.2.2.2.1
  refine xcall_on hC hH hL (va_runV (As := As) (rest := st) (C := y.cls) ⟨hC.1, hC.2.1, hC.2.2.1, hC.2.2.2.2.2.1, hts⟩ (hct l) ⟨callB_of As.length hts (xgood hw.1) rfl rfl rfl (hts _ hw.1.2.1) (hts _ hl) hw.1.2.2 hm, hts _ hw.2.1, hts _ hw.2.2⟩ ⟨xpre_blind (xEs_sub hE hH.2.2.2.1), va_recv hC.2.2.2.2.2.2.2.2.1 hH.1 hc (xwl_get μ hs), fun U hU hW => ⟨rfl, xpre_at hC hH hE hU hW⟩⟩ rfl rfl hL.1.1 rfl (xroom h8) hd hf) kk
theorem sx_callS {i : Nat} (hd : decode K.2.1 pc = .ok (.invokestatic i, 3)) (hct : Ct X Ex fr y K' rm As sh μ Po) (hw : xcS y K' As.length) (hl : Cond.methodLink K.1 i y ∈ xws) (hst : st0 = As.reverse ++ st) (hm : rm.frames + 1 ≤ R.frames ∧ 8 + (K'.2.2.1 + 11) + rm.locals ≤ R.locals) (hf : cs + rm.cells ≤ R.cells ∧ ss + rm.slots ≤ R.slots) (h8 : (st.map fun v => v.category).sum ≤ 8) (hE : xEs X fr n0 Ex)
    (kk : ∀ (r : Option Value) (sh' : List xS) (μ' : xM), Po r sh' μ' → sx l R X Ex fr K n0 Z (pc + 3) L (r.toList ++ st) sh' μ' (cs + rm.cells) (ss + rm.slots)) : sx l R X Ex fr K n0 Z pc L st0 sh μ cs ss := by
  intro p e s m args below meth c H locs ls hC hH hL
  subst hst
  have hts := hC.2.2.2.2.2.2.1
  refine xcall_on hC hH hL (va_runS (As := As) (rest := st) ⟨hC.1, hC.2.1, hC.2.2.1, hC.2.2.2.2.2.1, hts⟩ (hct l) ⟨callB_of As.length hts (xgood hw.1) rfl rfl rfl (hts _ hw.1.2.1) (hts _ hl) hw.1.2.2 hm, hts _ hw.2⟩ ⟨xpre_blind (xEs_sub hE hH.2.2.2.1), fun U hU hW => ⟨rfl, xpre_at hC hH hE hU hW⟩⟩ rfl rfl hL.1.1 rfl (xroom h8) hd hf) kk
theorem sx_callSN {i : Nat} {host : String} (hd : decode K.2.1 pc = .ok (.invokestatic i, 3)) (hct : Ct X Ex fr y K' rm As sh μ Po) (hw : xcS y K' As.length) (hl : Cond.methodLinkNest K.1 i y host ∈ xnw) (hst : st0 = As.reverse ++ st) (hm : rm.frames + 1 ≤ R.frames ∧ 8 + (K'.2.2.1 + 11) + rm.locals ≤ R.locals) (hf : cs + rm.cells ≤ R.cells ∧ ss + rm.slots ≤ R.slots) (h8 : (st.map fun v => v.category).sum ≤ 8) (hE : xEs X fr n0 Ex)
    (kk : ∀ (r : Option Value) (sh' : List xS) (μ' : xM), Po r sh' μ' → sx l R X Ex fr K n0 Z (pc + 3) L (r.toList ++ st) sh' μ' (cs + rm.cells) (ss + rm.slots)) : sx l R X Ex fr K n0 Z pc L st0 sh μ cs ss := by
  intro p e s m args below meth c H locs ls hC hH hL
  subst hst
  have hts := hC.2.2.2.2.2.2.1
  refine xcall_on hC hH hL (va_runSN (As := As) (rest := st) ⟨hC.1, hC.2.1, hC.2.2.1, hC.2.2.2.2.2.1, hts⟩ (hct l) ⟨va_cnB As.length hts (xgood hw.1) rfl rfl rfl (hC.2.2.2.2.2.2.2.1 _ hl) (hts _ hw.1.2.1) hw.1.2.2 hm, hts _ hw.2, trivial⟩ ⟨xpre_blind (xEs_sub hE hH.2.2.2.1), fun U hU hW => ⟨rfl, xpre_at hC hH hE hU hW⟩⟩ rfl rfl hL.1.1 rfl (xroom h8) hd hf) kk
theorem sx_callI {i k : Nat} (hr : K'.2.2.2.1 = none) (hd : decode K.2.1 pc = .ok (.invokespecial i, 3)) (hct : Ct X Ex fr y K' rm (.ref (X.2 + k) :: As) sh μ Po) (hw : xcI y K' As.length) (hl : Cond.methodLink K.1 i y ∈ xws) (hst : st0 = As.reverse ++ .ref (X.2 + k) :: st) (hm : rm.frames + 1 ≤ R.frames ∧ 8 + (K'.2.2.1 + 11) + rm.locals ≤ R.locals) (hf : cs + rm.cells ≤ R.cells ∧ ss + rm.slots ≤ R.slots) (h8 : (st.map fun v => v.category).sum ≤ 8) (hE : xEs X fr n0 Ex)
    (kk : ∀ (r : Option Value) (sh' : List xS) (μ' : xM), Po r sh' μ' → sx l R X Ex fr K n0 Z (pc + 3) L (r.toList ++ st) sh' μ' (cs + rm.cells) (ss + rm.slots)) : sx l R X Ex fr K n0 Z pc L st0 sh μ cs ss := by
  intro p e s m args below meth c H locs ls hC hH hL
  subst hst
  obtain ⟨KA, KB, KC, KD, KE⟩ := K'
  have hr : KD = none := hr
  subst hr
  have hts := hC.2.2.2.2.2.2.1
  refine xcall_on hC hH hL (va_runI (As := As) (rest := st) ⟨hC.1, hC.2.1, hC.2.2.1, hC.2.2.2.2.2.1, hts⟩ (hct l) ⟨callB_of As.length hts (xgood hw.1) rfl rfl rfl (hts _ hw.1.2.1) (hts _ hl) hw.1.2.2 hm, hw.2.2, hts _ hw.2.1⟩ ⟨xpre_blind (xEs_sub hE hH.2.2.2.1), fun U hU hW => ⟨rfl, xpre_at hC hH hE hU hW⟩⟩ rfl rfl hL.1.1 rfl (xroom h8) hd hf) kk
theorem sx_callIN {i k : Nat} {host : String} (hr : K'.2.2.2.1 = none) (hd : decode K.2.1 pc = .ok (.invokespecial i, 3)) (hct : Ct X Ex fr y K' rm (.ref (X.2 + k) :: As) sh μ Po) (hw : xcI y K' As.length) (hl : Cond.methodLinkNest K.1 i y host ∈ xnw) (hst : st0 = As.reverse ++ .ref (X.2 + k) :: st) (hm : rm.frames + 1 ≤ R.frames ∧ 8 + (K'.2.2.1 + 11) + rm.locals ≤ R.locals) (hf : cs + rm.cells ≤ R.cells ∧ ss + rm.slots ≤ R.slots) (h8 : (st.map fun v => v.category).sum ≤ 8) (hE : xEs X fr n0 Ex)
    (kk : ∀ (r : Option Value) (sh' : List xS) (μ' : xM), Po r sh' μ' → sx l R X Ex fr K n0 Z (pc + 3) L (r.toList ++ st) sh' μ' (cs + rm.cells) (ss + rm.slots)) : sx l R X Ex fr K n0 Z pc L st0 sh μ cs ss := by
  intro p e s m args below meth c H locs ls hC hH hL
  subst hst
  obtain ⟨KA, KB, KC, KD, KE⟩ := K'
  have hr : KD = none := hr
  subst hr
  have hts := hC.2.2.2.2.2.2.1
  refine xcall_on hC hH hL (va_runIN (As := As) (rest := st) ⟨hC.1, hC.2.1, hC.2.2.1, hC.2.2.2.2.2.1, hts⟩ (hct l) ⟨va_cnB As.length hts (xgood hw.1) rfl rfl rfl (hC.2.2.2.2.2.2.2.1 _ hl) (hts _ hw.1.2.1) hw.1.2.2 hm, hw.2.2, hts _ hw.2.1⟩ ⟨xpre_blind (xEs_sub hE hH.2.2.2.1), fun U hU hW => ⟨rfl, xpre_at hC hH hE hU hW⟩⟩ rfl rfl hL.1.1 rfl (xroom h8) hd hf) kk
theorem sx_iret {ty : FieldType} {v : Int32} {mc ms : Nat} (hd : decode K.2.1 pc = .ok (.ireturn, 1)) (hr : K.2.2.2.1 = some ty) (hn : narrow ty (.int v) = .int v) (h1 : cs ≤ mc) (h2 : ss ≤ ms) (hp : Po (some (.int v)) sh μ) : sx l R X Ex fr K n0 (xZ X fr n0 Po mc ms) pc L [.int v] sh μ cs ss := by
  intro p e s m args below meth c H locs ls hC hH hL
  have hlocks := hC.2.2.2.2.1
  refine W.widen h1 h2 (W.zret (ty := ty) hC.1 hC.2.1 (hC.2.2.2.1.trans hr) hn (fun t ht hW => ⟨⟨_, sh, μ, rfl, hp, by rw [ht]; exact hH.1, hH.2.2.1, hH.2.2.2.1, fun h => by rw [ht]; exact hH.2.2.2.2 h⟩, hH.2.1.F ht⟩) hH.2.1.2.2 hd)
theorem sx_vret {mc ms : Nat} (hd : decode K.2.1 pc = .ok (.return_, 1)) (hr : K.2.2.2.1 = none) (h1 : cs ≤ mc) (h2 : ss ≤ ms) (hp : Po none sh μ) : sx l R X Ex fr K n0 (xZ X fr n0 Po mc ms) pc L [] sh μ cs ss := by
  intro p e s m args below meth c H locs ls hC hH hL
  have hlocks := hC.2.2.2.2.1
  refine W.widen h1 h2 (W.vret hC.1 hC.2.1 (hC.2.2.2.1.trans hr) (fun t ht hW => ⟨⟨_, sh, μ, rfl, hp, by rw [ht]; exact hH.1, hH.2.2.1, hH.2.2.2.1, fun h => by rw [ht]; exact hH.2.2.2.2 h⟩, hH.2.1.F ht⟩) hH.2.1.2.2 hd)
end SXC
end
section
theorem xw {w : Cond} (i : Nat) (h : (decide (lw_tbl[i]? = some w) && goodWord w) = true) : w ∈ xws := by
  simp only [Bool.and_eq_true, decide_eq_true_eq] at h
  exact List.mem_filter.mpr ⟨List.mem_of_getElem? h.1, h.2⟩
theorem xwc {w : Cond} (i : Nat) (h : lw_tbl[i]? = some w) (hg : goodWord w = true) : w ∈ xws := List.mem_filter.mpr ⟨List.mem_of_getElem? h, hg⟩
abbrev kX0_init : xK := (RX0, cX0_init, 2, none, true)
set_option maxRecDepth 20000 in
theorem mX0_init : xcI yX0_init kX0_init 0 := ⟨⟨xwc 139 rfl rfl, xw 39 (by decide +kernel), by decide +kernel, by decide +kernel, by decide +kernel⟩, xw 138 (by decide +kernel), rfl⟩
abbrev kX0_decide : xK := (RX0, cX0_decide, 2, (some .boolean), false)
set_option maxRecDepth 20000 in
theorem mX0_decide : xcV yX0_decide kX0_decide 1 := ⟨⟨xwc 379 rfl rfl, xw 39 (by decide +kernel), by decide +kernel, by decide +kernel, by decide +kernel⟩, xw 377 (by decide +kernel), xw 378 (by decide +kernel)⟩
abbrev kX0_figureFor : xK := (RX0, cX0_figureFor, 2, (some .int), false)
set_option maxRecDepth 20000 in
theorem mX0_figureFor : xcV yX0_figureFor kX0_figureFor 1 := ⟨⟨xwc 421 rfl rfl, xw 39 (by decide +kernel), by decide +kernel, by decide +kernel, by decide +kernel⟩, xw 419 (by decide +kernel), xw 420 (by decide +kernel)⟩
abbrev kX0_lend : xK := (RX0, cX0_lend, 4, (some .boolean), false)
set_option maxRecDepth 20000 in
theorem mX0_lend : xcV yX0_lend kX0_lend 2 := ⟨⟨xwc 383 rfl rfl, xw 39 (by decide +kernel), by decide +kernel, by decide +kernel, by decide +kernel⟩, xw 382 (by decide +kernel), xw 10 (by decide +kernel)⟩
abbrev kX0_bringBack : xK := (RX0, cX0_bringBack, 2, (some .boolean), false)
set_option maxRecDepth 20000 in
theorem mX0_bringBack : xcV yX0_bringBack kX0_bringBack 1 := ⟨⟨xwc 391 rfl rfl, xw 39 (by decide +kernel), by decide +kernel, by decide +kernel, by decide +kernel⟩, xw 390 (by decide +kernel), xw 12 (by decide +kernel)⟩
abbrev kX0_pay : xK := (RX0, cX0_pay, 3, (some .boolean), false)
set_option maxRecDepth 20000 in
theorem mX0_pay : xcV yX0_pay kX0_pay 2 := ⟨⟨xwc 395 rfl rfl, xw 39 (by decide +kernel), by decide +kernel, by decide +kernel, by decide +kernel⟩, xw 394 (by decide +kernel), xw 13 (by decide +kernel)⟩
abbrev kX0_queueUp : xK := (RX0, cX0_queueUp, 5, (some .boolean), false)
set_option maxRecDepth 20000 in
theorem mX0_queueUp : xcV yX0_queueUp kX0_queueUp 2 := ⟨⟨xwc 399 rfl rfl, xw 39 (by decide +kernel), by decide +kernel, by decide +kernel, by decide +kernel⟩, xw 398 (by decide +kernel), xw 14 (by decide +kernel)⟩
abbrev kX0_renew : xK := (RX0, cX0_renew, 4, (some .boolean), false)
set_option maxRecDepth 20000 in
theorem mX0_renew : xcV yX0_renew kX0_renew 2 := ⟨⟨xwc 408 rfl rfl, xw 39 (by decide +kernel), by decide +kernel, by decide +kernel, by decide +kernel⟩, xw 407 (by decide +kernel), xw 16 (by decide +kernel)⟩
abbrev kX0_itemsOf : xK := (RX0, cX0_itemsOf, 4, (some .int), false)
set_option maxRecDepth 20000 in
theorem mX0_itemsOf : xcV yX0_itemsOf kX0_itemsOf 1 := ⟨⟨xwc 425 rfl rfl, xw 39 (by decide +kernel), by decide +kernel, by decide +kernel, by decide +kernel⟩, xw 424 (by decide +kernel), xw 17 (by decide +kernel)⟩
abbrev kX0_isInQueue : xK := (RX0, cX0_isInQueue, 4, (some .boolean), false)
set_option maxRecDepth 20000 in
theorem mX0_isInQueue : xcV yX0_isInQueue kX0_isInQueue 2 := ⟨⟨xwc 403 rfl rfl, xw 39 (by decide +kernel), by decide +kernel, by decide +kernel, by decide +kernel⟩, xw 402 (by decide +kernel), xw 15 (by decide +kernel)⟩
abbrev kX0_dropFirst : xK := (RX0, cX0_dropFirst, 3, none, false)
set_option maxRecDepth 20000 in
theorem mX0_dropFirst : xcV yX0_dropFirst kX0_dropFirst 1 := ⟨⟨xwc 387 rfl rfl, xw 39 (by decide +kernel), by decide +kernel, by decide +kernel, by decide +kernel⟩, xw 386 (by decide +kernel), xw 11 (by decide +kernel)⟩
abbrev kX1_init : xK := (RX1, cX1_init, 1, none, true)
set_option maxRecDepth 20000 in
theorem mX1_init : xcI yX1_init kX1_init 0 := ⟨⟨xwc 167 rfl rfl, xw 40 (by decide +kernel), by decide +kernel, by decide +kernel, by decide +kernel⟩, xw 166 (by decide +kernel), rfl⟩
abbrev kX1_add : xK := (RX1, cX1_add, 4, none, false)
set_option maxRecDepth 20000 in
theorem mX1_add : xcV yX1_add kX1_add 2 := ⟨⟨xwc 416 rfl rfl, xw 40 (by decide +kernel), by decide +kernel, by decide +kernel, by decide +kernel⟩, xw 414 (by decide +kernel), xw 415 (by decide +kernel)⟩
abbrev kX1_tell : xK := (RX1, cX1_tell, 3, (some .int), false)
set_option maxRecDepth 20000 in
theorem mX1_tell : xcV yX1_tell kX1_tell 2 := ⟨⟨xwc 483 rfl rfl, xw 40 (by decide +kernel), by decide +kernel, by decide +kernel, by decide +kernel⟩, xw 481 (by decide +kernel), xw 482 (by decide +kernel)⟩
abbrev kX2_init : xK := (RX2, cX2_init, 1, none, true)
set_option maxRecDepth 20000 in
theorem mX2_init : xcI yX2_init kX2_init 0 := ⟨⟨xwc 67 rfl rfl, xw 37 (by decide +kernel), by decide +kernel, by decide +kernel, by decide +kernel⟩, xw 66 (by decide +kernel), rfl⟩
abbrev kX2_take : xK := (RX2, cX2_take, 2, (some .int), false)
set_option maxRecDepth 20000 in
theorem mX2_take : xcV yX2_take kX2_take 1 := ⟨⟨xwc 239 rfl rfl, xw 37 (by decide +kernel), by decide +kernel, by decide +kernel, by decide +kernel⟩, xw 237 (by decide +kernel), xw 238 (by decide +kernel)⟩
abbrev kX2_clear : xK := (RX2, cX2_clear, 1, none, false)
set_option maxRecDepth 20000 in
theorem mX2_clear : xcV yX2_clear kX2_clear 0 := ⟨⟨xwc 450 rfl rfl, xw 37 (by decide +kernel), by decide +kernel, by decide +kernel, by decide +kernel⟩, xw 448 (by decide +kernel), xw 449 (by decide +kernel)⟩
abbrev kX2_addRow : xK := (RX2, cX2_addRow, 4, (some .int), false)
set_option maxRecDepth 20000 in
theorem mX2_addRow : xcV yX2_addRow kX2_addRow 3 := ⟨⟨xwc 458 rfl rfl, xw 37 (by decide +kernel), by decide +kernel, by decide +kernel, by decide +kernel⟩, xw 456 (by decide +kernel), xw 457 (by decide +kernel)⟩
abbrev kX3_init : xK := (RX3, cX3_init, 1, none, true)
set_option maxRecDepth 20000 in
theorem mX3_init : xcI yX3_init kX3_init 0 := ⟨⟨xwc 181 rfl rfl, xw 41 (by decide +kernel), by decide +kernel, by decide +kernel, by decide +kernel⟩, xw 180 (by decide +kernel), rfl⟩
abbrev kX3_fillFromRow : xK := (RX3, cX3_fillFromRow, 4, none, false)
set_option maxRecDepth 20000 in
theorem mX3_fillFromRow : xcV yX3_fillFromRow kX3_fillFromRow 3 := ⟨⟨xwc 466 rfl rfl, xw 41 (by decide +kernel), by decide +kernel, by decide +kernel, by decide +kernel⟩, xw 464 (by decide +kernel), xw 465 (by decide +kernel)⟩
abbrev kX3_read : xK := (RX3, cX3_read, 6, (some .boolean), false)
set_option maxRecDepth 20000 in
theorem mX3_read : xcV yX3_read kX3_read 2 := ⟨⟨xwc 248 rfl rfl, xw 41 (by decide +kernel), by decide +kernel, by decide +kernel, by decide +kernel⟩, xw 246 (by decide +kernel), xw 247 (by decide +kernel)⟩
abbrev kX3_firstBadField : xK := (RX3, cX3_firstBadField, 3, (some .int), false)
set_option maxRecDepth 20000 in
theorem mX3_firstBadField : xcV yX3_firstBadField kX3_firstBadField 0 := ⟨⟨xwc 361 rfl rfl, xw 41 (by decide +kernel), by decide +kernel, by decide +kernel, by decide +kernel⟩, xw 359 (by decide +kernel), xw 360 (by decide +kernel)⟩
abbrev kX3_changesTheHouse : xK := (RX3, cX3_changesTheHouse, 1, (some .boolean), false)
set_option maxRecDepth 20000 in
theorem mX3_changesTheHouse : xcV yX3_changesTheHouse kX3_changesTheHouse 0 := ⟨⟨xwc 412 rfl rfl, xw 41 (by decide +kernel), by decide +kernel, by decide +kernel, by decide +kernel⟩, xw 410 (by decide +kernel), xw 411 (by decide +kernel)⟩
abbrev kX3_forget : xK := (RX3, cX3_forget, 1, none, false)
set_option maxRecDepth 20000 in
theorem mX3_forget : xcV yX3_forget kX3_forget 0 := ⟨⟨xwc 252 rfl rfl, xw 41 (by decide +kernel), by decide +kernel, by decide +kernel, by decide +kernel⟩, xw 251 (by decide +kernel), xw 1 (by decide +kernel)⟩
abbrev kX3_fieldsOf : xK := (RX3, cX3_fieldsOf, 1, (some (.object "java/lang/String")), false)
set_option maxRecDepth 20000 in
theorem mX3_fieldsOf : xcS yX3_fieldsOf kX3_fieldsOf 1 := ⟨⟨xwc 255 rfl rfl, xw 41 (by decide +kernel), by decide +kernel, by decide +kernel, by decide +kernel⟩, xw 254 (by decide +kernel)⟩
abbrev kX3_readField : xK := (RX3, cX3_readField, 9, (some .int), false)
set_option maxRecDepth 20000 in
theorem mX3_readField : xcV yX3_readField kX3_readField 4 := ⟨⟨xwc 315 rfl rfl, xw 41 (by decide +kernel), by decide +kernel, by decide +kernel, by decide +kernel⟩, xw 314 (by decide +kernel), xw 2 (by decide +kernel)⟩
abbrev kX3_keepField : xK := (RX3, cX3_keepField, 3, none, false)
set_option maxRecDepth 20000 in
theorem mX3_keepField : xcV yX3_keepField kX3_keepField 2 := ⟨⟨xwc 322 rfl rfl, xw 41 (by decide +kernel), by decide +kernel, by decide +kernel, by decide +kernel⟩, xw 321 (by decide +kernel), xw 3 (by decide +kernel)⟩
abbrev kX3_isGoodField : xK := (RX3, cX3_isGoodField, 2, (some .boolean), false)
set_option maxRecDepth 20000 in
theorem mX3_isGoodField : xcV yX3_isGoodField kX3_isGoodField 1 := ⟨⟨xwc 365 rfl rfl, xw 41 (by decide +kernel), by decide +kernel, by decide +kernel, by decide +kernel⟩, xw 364 (by decide +kernel), xw 8 (by decide +kernel)⟩
abbrev kX3_endsWithSum : xK := (RX3, cX3_endsWithSum, 4, (some .boolean), false)
set_option maxRecDepth 20000 in
theorem mX3_endsWithSum : xcS yX3_endsWithSum kX3_endsWithSum 3 := ⟨⟨xwc 325 rfl rfl, xw 41 (by decide +kernel), by decide +kernel, by decide +kernel, by decide +kernel⟩, xw 324 (by decide +kernel)⟩
abbrev kX4_init : xK := (RX4, cX4_init, 1, none, true)
set_option maxRecDepth 20000 in
theorem mX4_init : xcI yX4_init kX4_init 0 := ⟨⟨xwc 73 rfl rfl, xw 38 (by decide +kernel), by decide +kernel, by decide +kernel, by decide +kernel⟩, xw 72 (by decide +kernel), rfl⟩
abbrev kX4_writeWrong : xK := (RX4, cX4_writeWrong, 1, none, false)
set_option maxRecDepth 20000 in
theorem mX4_writeWrong : xcV yX4_writeWrong kX4_writeWrong 0 := ⟨⟨xwc 335 rfl rfl, xw 38 (by decide +kernel), by decide +kernel, by decide +kernel, by decide +kernel⟩, xw 333 (by decide +kernel), xw 334 (by decide +kernel)⟩
abbrev kX4_writeNo : xK := (RX4, cX4_writeNo, 2, none, false)
set_option maxRecDepth 20000 in
theorem mX4_writeNo : xcV yX4_writeNo kX4_writeNo 1 := ⟨⟨xwc 349 rfl rfl, xw 38 (by decide +kernel), by decide +kernel, by decide +kernel, by decide +kernel⟩, xw 347 (by decide +kernel), xw 348 (by decide +kernel)⟩
abbrev kX4_writeError : xK := (RX4, cX4_writeError, 3, none, false)
set_option maxRecDepth 20000 in
theorem mX4_writeError : xcV yX4_writeError kX4_writeError 2 := ⟨⟨xwc 371 rfl rfl, xw 38 (by decide +kernel), by decide +kernel, by decide +kernel, by decide +kernel⟩, xw 369 (by decide +kernel), xw 370 (by decide +kernel)⟩
abbrev kX4_writeVerdict : xK := (RX4, cX4_writeVerdict, 4, none, false)
set_option maxRecDepth 20000 in
theorem mX4_writeVerdict : xcV yX4_writeVerdict kX4_writeVerdict 3 := ⟨⟨xwc 429 rfl rfl, xw 38 (by decide +kernel), by decide +kernel, by decide +kernel, by decide +kernel⟩, xw 427 (by decide +kernel), xw 428 (by decide +kernel)⟩
abbrev kX4_copy : xK := (RX4, cX4_copy, 2, none, false)
set_option maxRecDepth 20000 in
theorem mX4_copy : xcV yX4_copy kX4_copy 1 := ⟨⟨xwc 438 rfl rfl, xw 38 (by decide +kernel), by decide +kernel, by decide +kernel, by decide +kernel⟩, xw 436 (by decide +kernel), xw 437 (by decide +kernel)⟩
abbrev kX4_addSource : xK := (RX4, cX4_addSource, 2, none, false)
set_option maxRecDepth 20000 in
theorem mX4_addSource : xcV yX4_addSource kX4_addSource 1 := ⟨⟨xwc 353 rfl rfl, xw 38 (by decide +kernel), by decide +kernel, by decide +kernel, by decide +kernel⟩, xw 352 (by decide +kernel), xw 6 (by decide +kernel)⟩
abbrev kX4_addSumAndEnd : xK := (RX4, cX4_addSumAndEnd, 2, none, false)
set_option maxRecDepth 20000 in
theorem mX4_addSumAndEnd : xcV yX4_addSumAndEnd kX4_addSumAndEnd 0 := ⟨⟨xwc 343 rfl rfl, xw 38 (by decide +kernel), by decide +kernel, by decide +kernel, by decide +kernel⟩, xw 342 (by decide +kernel), xw 5 (by decide +kernel)⟩
abbrev kX4_addDigits : xK := (RX4, cX4_addDigits, 3, none, false)
set_option maxRecDepth 20000 in
theorem mX4_addDigits : xcV yX4_addDigits kX4_addDigits 1 := ⟨⟨xwc 433 rfl rfl, xw 38 (by decide +kernel), by decide +kernel, by decide +kernel, by decide +kernel⟩, xw 432 (by decide +kernel), xw 18 (by decide +kernel)⟩
abbrev kX4_add : xK := (RX4, cX4_add, 2, none, false)
set_option maxRecDepth 20000 in
theorem mX4_add : xcV yX4_add kX4_add 1 := ⟨⟨xwc 339 rfl rfl, xw 38 (by decide +kernel), by decide +kernel, by decide +kernel, by decide +kernel⟩, xw 338 (by decide +kernel), xw 4 (by decide +kernel)⟩
abbrev kX5_init : xK := (RX5, cX5_init, 2, none, true)
set_option maxRecDepth 20000 in
theorem mX5_init : xcI yX5_init kX5_init 0 := ⟨⟨xwc 58 rfl rfl, xw 36 (by decide +kernel), by decide +kernel, by decide +kernel, by decide +kernel⟩, xw 57 (by decide +kernel), rfl⟩
abbrev kX5_octet : xK := (RX5, cX5_octet, 5, (some .int), false)
set_option maxRecDepth 20000 in
theorem mX5_octet : xcV yX5_octet kX5_octet 2 := ⟨⟨xwc 232 rfl rfl, xw 36 (by decide +kernel), by decide +kernel, by decide +kernel, by decide +kernel⟩, xw 230 (by decide +kernel), xw 231 (by decide +kernel)⟩
abbrev kX5_answer : xK := (RX5, cX5_answer, 3, (some .int), false)
set_option maxRecDepth 20000 in
theorem mX5_answer : xcV yX5_answer kX5_answer 2 := ⟨⟨xwc 504 rfl rfl, xw 36 (by decide +kernel), by decide +kernel, by decide +kernel, by decide +kernel⟩, xw 502 (by decide +kernel), xw 503 (by decide +kernel)⟩
abbrev kX5_reset : xK := (RX5, cX5_reset, 3, (some .int), false)
set_option maxRecDepth 20000 in
theorem mX5_reset : xcV yX5_reset kX5_reset 1 := ⟨⟨xwc 446 rfl rfl, xw 36 (by decide +kernel), by decide +kernel, by decide +kernel, by decide +kernel⟩, xw 444 (by decide +kernel), xw 445 (by decide +kernel)⟩
abbrev kX5_offline : xK := (RX5, cX5_offline, 6, (some .int), false)
set_option maxRecDepth 20000 in
theorem mX5_offline : xcV yX5_offline kX5_offline 4 := ⟨⟨xwc 454 rfl rfl, xw 36 (by decide +kernel), by decide +kernel, by decide +kernel, by decide +kernel⟩, xw 452 (by decide +kernel), xw 453 (by decide +kernel)⟩
abbrev kX5_join : xK := (RX5, cX5_join, 5, (some .int), false)
set_option maxRecDepth 20000 in
theorem mX5_join : xcV yX5_join kX5_join 1 := ⟨⟨xwc 462 rfl rfl, xw 36 (by decide +kernel), by decide +kernel, by decide +kernel, by decide +kernel⟩, xw 460 (by decide +kernel), xw 461 (by decide +kernel)⟩
abbrev kX5_owes : xK := (RX5, cX5_owes, 4, (some .int), false)
set_option maxRecDepth 20000 in
theorem mX5_owes : xcV yX5_owes kX5_owes 2 := ⟨⟨xwc 470 rfl rfl, xw 36 (by decide +kernel), by decide +kernel, by decide +kernel, by decide +kernel⟩, xw 468 (by decide +kernel), xw 469 (by decide +kernel)⟩
abbrev kX5_acts : xK := (RX5, cX5_acts, 1, (some .int), false)
set_option maxRecDepth 20000 in
theorem mX5_acts : xcV yX5_acts kX5_acts 0 := ⟨⟨xwc 475 rfl rfl, xw 36 (by decide +kernel), by decide +kernel, by decide +kernel, by decide +kernel⟩, xw 473 (by decide +kernel), xw 474 (by decide +kernel)⟩
abbrev kX5_act : xK := (RX5, cX5_act, 3, (some .int), false)
set_option maxRecDepth 20000 in
theorem mX5_act : xcV yX5_act kX5_act 2 := ⟨⟨xwc 479 rfl rfl, xw 36 (by decide +kernel), by decide +kernel, by decide +kernel, by decide +kernel⟩, xw 477 (by decide +kernel), xw 478 (by decide +kernel)⟩
abbrev kX5_sum : xK := (RX5, cX5_sum, 3, (some .int), false)
set_option maxRecDepth 20000 in
theorem mX5_sum : xcV yX5_sum kX5_sum 1 := ⟨⟨xwc 488 rfl rfl, xw 36 (by decide +kernel), by decide +kernel, by decide +kernel, by decide +kernel⟩, xw 486 (by decide +kernel), xw 487 (by decide +kernel)⟩
abbrev kX5_state : xK := (RX5, cX5_state, 4, (some .int), false)
set_option maxRecDepth 20000 in
theorem mX5_state : xcV yX5_state kX5_state 2 := ⟨⟨xwc 492 rfl rfl, xw 36 (by decide +kernel), by decide +kernel, by decide +kernel, by decide +kernel⟩, xw 490 (by decide +kernel), xw 491 (by decide +kernel)⟩
abbrev kX5_waits : xK := (RX5, cX5_waits, 3, (some .int), false)
set_option maxRecDepth 20000 in
theorem mX5_waits : xcV yX5_waits kX5_waits 2 := ⟨⟨xwc 496 rfl rfl, xw 36 (by decide +kernel), by decide +kernel, by decide +kernel, by decide +kernel⟩, xw 494 (by decide +kernel), xw 495 (by decide +kernel)⟩
abbrev kX5_endMessage : xK := (RX5, cX5_endMessage, 4, none, false)
set_option maxRecDepth 20000 in
theorem mX5_endMessage : xcV yX5_endMessage kX5_endMessage 2 := ⟨⟨xwc 244 rfl rfl, xw 36 (by decide +kernel), by decide +kernel, by decide +kernel, by decide +kernel⟩, xw 243 (by decide +kernel), xw 0 (by decide +kernel)⟩
abbrev kX5_doMessage : xK := (RX5, cX5_doMessage, 5, none, false)
set_option maxRecDepth 20000 in
theorem mX5_doMessage : xcV yX5_doMessage kX5_doMessage 2 := ⟨⟨xwc 357 rfl rfl, xw 36 (by decide +kernel), by decide +kernel, by decide +kernel, by decide +kernel⟩, xw 356 (by decide +kernel), xw 7 (by decide +kernel)⟩
abbrev kX5_carryOut : xK := (RX5, cX5_carryOut, 3, (some .boolean), false)
set_option maxRecDepth 20000 in
theorem mX5_carryOut : xcV yX5_carryOut kX5_carryOut 1 := ⟨⟨xwc 375 rfl rfl, xw 36 (by decide +kernel), by decide +kernel, by decide +kernel, by decide +kernel⟩, xw 374 (by decide +kernel), xw 9 (by decide +kernel)⟩
abbrev kX5_isBelow : xK := (RX5, cX5_isBelow, 2, (some .boolean), false)
set_option maxRecDepth 20000 in
theorem mX5_isBelow : xcS yX5_isBelow kX5_isBelow 2 := ⟨⟨xwc 235 rfl rfl, xw 36 (by decide +kernel), by decide +kernel, by decide +kernel, by decide +kernel⟩, xw 234 (by decide +kernel)⟩
abbrev kX5_isDigit : xK := (RX5, cX5_isDigit, 1, (some .boolean), false)
set_option maxRecDepth 20000 in
theorem mX5_isDigit : xcS yX5_isDigit kX5_isDigit 1 := ⟨⟨xwc 263 rfl rfl, xw 36 (by decide +kernel), by decide +kernel, by decide +kernel, by decide +kernel⟩, xw 262 (by decide +kernel)⟩
abbrev kX5_hexDigit : xK := (RX5, cX5_hexDigit, 2, (some .int), false)
set_option maxRecDepth 20000 in
theorem mX5_hexDigit : xcS yX5_hexDigit kX5_hexDigit 1 := ⟨⟨xwc 331 rfl rfl, xw 36 (by decide +kernel), by decide +kernel, by decide +kernel, by decide +kernel⟩, xw 330 (by decide +kernel)⟩
abbrev kX5_sumOf : xK := (RX5, cX5_sumOf, 4, (some .int), false)
set_option maxRecDepth 20000 in
theorem mX5_sumOf : xcS yX5_sumOf kX5_sumOf 2 := ⟨⟨xwc 328 rfl rfl, xw 36 (by decide +kernel), by decide +kernel, by decide +kernel, by decide +kernel⟩, xw 327 (by decide +kernel)⟩
abbrev kX6_init : xK := (RX6, cX6_init, 2, none, true)
set_option maxRecDepth 20000 in
theorem mX6_init : xcI yX6_init kX6_init 0 := ⟨⟨xwc 579 rfl rfl, xw 42 (by decide +kernel), by decide +kernel, by decide +kernel, by decide +kernel⟩, xw 578 (by decide +kernel), rfl⟩
abbrev kX6_thrown : xK := (RX6, cX6_thrown, 1, (some .int), false)
set_option maxRecDepth 20000 in
theorem mX6_thrown : xcV yX6_thrown kX6_thrown 0 := ⟨⟨xwc 676 rfl rfl, xw 42 (by decide +kernel), by decide +kernel, by decide +kernel, by decide +kernel⟩, xw 674 (by decide +kernel), xw 675 (by decide +kernel)⟩
abbrev kX6_in : xK := (RX6, cX6_in, 3, (some .boolean), false)
set_option maxRecDepth 20000 in
theorem mX6_in : xcS yX6_in kX6_in 3 := ⟨⟨xwc 686 rfl rfl, xw 42 (by decide +kernel), by decide +kernel, by decide +kernel, by decide +kernel⟩, xw 685 (by decide +kernel)⟩
abbrev kX6_isDevice : xK := (RX6, cX6_isDevice, 1, (some .boolean), false)
set_option maxRecDepth 20000 in
theorem mX6_isDevice : xcS yX6_isDevice kX6_isDevice 1 := ⟨⟨xwc 683 rfl rfl, xw 42 (by decide +kernel), by decide +kernel, by decide +kernel, by decide +kernel⟩, xw 682 (by decide +kernel)⟩
abbrev kX6_look : xK := (RX6, cX6_look, 2, (some .int), false)
set_option maxRecDepth 20000 in
theorem mX6_look : xcV yX6_look kX6_look 1 := ⟨⟨xwc 698 rfl rfl, xw 42 (by decide +kernel), by decide +kernel, by decide +kernel, by decide +kernel⟩, xw 697 (by decide +kernel), xw 22 (by decide +kernel)⟩
abbrev kX6_isKind : xK := (RX6, cX6_isKind, 1, (some .boolean), false)
set_option maxRecDepth 20000 in
theorem mX6_isKind : xcS yX6_isKind kX6_isKind 1 := ⟨⟨xwc 701 rfl rfl, xw 42 (by decide +kernel), by decide +kernel, by decide +kernel, by decide +kernel⟩, xw 700 (by decide +kernel)⟩
abbrev kX6_hasPerson : xK := (RX6, cX6_hasPerson, 1, (some .boolean), false)
set_option maxRecDepth 20000 in
theorem mX6_hasPerson : xcS yX6_hasPerson kX6_hasPerson 1 := ⟨⟨xwc 704 rfl rfl, xw 42 (by decide +kernel), by decide +kernel, by decide +kernel, by decide +kernel⟩, xw 703 (by decide +kernel)⟩
abbrev kX6_hasItem : xK := (RX6, cX6_hasItem, 1, (some .boolean), false)
set_option maxRecDepth 20000 in
theorem mX6_hasItem : xcS yX6_hasItem kX6_hasItem 1 := ⟨⟨xwc 711 rfl rfl, xw 42 (by decide +kernel), by decide +kernel, by decide +kernel, by decide +kernel⟩, xw 710 (by decide +kernel)⟩
abbrev kX6_field : xK := (RX6, cX6_field, 5, (some .int), false)
set_option maxRecDepth 20000 in
theorem mX6_field : xcV yX6_field kX6_field 2 := ⟨⟨xwc 708 rfl rfl, xw 42 (by decide +kernel), by decide +kernel, by decide +kernel, by decide +kernel⟩, xw 707 (by decide +kernel), xw 23 (by decide +kernel)⟩
abbrev kX6_hex : xK := (RX6, cX6_hex, 1, (some .int), false)
set_option maxRecDepth 20000 in
theorem mX6_hex : xcS yX6_hex kX6_hex 1 := ⟨⟨xwc 714 rfl rfl, xw 42 (by decide +kernel), by decide +kernel, by decide +kernel, by decide +kernel⟩, xw 713 (by decide +kernel)⟩
abbrev kX6_digit : xK := (RX6, cX6_digit, 1, (some .int), false)
set_option maxRecDepth 20000 in
theorem mX6_digit : xcS yX6_digit kX6_digit 1 := ⟨⟨xwc 725 rfl rfl, xw 42 (by decide +kernel), by decide +kernel, by decide +kernel, by decide +kernel⟩, xw 724 (by decide +kernel)⟩
abbrev kX6_reads : xK := (RX6, cX6_reads, 5, (some .boolean), false)
set_option maxRecDepth 20000 in
theorem mX6_reads : xcV yX6_reads kX6_reads 1 := ⟨⟨xwc 694 rfl rfl, xw 42 (by decide +kernel), by decide +kernel, by decide +kernel, by decide +kernel⟩, xw 693 (by decide +kernel), xw 21 (by decide +kernel)⟩
abbrev kX6_put : xK := (RX6, cX6_put, 3, none, false)
set_option maxRecDepth 20000 in
theorem mX6_put : xcV yX6_put kX6_put 2 := ⟨⟨xwc 718 rfl rfl, xw 42 (by decide +kernel), by decide +kernel, by decide +kernel, by decide +kernel⟩, xw 717 (by decide +kernel), xw 24 (by decide +kernel)⟩
abbrev kX6_close : xK := (RX6, cX6_close, 4, none, false)
set_option maxRecDepth 20000 in
theorem mX6_close : xcV yX6_close kX6_close 1 := ⟨⟨xwc 722 rfl rfl, xw 42 (by decide +kernel), by decide +kernel, by decide +kernel, by decide +kernel⟩, xw 721 (by decide +kernel), xw 25 (by decide +kernel)⟩
abbrev kX6_finish : xK := (RX6, cX6_finish, 4, none, false)
set_option maxRecDepth 20000 in
theorem mX6_finish : xcV yX6_finish kX6_finish 2 := ⟨⟨xwc 729 rfl rfl, xw 42 (by decide +kernel), by decide +kernel, by decide +kernel, by decide +kernel⟩, xw 728 (by decide +kernel), xw 26 (by decide +kernel)⟩
abbrev kX6_again : xK := (RX6, cX6_again, 3, none, false)
set_option maxRecDepth 20000 in
theorem mX6_again : xcV yX6_again kX6_again 1 := ⟨⟨xwc 733 rfl rfl, xw 42 (by decide +kernel), by decide +kernel, by decide +kernel, by decide +kernel⟩, xw 732 (by decide +kernel), xw 27 (by decide +kernel)⟩
abbrev kX6_bad : xK := (RX6, cX6_bad, 1, (some .int), false)
set_option maxRecDepth 20000 in
theorem mX6_bad : xcV yX6_bad kX6_bad 0 := ⟨⟨xwc 737 rfl rfl, xw 42 (by decide +kernel), by decide +kernel, by decide +kernel, by decide +kernel⟩, xw 736 (by decide +kernel), xw 28 (by decide +kernel)⟩
abbrev kX6_answers : xK := (RX6, cX6_answers, 5, none, false)
set_option maxRecDepth 20000 in
theorem mX6_answers : xcV yX6_answers kX6_answers 1 := ⟨⟨xwc 690 rfl rfl, xw 42 (by decide +kernel), by decide +kernel, by decide +kernel, by decide +kernel⟩, xw 689 (by decide +kernel), xw 20 (by decide +kernel)⟩
abbrev kX6_items : xK := (RX6, cX6_items, 4, (some .int), false)
set_option maxRecDepth 20000 in
theorem mX6_items : xcV yX6_items kX6_items 1 := ⟨⟨xwc 754 rfl rfl, xw 42 (by decide +kernel), by decide +kernel, by decide +kernel, by decide +kernel⟩, xw 753 (by decide +kernel), xw 32 (by decide +kernel)⟩
abbrev kX6_placeOf : xK := (RX6, cX6_placeOf, 4, (some .int), false)
set_option maxRecDepth 20000 in
theorem mX6_placeOf : xcV yX6_placeOf kX6_placeOf 2 := ⟨⟨xwc 762 rfl rfl, xw 42 (by decide +kernel), by decide +kernel, by decide +kernel, by decide +kernel⟩, xw 761 (by decide +kernel), xw 34 (by decide +kernel)⟩
abbrev kX6_enter : xK := (RX6, cX6_enter, 7, none, false)
set_option maxRecDepth 20000 in
theorem mX6_enter : xcV yX6_enter kX6_enter 5 := ⟨⟨xwc 750 rfl rfl, xw 42 (by decide +kernel), by decide +kernel, by decide +kernel, by decide +kernel⟩, xw 749 (by decide +kernel), xw 31 (by decide +kernel)⟩
abbrev kX6_lends : xK := (RX6, cX6_lends, 5, (some .int), false)
set_option maxRecDepth 20000 in
theorem mX6_lends : xcV yX6_lends kX6_lends 2 := ⟨⟨xwc 746 rfl rfl, xw 42 (by decide +kernel), by decide +kernel, by decide +kernel, by decide +kernel⟩, xw 745 (by decide +kernel), xw 30 (by decide +kernel)⟩
abbrev kX6_brings : xK := (RX6, cX6_brings, 3, (some .int), false)
set_option maxRecDepth 20000 in
theorem mX6_brings : xcV yX6_brings kX6_brings 2 := ⟨⟨xwc 758 rfl rfl, xw 42 (by decide +kernel), by decide +kernel, by decide +kernel, by decide +kernel⟩, xw 757 (by decide +kernel), xw 33 (by decide +kernel)⟩
abbrev kX6_judge : xK := (RX6, cX6_judge, 3, (some .int), false)
set_option maxRecDepth 20000 in
theorem mX6_judge : xcV yX6_judge kX6_judge 2 := ⟨⟨xwc 742 rfl rfl, xw 42 (by decide +kernel), by decide +kernel, by decide +kernel, by decide +kernel⟩, xw 741 (by decide +kernel), xw 29 (by decide +kernel)⟩
abbrev kX6_octet : xK := (RX6, cX6_octet, 3, (some .int), false)
set_option maxRecDepth 20000 in
theorem mX6_octet : xcV yX6_octet kX6_octet 2 := ⟨⟨xwc 680 rfl rfl, xw 42 (by decide +kernel), by decide +kernel, by decide +kernel, by decide +kernel⟩, xw 678 (by decide +kernel), xw 679 (by decide +kernel)⟩
abbrev kX6_answer : xK := (RX6, cX6_answer, 3, (some .int), false)
set_option maxRecDepth 20000 in
theorem mX6_answer : xcV yX6_answer kX6_answer 2 := ⟨⟨xwc 766 rfl rfl, xw 42 (by decide +kernel), by decide +kernel, by decide +kernel, by decide +kernel⟩, xw 764 (by decide +kernel), xw 765 (by decide +kernel)⟩
abbrev kX6_reset : xK := (RX6, cX6_reset, 3, (some .int), false)
set_option maxRecDepth 20000 in
theorem mX6_reset : xcV yX6_reset kX6_reset 1 := ⟨⟨xwc 770 rfl rfl, xw 42 (by decide +kernel), by decide +kernel, by decide +kernel, by decide +kernel⟩, xw 768 (by decide +kernel), xw 769 (by decide +kernel)⟩
abbrev kX6_offline : xK := (RX6, cX6_offline, 6, (some .int), false)
set_option maxRecDepth 20000 in
theorem mX6_offline : xcV yX6_offline kX6_offline 4 := ⟨⟨xwc 774 rfl rfl, xw 42 (by decide +kernel), by decide +kernel, by decide +kernel, by decide +kernel⟩, xw 772 (by decide +kernel), xw 773 (by decide +kernel)⟩
abbrev kX6_join : xK := (RX6, cX6_join, 5, (some .int), false)
set_option maxRecDepth 20000 in
theorem mX6_join : xcV yX6_join kX6_join 1 := ⟨⟨xwc 778 rfl rfl, xw 42 (by decide +kernel), by decide +kernel, by decide +kernel, by decide +kernel⟩, xw 776 (by decide +kernel), xw 777 (by decide +kernel)⟩
abbrev kX6_owes : xK := (RX6, cX6_owes, 4, (some .int), false)
set_option maxRecDepth 20000 in
theorem mX6_owes : xcV yX6_owes kX6_owes 2 := ⟨⟨xwc 782 rfl rfl, xw 42 (by decide +kernel), by decide +kernel, by decide +kernel, by decide +kernel⟩, xw 780 (by decide +kernel), xw 781 (by decide +kernel)⟩
abbrev kX6_acts : xK := (RX6, cX6_acts, 1, (some .int), false)
set_option maxRecDepth 20000 in
theorem mX6_acts : xcV yX6_acts kX6_acts 0 := ⟨⟨xwc 787 rfl rfl, xw 42 (by decide +kernel), by decide +kernel, by decide +kernel, by decide +kernel⟩, xw 785 (by decide +kernel), xw 786 (by decide +kernel)⟩
abbrev kX6_act : xK := (RX6, cX6_act, 3, (some .int), false)
set_option maxRecDepth 20000 in
theorem mX6_act : xcV yX6_act kX6_act 2 := ⟨⟨xwc 791 rfl rfl, xw 42 (by decide +kernel), by decide +kernel, by decide +kernel, by decide +kernel⟩, xw 789 (by decide +kernel), xw 790 (by decide +kernel)⟩
abbrev kX6_sum : xK := (RX6, cX6_sum, 3, (some .int), false)
set_option maxRecDepth 20000 in
theorem mX6_sum : xcV yX6_sum kX6_sum 1 := ⟨⟨xwc 795 rfl rfl, xw 42 (by decide +kernel), by decide +kernel, by decide +kernel, by decide +kernel⟩, xw 793 (by decide +kernel), xw 794 (by decide +kernel)⟩
abbrev kX6_state : xK := (RX6, cX6_state, 3, (some .int), false)
set_option maxRecDepth 20000 in
theorem mX6_state : xcV yX6_state kX6_state 2 := ⟨⟨xwc 799 rfl rfl, xw 42 (by decide +kernel), by decide +kernel, by decide +kernel, by decide +kernel⟩, xw 797 (by decide +kernel), xw 798 (by decide +kernel)⟩
abbrev kX6_waits : xK := (RX6, cX6_waits, 3, (some .int), false)
set_option maxRecDepth 20000 in
theorem mX6_waits : xcV yX6_waits kX6_waits 2 := ⟨⟨xwc 803 rfl rfl, xw 42 (by decide +kernel), by decide +kernel, by decide +kernel, by decide +kernel⟩, xw 801 (by decide +kernel), xw 802 (by decide +kernel)⟩
theorem lc_L_8 : Jvm.Cond.classLink "ExchangeWireLaw" (8 : Nat) "ExchangeWire" ∈ xws := xw 54 (by decide +kernel)
theorem lm_L_15 : Jvm.Cond.methodLink "ExchangeWireLaw" (15 : Nat) ({ cls := "ExchangeWire", name := "<init>", desc := "()V" } : Jvm.MethodName) ∈ xws := xw 56 (by decide +kernel)
theorem lm_X5_1 : Jvm.Cond.methodLink "ExchangeWire" (1 : Nat) ({ cls := "java/lang/Object", name := "<init>", desc := "()V" } : Jvm.MethodName) ∈ xws := xw 59 (by decide +kernel)
theorem lc_X5_9 : Jvm.Cond.classLink "ExchangeWire" (9 : Nat) "ExchangeWire$Line" ∈ xws := xw 62 (by decide +kernel)
theorem lm_X2_3 : Jvm.Cond.methodLink "ExchangeWire$Line" (3 : Nat) ({ cls := "java/lang/Object", name := "<init>", desc := "()V" } : Jvm.MethodName) ∈ xws := xw 68 (by decide +kernel)
theorem lc_X2_32 : Jvm.Cond.classLink "ExchangeWire$Line" (32 : Nat) "ExchangeWire$Reply" ∈ xws := xw 69 (by decide +kernel)
theorem lm_X4_3 : Jvm.Cond.methodLink "ExchangeWire$Reply" (3 : Nat) ({ cls := "java/lang/Object", name := "<init>", desc := "()V" } : Jvm.MethodName) ∈ xws := xw 74 (by decide +kernel)
theorem lf_X4_11 : Jvm.Cond.fieldLink "ExchangeWire$Reply" (11 : Nat) "ExchangeWire$Reply" "signs" "[I" ∈ xws := xw 75 (by decide +kernel)
theorem lf_X5_73 : Jvm.Cond.fieldLink "ExchangeWire" (73 : Nat) "ExchangeWire$Reply" "signs" "[I" ∈ xws := xw 76 (by decide +kernel)
theorem lf_X4_15 : Jvm.Cond.fieldLink "ExchangeWire$Reply" (15 : Nat) "ExchangeWire$Reply" "length" "I" ∈ xws := xw 77 (by decide +kernel)
theorem lf_X5_61 : Jvm.Cond.fieldLink "ExchangeWire" (61 : Nat) "ExchangeWire$Reply" "length" "I" ∈ xws := xw 78 (by decide +kernel)
theorem lf_X2_58 : Jvm.Cond.fieldLink "ExchangeWire$Line" (58 : Nat) "ExchangeWire$Reply" "length" "I" ∈ xws := xw 79 (by decide +kernel)
theorem lf_X2_9 : Jvm.Cond.fieldLink "ExchangeWire$Line" (9 : Nat) "ExchangeWire$Line" "signs" "[I" ∈ xws := xw 86 (by decide +kernel)
theorem lf_X5_132 : Jvm.Cond.fieldLink "ExchangeWire" (132 : Nat) "ExchangeWire$Line" "signs" "[I" ∈ xws := xw 87 (by decide +kernel)
theorem lf_X2_15 : Jvm.Cond.fieldLink "ExchangeWire$Line" (15 : Nat) "ExchangeWire$Line" "count" "I" ∈ xws := xw 88 (by decide +kernel)
theorem lf_X5_77 : Jvm.Cond.fieldLink "ExchangeWire" (77 : Nat) "ExchangeWire$Line" "count" "I" ∈ xws := xw 89 (by decide +kernel)
theorem lf_X2_19 : Jvm.Cond.fieldLink "ExchangeWire$Line" (19 : Nat) "ExchangeWire$Line" "broken" "Z" ∈ xws := xw 90 (by decide +kernel)
theorem lf_X5_45 : Jvm.Cond.fieldLink "ExchangeWire" (45 : Nat) "ExchangeWire$Line" "broken" "Z" ∈ xws := xw 91 (by decide +kernel)
theorem lf_X2_23 : Jvm.Cond.fieldLink "ExchangeWire$Line" (23 : Nat) "ExchangeWire$Line" "signedOn" "Z" ∈ xws := xw 92 (by decide +kernel)
theorem lf_X5_119 : Jvm.Cond.fieldLink "ExchangeWire" (119 : Nat) "ExchangeWire$Line" "signedOn" "Z" ∈ xws := xw 93 (by decide +kernel)
theorem lf_X2_26 : Jvm.Cond.fieldLink "ExchangeWire$Line" (26 : Nat) "ExchangeWire$Line" "latestNumber" "I" ∈ xws := xw 94 (by decide +kernel)
theorem lf_X5_116 : Jvm.Cond.fieldLink "ExchangeWire" (116 : Nat) "ExchangeWire$Line" "latestNumber" "I" ∈ xws := xw 95 (by decide +kernel)
theorem lf_X2_29 : Jvm.Cond.fieldLink "ExchangeWire$Line" (29 : Nat) "ExchangeWire$Line" "wrongCount" "I" ∈ xws := xw 96 (by decide +kernel)
theorem lf_X5_122 : Jvm.Cond.fieldLink "ExchangeWire" (122 : Nat) "ExchangeWire$Line" "wrongCount" "I" ∈ xws := xw 97 (by decide +kernel)
theorem lf_X2_35 : Jvm.Cond.fieldLink "ExchangeWire$Line" (35 : Nat) "ExchangeWire$Line" "shown" "LExchangeWire$Reply;" ∈ xws := xw 98 (by decide +kernel)
theorem lf_X5_57 : Jvm.Cond.fieldLink "ExchangeWire" (57 : Nat) "ExchangeWire$Line" "shown" "LExchangeWire$Reply;" ∈ xws := xw 99 (by decide +kernel)
theorem lf_X2_39 : Jvm.Cond.fieldLink "ExchangeWire$Line" (39 : Nat) "ExchangeWire$Line" "kept" "LExchangeWire$Reply;" ∈ xws := xw 100 (by decide +kernel)
theorem lf_X5_143 : Jvm.Cond.fieldLink "ExchangeWire" (143 : Nat) "ExchangeWire$Line" "kept" "LExchangeWire$Reply;" ∈ xws := xw 101 (by decide +kernel)
theorem lf_X2_42 : Jvm.Cond.fieldLink "ExchangeWire$Line" (42 : Nat) "ExchangeWire$Line" "rowKinds" "[I" ∈ xws := xw 102 (by decide +kernel)
theorem lf_X5_90 : Jvm.Cond.fieldLink "ExchangeWire" (90 : Nat) "ExchangeWire$Line" "rowKinds" "[I" ∈ xws := xw 103 (by decide +kernel)
theorem lf_X2_45 : Jvm.Cond.fieldLink "ExchangeWire$Line" (45 : Nat) "ExchangeWire$Line" "rowItems" "[I" ∈ xws := xw 104 (by decide +kernel)
theorem lf_X5_93 : Jvm.Cond.fieldLink "ExchangeWire" (93 : Nat) "ExchangeWire$Line" "rowItems" "[I" ∈ xws := xw 105 (by decide +kernel)
theorem lf_X2_48 : Jvm.Cond.fieldLink "ExchangeWire$Line" (48 : Nat) "ExchangeWire$Line" "rowPersons" "[I" ∈ xws := xw 106 (by decide +kernel)
theorem lf_X5_96 : Jvm.Cond.fieldLink "ExchangeWire" (96 : Nat) "ExchangeWire$Line" "rowPersons" "[I" ∈ xws := xw 107 (by decide +kernel)
theorem lf_X2_51 : Jvm.Cond.fieldLink "ExchangeWire$Line" (51 : Nat) "ExchangeWire$Line" "rowCount" "I" ∈ xws := xw 108 (by decide +kernel)
theorem lf_X5_87 : Jvm.Cond.fieldLink "ExchangeWire" (87 : Nat) "ExchangeWire$Line" "rowCount" "I" ∈ xws := xw 109 (by decide +kernel)
theorem lc_X5_16 : Jvm.Cond.classLink "ExchangeWire" (16 : Nat) "ExchangeWire$House" ∈ xws := xw 135 (by decide +kernel)
theorem lm_X5_18 : Jvm.Cond.methodLink "ExchangeWire" (18 : Nat) ({ cls := "ExchangeWire$House", name := "<init>", desc := "()V" } : Jvm.MethodName) ∈ xws := xw 137 (by decide +kernel)
theorem lm_X0_3 : Jvm.Cond.methodLink "ExchangeWire$House" (3 : Nat) ({ cls := "java/lang/Object", name := "<init>", desc := "()V" } : Jvm.MethodName) ∈ xws := xw 140 (by decide +kernel)
theorem lc_X0_21 : Jvm.Cond.classLink "ExchangeWire$House" (21 : Nat) "[[I" ∈ xws := xw 141 (by decide +kernel)
theorem lf_X0_9 : Jvm.Cond.fieldLink "ExchangeWire$House" (9 : Nat) "ExchangeWire$House" "debts" "[I" ∈ xws := xw 143 (by decide +kernel)
theorem lf_X5_108 : Jvm.Cond.fieldLink "ExchangeWire" (108 : Nat) "ExchangeWire$House" "debts" "[I" ∈ xws := xw 144 (by decide +kernel)
theorem lf_X0_15 : Jvm.Cond.fieldLink "ExchangeWire$House" (15 : Nat) "ExchangeWire$House" "borrowers" "[I" ∈ xws := xw 145 (by decide +kernel)
theorem lf_X5_176 : Jvm.Cond.fieldLink "ExchangeWire" (176 : Nat) "ExchangeWire$House" "borrowers" "[I" ∈ xws := xw 146 (by decide +kernel)
theorem lf_X0_18 : Jvm.Cond.fieldLink "ExchangeWire$House" (18 : Nat) "ExchangeWire$House" "renewals" "[I" ∈ xws := xw 147 (by decide +kernel)
theorem lf_X0_23 : Jvm.Cond.fieldLink "ExchangeWire$House" (23 : Nat) "ExchangeWire$House" "queues" "[[I" ∈ xws := xw 148 (by decide +kernel)
theorem lf_X5_128 : Jvm.Cond.fieldLink "ExchangeWire" (128 : Nat) "ExchangeWire$House" "queues" "[[I" ∈ xws := xw 149 (by decide +kernel)
theorem lf_X0_26 : Jvm.Cond.fieldLink "ExchangeWire$House" (26 : Nat) "ExchangeWire$House" "queueLengths" "[I" ∈ xws := xw 150 (by decide +kernel)
theorem lf_X5_125 : Jvm.Cond.fieldLink "ExchangeWire" (125 : Nat) "ExchangeWire$House" "queueLengths" "[I" ∈ xws := xw 151 (by decide +kernel)
theorem lc_X5_23 : Jvm.Cond.classLink "ExchangeWire" (23 : Nat) "ExchangeWire$Journal" ∈ xws := xw 163 (by decide +kernel)
theorem lm_X1_3 : Jvm.Cond.methodLink "ExchangeWire$Journal" (3 : Nat) ({ cls := "java/lang/Object", name := "<init>", desc := "()V" } : Jvm.MethodName) ∈ xws := xw 168 (by decide +kernel)
theorem lf_X1_11 : Jvm.Cond.fieldLink "ExchangeWire$Journal" (11 : Nat) "ExchangeWire$Journal" "parts" "[I" ∈ xws := xw 169 (by decide +kernel)
theorem lf_X1_15 : Jvm.Cond.fieldLink "ExchangeWire$Journal" (15 : Nat) "ExchangeWire$Journal" "count" "I" ∈ xws := xw 170 (by decide +kernel)
theorem lf_X5_111 : Jvm.Cond.fieldLink "ExchangeWire" (111 : Nat) "ExchangeWire$Journal" "count" "I" ∈ xws := xw 171 (by decide +kernel)
theorem lc_X5_30 : Jvm.Cond.classLink "ExchangeWire" (30 : Nat) "ExchangeWire$Message" ∈ xws := xw 177 (by decide +kernel)
theorem lm_X3_3 : Jvm.Cond.methodLink "ExchangeWire$Message" (3 : Nat) ({ cls := "java/lang/Object", name := "<init>", desc := "()V" } : Jvm.MethodName) ∈ xws := xw 182 (by decide +kernel)
theorem lf_X3_9 : Jvm.Cond.fieldLink "ExchangeWire$Message" (9 : Nat) "ExchangeWire$Message" "kind" "I" ∈ xws := xw 183 (by decide +kernel)
theorem lf_X0_29 : Jvm.Cond.fieldLink "ExchangeWire$House" (29 : Nat) "ExchangeWire$Message" "kind" "I" ∈ xws := xw 184 (by decide +kernel)
theorem lf_X1_23 : Jvm.Cond.fieldLink "ExchangeWire$Journal" (23 : Nat) "ExchangeWire$Message" "kind" "I" ∈ xws := xw 185 (by decide +kernel)
theorem lf_X4_39 : Jvm.Cond.fieldLink "ExchangeWire$Reply" (39 : Nat) "ExchangeWire$Message" "kind" "I" ∈ xws := xw 186 (by decide +kernel)
theorem lf_X5_140 : Jvm.Cond.fieldLink "ExchangeWire" (140 : Nat) "ExchangeWire$Message" "kind" "I" ∈ xws := xw 187 (by decide +kernel)
theorem lf_X3_15 : Jvm.Cond.fieldLink "ExchangeWire$Message" (15 : Nat) "ExchangeWire$Message" "number" "I" ∈ xws := xw 188 (by decide +kernel)
theorem lf_X1_34 : Jvm.Cond.fieldLink "ExchangeWire$Journal" (34 : Nat) "ExchangeWire$Message" "number" "I" ∈ xws := xw 189 (by decide +kernel)
theorem lf_X4_44 : Jvm.Cond.fieldLink "ExchangeWire$Reply" (44 : Nat) "ExchangeWire$Message" "number" "I" ∈ xws := xw 190 (by decide +kernel)
theorem lf_X5_150 : Jvm.Cond.fieldLink "ExchangeWire" (150 : Nat) "ExchangeWire$Message" "number" "I" ∈ xws := xw 191 (by decide +kernel)
theorem lf_X3_18 : Jvm.Cond.fieldLink "ExchangeWire$Message" (18 : Nat) "ExchangeWire$Message" "person" "I" ∈ xws := xw 192 (by decide +kernel)
theorem lf_X0_35 : Jvm.Cond.fieldLink "ExchangeWire$House" (35 : Nat) "ExchangeWire$Message" "person" "I" ∈ xws := xw 193 (by decide +kernel)
theorem lf_X1_31 : Jvm.Cond.fieldLink "ExchangeWire$Journal" (31 : Nat) "ExchangeWire$Message" "person" "I" ∈ xws := xw 194 (by decide +kernel)
theorem lf_X5_182 : Jvm.Cond.fieldLink "ExchangeWire" (182 : Nat) "ExchangeWire$Message" "person" "I" ∈ xws := xw 195 (by decide +kernel)
theorem lf_X3_21 : Jvm.Cond.fieldLink "ExchangeWire$Message" (21 : Nat) "ExchangeWire$Message" "item" "I" ∈ xws := xw 196 (by decide +kernel)
theorem lf_X1_28 : Jvm.Cond.fieldLink "ExchangeWire$Journal" (28 : Nat) "ExchangeWire$Message" "item" "I" ∈ xws := xw 197 (by decide +kernel)
theorem lf_X0_38 : Jvm.Cond.fieldLink "ExchangeWire$House" (38 : Nat) "ExchangeWire$Message" "item" "I" ∈ xws := xw 198 (by decide +kernel)
theorem lf_X5_179 : Jvm.Cond.fieldLink "ExchangeWire" (179 : Nat) "ExchangeWire$Message" "item" "I" ∈ xws := xw 199 (by decide +kernel)
theorem lf_X3_24 : Jvm.Cond.fieldLink "ExchangeWire$Message" (24 : Nat) "ExchangeWire$Message" "cents" "I" ∈ xws := xw 200 (by decide +kernel)
theorem lf_X0_49 : Jvm.Cond.fieldLink "ExchangeWire$House" (49 : Nat) "ExchangeWire$Message" "cents" "I" ∈ xws := xw 201 (by decide +kernel)
theorem lf_X5_11 : Jvm.Cond.fieldLink "ExchangeWire" (11 : Nat) "ExchangeWire" "lines" "[LExchangeWire$Line;" ∈ xws := xw 213 (by decide +kernel)
theorem lf_X5_19 : Jvm.Cond.fieldLink "ExchangeWire" (19 : Nat) "ExchangeWire" "house" "LExchangeWire$House;" ∈ xws := xw 214 (by decide +kernel)
theorem lf_X5_26 : Jvm.Cond.fieldLink "ExchangeWire" (26 : Nat) "ExchangeWire" "journal" "LExchangeWire$Journal;" ∈ xws := xw 215 (by decide +kernel)
theorem lf_X5_33 : Jvm.Cond.fieldLink "ExchangeWire" (33 : Nat) "ExchangeWire" "message" "LExchangeWire$Message;" ∈ xws := xw 216 (by decide +kernel)
theorem lf_X5_37 : Jvm.Cond.fieldLink "ExchangeWire" (37 : Nat) "ExchangeWire" "sumSoFar" "I" ∈ xws := xw 217 (by decide +kernel)
theorem lm_L_19 : Jvm.Cond.methodLink "ExchangeWireLaw" (19 : Nat) ({ cls := "ExchangeWire", name := "octet", desc := "(II)I" } : Jvm.MethodName) ∈ xws := xw 229 (by decide +kernel)
theorem lm_X5_41 : Jvm.Cond.methodLink "ExchangeWire" (41 : Nat) ({ cls := "ExchangeWire", name := "isBelow", desc := "(II)Z" } : Jvm.MethodName) ∈ xws := xw 233 (by decide +kernel)
theorem lm_X5_49 : Jvm.Cond.methodLink "ExchangeWire" (49 : Nat) ({ cls := "ExchangeWire$Line", name := "take", desc := "(I)I" } : Jvm.MethodName) ∈ xws := xw 236 (by decide +kernel)
theorem lm_X5_53 : Jvm.Cond.methodLink "ExchangeWire" (53 : Nat) ({ cls := "ExchangeWire", name := "endMessage", desc := "(ILExchangeWire$Line;)V" } : Jvm.MethodName) ∈ xws := xw 241 (by decide +kernel)
theorem lm_X5_133 : Jvm.Cond.methodLink "ExchangeWire" (133 : Nat) ({ cls := "ExchangeWire$Message", name := "read", desc := "([II)Z" } : Jvm.MethodName) ∈ xws := xw 245 (by decide +kernel)
theorem lm_X3_27 : Jvm.Cond.methodLink "ExchangeWire$Message" (27 : Nat) ({ cls := "ExchangeWire$Message", name := "forget", desc := "()V" } : Jvm.MethodName) ∈ xws := xw 249 (by decide +kernel)
theorem lm_X3_30 : Jvm.Cond.methodLink "ExchangeWire$Message" (30 : Nat) ({ cls := "ExchangeWire$Message", name := "fieldsOf", desc := "(I)Ljava/lang/String;" } : Jvm.MethodName) ∈ xws := xw 253 (by decide +kernel)
theorem lm_X3_38 : Jvm.Cond.methodLink "ExchangeWire$Message" (38 : Nat) ({ cls := "java/lang/String", name := "length", desc := "()I" } : Jvm.MethodName) ∈ xws := xw 264 (by decide +kernel)
theorem lm_X3_44 : Jvm.Cond.methodLink "ExchangeWire$Message" (44 : Nat) ({ cls := "java/lang/String", name := "charAt", desc := "(I)C" } : Jvm.MethodName) ∈ xws := xw 274 (by decide +kernel)
theorem lm_X3_48 : Jvm.Cond.methodLink "ExchangeWire$Message" (48 : Nat) ({ cls := "ExchangeWire$Message", name := "readField", desc := "(I[III)I" } : Jvm.MethodName) ∈ xws := xw 312 (by decide +kernel)
theorem lm_X3_69 : Jvm.Cond.methodLink "ExchangeWire$Message" (69 : Nat) ({ cls := "java/lang/Math", name := "min", desc := "(II)I" } : Jvm.MethodName) ∈ xws := xw 316 (by decide +kernel)
theorem lm_X3_75 : Jvm.Cond.methodLink "ExchangeWire$Message" (75 : Nat) ({ cls := "ExchangeWire$Message", name := "keepField", desc := "(II)V" } : Jvm.MethodName) ∈ xws := xw 319 (by decide +kernel)
theorem lm_X3_52 : Jvm.Cond.methodLink "ExchangeWire$Message" (52 : Nat) ({ cls := "ExchangeWire$Message", name := "endsWithSum", desc := "([III)Z" } : Jvm.MethodName) ∈ xws := xw 323 (by decide +kernel)
theorem lm_X5_137 : Jvm.Cond.methodLink "ExchangeWire" (137 : Nat) ({ cls := "ExchangeWire$Reply", name := "writeWrong", desc := "()V" } : Jvm.MethodName) ∈ xws := xw 332 (by decide +kernel)
theorem lm_X4_19 : Jvm.Cond.methodLink "ExchangeWire$Reply" (19 : Nat) ({ cls := "ExchangeWire$Reply", name := "add", desc := "(I)V" } : Jvm.MethodName) ∈ xws := xw 336 (by decide +kernel)
theorem lm_X4_23 : Jvm.Cond.methodLink "ExchangeWire$Reply" (23 : Nat) ({ cls := "ExchangeWire$Reply", name := "addSumAndEnd", desc := "()V" } : Jvm.MethodName) ∈ xws := xw 340 (by decide +kernel)
theorem lm_X5_146 : Jvm.Cond.methodLink "ExchangeWire" (146 : Nat) ({ cls := "ExchangeWire$Reply", name := "writeNo", desc := "(LExchangeWire$Message;)V" } : Jvm.MethodName) ∈ xws := xw 346 (by decide +kernel)
theorem lm_X4_26 : Jvm.Cond.methodLink "ExchangeWire$Reply" (26 : Nat) ({ cls := "ExchangeWire$Reply", name := "addSource", desc := "(LExchangeWire$Message;)V" } : Jvm.MethodName) ∈ xws := xw 350 (by decide +kernel)
theorem lm_X5_153 : Jvm.Cond.methodLink "ExchangeWire" (153 : Nat) ({ cls := "ExchangeWire", name := "doMessage", desc := "(ILExchangeWire$Line;)V" } : Jvm.MethodName) ∈ xws := xw 354 (by decide +kernel)
theorem lm_X5_160 : Jvm.Cond.methodLink "ExchangeWire" (160 : Nat) ({ cls := "ExchangeWire$Message", name := "firstBadField", desc := "()I" } : Jvm.MethodName) ∈ xws := xw 358 (by decide +kernel)
theorem lm_X3_56 : Jvm.Cond.methodLink "ExchangeWire$Message" (56 : Nat) ({ cls := "ExchangeWire$Message", name := "isGoodField", desc := "(I)Z" } : Jvm.MethodName) ∈ xws := xw 362 (by decide +kernel)
theorem ld_X3_83 : Jvm.Cond.constant "ExchangeWire$Message" (83 : Nat) (50000 : Int32) ∈ xws := xw 367 (by decide +kernel)
theorem lm_X5_164 : Jvm.Cond.methodLink "ExchangeWire" (164 : Nat) ({ cls := "ExchangeWire$Reply", name := "writeError", desc := "(LExchangeWire$Message;I)V" } : Jvm.MethodName) ∈ xws := xw 368 (by decide +kernel)
theorem lm_X5_103 : Jvm.Cond.methodLink "ExchangeWire" (103 : Nat) ({ cls := "ExchangeWire", name := "carryOut", desc := "(I)Z" } : Jvm.MethodName) ∈ xws := xw 372 (by decide +kernel)
theorem lm_X5_185 : Jvm.Cond.methodLink "ExchangeWire" (185 : Nat) ({ cls := "ExchangeWire$House", name := "decide", desc := "(LExchangeWire$Message;)Z" } : Jvm.MethodName) ∈ xws := xw 376 (by decide +kernel)
theorem lm_X0_41 : Jvm.Cond.methodLink "ExchangeWire$House" (41 : Nat) ({ cls := "ExchangeWire$House", name := "lend", desc := "(II)Z" } : Jvm.MethodName) ∈ xws := xw 380 (by decide +kernel)
theorem lm_X0_65 : Jvm.Cond.methodLink "ExchangeWire$House" (65 : Nat) ({ cls := "ExchangeWire$House", name := "dropFirst", desc := "(I)V" } : Jvm.MethodName) ∈ xws := xw 384 (by decide +kernel)
theorem lm_X0_45 : Jvm.Cond.methodLink "ExchangeWire$House" (45 : Nat) ({ cls := "ExchangeWire$House", name := "bringBack", desc := "(I)Z" } : Jvm.MethodName) ∈ xws := xw 388 (by decide +kernel)
theorem lm_X0_52 : Jvm.Cond.methodLink "ExchangeWire$House" (52 : Nat) ({ cls := "ExchangeWire$House", name := "pay", desc := "(II)Z" } : Jvm.MethodName) ∈ xws := xw 392 (by decide +kernel)
theorem lm_X0_55 : Jvm.Cond.methodLink "ExchangeWire$House" (55 : Nat) ({ cls := "ExchangeWire$House", name := "queueUp", desc := "(II)Z" } : Jvm.MethodName) ∈ xws := xw 396 (by decide +kernel)
theorem lm_X0_69 : Jvm.Cond.methodLink "ExchangeWire$House" (69 : Nat) ({ cls := "ExchangeWire$House", name := "isInQueue", desc := "(II)Z" } : Jvm.MethodName) ∈ xws := xw 400 (by decide +kernel)
theorem lm_X0_58 : Jvm.Cond.methodLink "ExchangeWire$House" (58 : Nat) ({ cls := "ExchangeWire$House", name := "renew", desc := "(II)Z" } : Jvm.MethodName) ∈ xws := xw 405 (by decide +kernel)
theorem lm_X5_189 : Jvm.Cond.methodLink "ExchangeWire" (189 : Nat) ({ cls := "ExchangeWire$Message", name := "changesTheHouse", desc := "()Z" } : Jvm.MethodName) ∈ xws := xw 409 (by decide +kernel)
theorem lm_X5_193 : Jvm.Cond.methodLink "ExchangeWire" (193 : Nat) ({ cls := "ExchangeWire$Journal", name := "add", desc := "(ILExchangeWire$Message;)V" } : Jvm.MethodName) ∈ xws := xw 413 (by decide +kernel)
theorem lm_X5_168 : Jvm.Cond.methodLink "ExchangeWire" (168 : Nat) ({ cls := "ExchangeWire$House", name := "figureFor", desc := "(LExchangeWire$Message;)I" } : Jvm.MethodName) ∈ xws := xw 418 (by decide +kernel)
theorem lm_X0_61 : Jvm.Cond.methodLink "ExchangeWire$House" (61 : Nat) ({ cls := "ExchangeWire$House", name := "itemsOf", desc := "(I)I" } : Jvm.MethodName) ∈ xws := xw 422 (by decide +kernel)
theorem lm_X5_172 : Jvm.Cond.methodLink "ExchangeWire" (172 : Nat) ({ cls := "ExchangeWire$Reply", name := "writeVerdict", desc := "(LExchangeWire$Message;ZI)V" } : Jvm.MethodName) ∈ xws := xw 426 (by decide +kernel)
theorem lm_X4_30 : Jvm.Cond.methodLink "ExchangeWire$Reply" (30 : Nat) ({ cls := "ExchangeWire$Reply", name := "addDigits", desc := "(I)V" } : Jvm.MethodName) ∈ xws := xw 430 (by decide +kernel)
theorem ld_X4_55 : Jvm.Cond.constant "ExchangeWire$Reply" (55 : Nat) (100000 : Int32) ∈ xws := xw 434 (by decide +kernel)
theorem lm_X5_156 : Jvm.Cond.methodLink "ExchangeWire" (156 : Nat) ({ cls := "ExchangeWire$Reply", name := "copy", desc := "(LExchangeWire$Reply;)V" } : Jvm.MethodName) ∈ xws := xw 435 (by decide +kernel)
theorem lm_X4_33 : Jvm.Cond.methodLink "ExchangeWire$Reply" (33 : Nat) ({ cls := "java/lang/System", name := "arraycopy", desc := "(Ljava/lang/Object;ILjava/lang/Object;II)V" } : Jvm.MethodName) ∈ xws := xw 439 (by decide +kernel)
theorem lm_L_33 : Jvm.Cond.methodLink "ExchangeWireLaw" (33 : Nat) ({ cls := "ExchangeWire", name := "reset", desc := "(I)I" } : Jvm.MethodName) ∈ xws := xw 443 (by decide +kernel)
theorem lm_X5_80 : Jvm.Cond.methodLink "ExchangeWire" (80 : Nat) ({ cls := "ExchangeWire$Line", name := "clear", desc := "()V" } : Jvm.MethodName) ∈ xws := xw 447 (by decide +kernel)
theorem lm_L_38 : Jvm.Cond.methodLink "ExchangeWireLaw" (38 : Nat) ({ cls := "ExchangeWire", name := "offline", desc := "(IIII)I" } : Jvm.MethodName) ∈ xws := xw 451 (by decide +kernel)
theorem lm_X5_83 : Jvm.Cond.methodLink "ExchangeWire" (83 : Nat) ({ cls := "ExchangeWire$Line", name := "addRow", desc := "(III)I" } : Jvm.MethodName) ∈ xws := xw 455 (by decide +kernel)
theorem lm_L_43 : Jvm.Cond.methodLink "ExchangeWireLaw" (43 : Nat) ({ cls := "ExchangeWire", name := "join", desc := "(I)I" } : Jvm.MethodName) ∈ xws := xw 459 (by decide +kernel)
theorem lm_X5_99 : Jvm.Cond.methodLink "ExchangeWire" (99 : Nat) ({ cls := "ExchangeWire$Message", name := "fillFromRow", desc := "(III)V" } : Jvm.MethodName) ∈ xws := xw 463 (by decide +kernel)
theorem lm_L_47 : Jvm.Cond.methodLink "ExchangeWireLaw" (47 : Nat) ({ cls := "ExchangeWire", name := "owes", desc := "(II)I" } : Jvm.MethodName) ∈ xws := xw 467 (by decide +kernel)
theorem ld_X5_107 : Jvm.Cond.constant "ExchangeWire" (107 : Nat) (100000 : Int32) ∈ xws := xw 471 (by decide +kernel)
theorem lm_L_51 : Jvm.Cond.methodLink "ExchangeWireLaw" (51 : Nat) ({ cls := "ExchangeWire", name := "acts", desc := "()I" } : Jvm.MethodName) ∈ xws := xw 472 (by decide +kernel)
theorem lm_L_55 : Jvm.Cond.methodLink "ExchangeWireLaw" (55 : Nat) ({ cls := "ExchangeWire", name := "act", desc := "(II)I" } : Jvm.MethodName) ∈ xws := xw 476 (by decide +kernel)
theorem lm_X5_112 : Jvm.Cond.methodLink "ExchangeWire" (112 : Nat) ({ cls := "ExchangeWire$Journal", name := "tell", desc := "(II)I" } : Jvm.MethodName) ∈ xws := xw 480 (by decide +kernel)
theorem lm_X1_37 : Jvm.Cond.methodLink "ExchangeWire$Journal" (37 : Nat) ({ cls := "java/lang/Math", name := "min", desc := "(II)I" } : Jvm.MethodName) ∈ xws := xw 484 (by decide +kernel)
theorem lm_L_59 : Jvm.Cond.methodLink "ExchangeWireLaw" (59 : Nat) ({ cls := "ExchangeWire", name := "sum", desc := "(I)I" } : Jvm.MethodName) ∈ xws := xw 485 (by decide +kernel)
theorem lm_L_63 : Jvm.Cond.methodLink "ExchangeWireLaw" (63 : Nat) ({ cls := "ExchangeWire", name := "state", desc := "(II)I" } : Jvm.MethodName) ∈ xws := xw 489 (by decide +kernel)
theorem lm_L_67 : Jvm.Cond.methodLink "ExchangeWireLaw" (67 : Nat) ({ cls := "ExchangeWire", name := "waits", desc := "(II)I" } : Jvm.MethodName) ∈ xws := xw 493 (by decide +kernel)
theorem lm_L_23 : Jvm.Cond.methodLink "ExchangeWireLaw" (23 : Nat) ({ cls := "ExchangeWireLaw", name := "answer", desc := "(LExchangeWire;II[J)I" } : Jvm.MethodName) ∈ xws := xw 497 (by decide +kernel)
theorem lc_L_13 : Jvm.Cond.classLink "ExchangeWireLaw" (13 : Nat) "java/lang/ArrayIndexOutOfBoundsException" ∈ xws := xw 500 (by decide +kernel)
theorem lm_L_7 : Jvm.Cond.methodLink "ExchangeWireLaw" (7 : Nat) ({ cls := "ExchangeWire", name := "answer", desc := "(II)I" } : Jvm.MethodName) ∈ xws := xw 501 (by decide +kernel)
theorem lc_X5_66 : Jvm.Cond.classLink "ExchangeWire" (66 : Nat) "java/lang/ArrayIndexOutOfBoundsException" ∈ xws := xw 505 (by decide +kernel)
theorem lm_X5_70 : Jvm.Cond.methodLink "ExchangeWire" (70 : Nat) ({ cls := "java/lang/ArrayIndexOutOfBoundsException", name := "<init>", desc := "(Ljava/lang/String;)V" } : Jvm.MethodName) ∈ xws := xw 547 (by decide +kernel)
theorem lc_L_16 : Jvm.Cond.classLink "ExchangeWireLaw" (16 : Nat) "ExchangeWireModel" ∈ xws := xw 575 (by decide +kernel)
theorem lm_L_18 : Jvm.Cond.methodLink "ExchangeWireLaw" (18 : Nat) ({ cls := "ExchangeWireModel", name := "<init>", desc := "()V" } : Jvm.MethodName) ∈ xws := xw 577 (by decide +kernel)
theorem lm_X6_1 : Jvm.Cond.methodLink "ExchangeWireModel" (1 : Nat) ({ cls := "java/lang/Object", name := "<init>", desc := "()V" } : Jvm.MethodName) ∈ xws := xw 580 (by decide +kernel)
theorem lf_X6_72 : Jvm.Cond.fieldLink "ExchangeWireModel" (72 : Nat) "ExchangeWireModel" "thrown" "I" ∈ xws := xw 581 (by decide +kernel)
theorem lf_X6_7 : Jvm.Cond.fieldLink "ExchangeWireModel" (7 : Nat) "ExchangeWireModel" "size" "[I" ∈ xws := xw 582 (by decide +kernel)
theorem lf_X6_13 : Jvm.Cond.fieldLink "ExchangeWireModel" (13 : Nat) "ExchangeWireModel" "line" "[B" ∈ xws := xw 583 (by decide +kernel)
theorem lf_X6_17 : Jvm.Cond.fieldLink "ExchangeWireModel" (17 : Nat) "ExchangeWireModel" "broken" "[Z" ∈ xws := xw 584 (by decide +kernel)
theorem lf_X6_21 : Jvm.Cond.fieldLink "ExchangeWireModel" (21 : Nat) "ExchangeWireModel" "signed" "[Z" ∈ xws := xw 585 (by decide +kernel)
theorem lf_X6_24 : Jvm.Cond.fieldLink "ExchangeWireModel" (24 : Nat) "ExchangeWireModel" "done" "[I" ∈ xws := xw 586 (by decide +kernel)
theorem lf_X6_27 : Jvm.Cond.fieldLink "ExchangeWireModel" (27 : Nat) "ExchangeWireModel" "wrongs" "[I" ∈ xws := xw 587 (by decide +kernel)
theorem lf_X6_30 : Jvm.Cond.fieldLink "ExchangeWireModel" (30 : Nat) "ExchangeWireModel" "told" "[I" ∈ xws := xw 588 (by decide +kernel)
theorem lf_X6_33 : Jvm.Cond.fieldLink "ExchangeWireModel" (33 : Nat) "ExchangeWireModel" "answers" "[B" ∈ xws := xw 589 (by decide +kernel)
theorem lf_X6_36 : Jvm.Cond.fieldLink "ExchangeWireModel" (36 : Nat) "ExchangeWireModel" "kept" "[I" ∈ xws := xw 590 (by decide +kernel)
theorem lf_X6_39 : Jvm.Cond.fieldLink "ExchangeWireModel" (39 : Nat) "ExchangeWireModel" "keeps" "[B" ∈ xws := xw 591 (by decide +kernel)
theorem lf_X6_42 : Jvm.Cond.fieldLink "ExchangeWireModel" (42 : Nat) "ExchangeWireModel" "rows" "[I" ∈ xws := xw 592 (by decide +kernel)
theorem lf_X6_45 : Jvm.Cond.fieldLink "ExchangeWireModel" (45 : Nat) "ExchangeWireModel" "rowKind" "[I" ∈ xws := xw 593 (by decide +kernel)
theorem lf_X6_48 : Jvm.Cond.fieldLink "ExchangeWireModel" (48 : Nat) "ExchangeWireModel" "rowItem" "[I" ∈ xws := xw 594 (by decide +kernel)
theorem lf_X6_51 : Jvm.Cond.fieldLink "ExchangeWireModel" (51 : Nat) "ExchangeWireModel" "rowPerson" "[I" ∈ xws := xw 595 (by decide +kernel)
theorem lf_X6_54 : Jvm.Cond.fieldLink "ExchangeWireModel" (54 : Nat) "ExchangeWireModel" "owes" "[I" ∈ xws := xw 596 (by decide +kernel)
theorem lf_X6_57 : Jvm.Cond.fieldLink "ExchangeWireModel" (57 : Nat) "ExchangeWireModel" "lent" "[I" ∈ xws := xw 597 (by decide +kernel)
theorem lf_X6_60 : Jvm.Cond.fieldLink "ExchangeWireModel" (60 : Nat) "ExchangeWireModel" "renewed" "[I" ∈ xws := xw 598 (by decide +kernel)
theorem lf_X6_63 : Jvm.Cond.fieldLink "ExchangeWireModel" (63 : Nat) "ExchangeWireModel" "waiting" "[I" ∈ xws := xw 599 (by decide +kernel)
theorem lf_X6_66 : Jvm.Cond.fieldLink "ExchangeWireModel" (66 : Nat) "ExchangeWireModel" "waits" "[I" ∈ xws := xw 600 (by decide +kernel)
theorem lf_X6_152 : Jvm.Cond.fieldLink "ExchangeWireModel" (152 : Nat) "ExchangeWireModel" "acts" "I" ∈ xws := xw 601 (by decide +kernel)
theorem lf_X6_69 : Jvm.Cond.fieldLink "ExchangeWireModel" (69 : Nat) "ExchangeWireModel" "actRow" "[I" ∈ xws := xw 602 (by decide +kernel)
theorem lf_X6_177 : Jvm.Cond.fieldLink "ExchangeWireModel" (177 : Nat) "ExchangeWireModel" "summed" "I" ∈ xws := xw 603 (by decide +kernel)
theorem lf_X6_80 : Jvm.Cond.fieldLink "ExchangeWireModel" (80 : Nat) "ExchangeWireModel" "at" "I" ∈ xws := xw 604 (by decide +kernel)
theorem lf_X6_87 : Jvm.Cond.fieldLink "ExchangeWireModel" (87 : Nat) "ExchangeWireModel" "kind" "I" ∈ xws := xw 605 (by decide +kernel)
theorem lf_X6_94 : Jvm.Cond.fieldLink "ExchangeWireModel" (94 : Nat) "ExchangeWireModel" "number" "I" ∈ xws := xw 606 (by decide +kernel)
theorem lf_X6_104 : Jvm.Cond.fieldLink "ExchangeWireModel" (104 : Nat) "ExchangeWireModel" "person" "I" ∈ xws := xw 607 (by decide +kernel)
theorem lf_X6_110 : Jvm.Cond.fieldLink "ExchangeWireModel" (110 : Nat) "ExchangeWireModel" "item" "I" ∈ xws := xw 608 (by decide +kernel)
theorem lf_X6_113 : Jvm.Cond.fieldLink "ExchangeWireModel" (113 : Nat) "ExchangeWireModel" "cents" "I" ∈ xws := xw 609 (by decide +kernel)
theorem lf_X6_148 : Jvm.Cond.fieldLink "ExchangeWireModel" (148 : Nat) "ExchangeWireModel" "verdict" "Z" ∈ xws := xw 610 (by decide +kernel)
theorem lm_L_29 : Jvm.Cond.methodLink "ExchangeWireLaw" (29 : Nat) ({ cls := "ExchangeWireModel", name := "thrown", desc := "()I" } : Jvm.MethodName) ∈ xws := xw 673 (by decide +kernel)
theorem lm_L_22 : Jvm.Cond.methodLink "ExchangeWireLaw" (22 : Nat) ({ cls := "ExchangeWireModel", name := "octet", desc := "(II)I" } : Jvm.MethodName) ∈ xws := xw 677 (by decide +kernel)
theorem lm_X6_171 : Jvm.Cond.methodLink "ExchangeWireModel" (171 : Nat) ({ cls := "ExchangeWireModel", name := "isDevice", desc := "(I)Z" } : Jvm.MethodName) ∈ xws := xw 681 (by decide +kernel)
theorem lm_X6_76 : Jvm.Cond.methodLink "ExchangeWireModel" (76 : Nat) ({ cls := "ExchangeWireModel", name := "in", desc := "(III)Z" } : Jvm.MethodName) ∈ xws := xw 684 (by decide +kernel)
theorem lm_X6_174 : Jvm.Cond.methodLink "ExchangeWireModel" (174 : Nat) ({ cls := "ExchangeWireModel", name := "answers", desc := "(I)V" } : Jvm.MethodName) ∈ xws := xw 687 (by decide +kernel)
theorem lm_X6_131 : Jvm.Cond.methodLink "ExchangeWireModel" (131 : Nat) ({ cls := "ExchangeWireModel", name := "reads", desc := "(I)Z" } : Jvm.MethodName) ∈ xws := xw 691 (by decide +kernel)
theorem lm_X6_83 : Jvm.Cond.methodLink "ExchangeWireModel" (83 : Nat) ({ cls := "ExchangeWireModel", name := "look", desc := "(I)I" } : Jvm.MethodName) ∈ xws := xw 695 (by decide +kernel)
theorem lm_X6_90 : Jvm.Cond.methodLink "ExchangeWireModel" (90 : Nat) ({ cls := "ExchangeWireModel", name := "isKind", desc := "(I)Z" } : Jvm.MethodName) ∈ xws := xw 699 (by decide +kernel)
theorem lm_X6_97 : Jvm.Cond.methodLink "ExchangeWireModel" (97 : Nat) ({ cls := "ExchangeWireModel", name := "hasPerson", desc := "(I)Z" } : Jvm.MethodName) ∈ xws := xw 702 (by decide +kernel)
theorem lm_X6_100 : Jvm.Cond.methodLink "ExchangeWireModel" (100 : Nat) ({ cls := "ExchangeWireModel", name := "field", desc := "(II)I" } : Jvm.MethodName) ∈ xws := xw 705 (by decide +kernel)
theorem lm_X6_107 : Jvm.Cond.methodLink "ExchangeWireModel" (107 : Nat) ({ cls := "ExchangeWireModel", name := "hasItem", desc := "(I)Z" } : Jvm.MethodName) ∈ xws := xw 709 (by decide +kernel)
theorem lm_X6_116 : Jvm.Cond.methodLink "ExchangeWireModel" (116 : Nat) ({ cls := "ExchangeWireModel", name := "hex", desc := "(I)I" } : Jvm.MethodName) ∈ xws := xw 712 (by decide +kernel)
theorem lm_X6_119 : Jvm.Cond.methodLink "ExchangeWireModel" (119 : Nat) ({ cls := "ExchangeWireModel", name := "put", desc := "(II)V" } : Jvm.MethodName) ∈ xws := xw 715 (by decide +kernel)
theorem lm_X6_126 : Jvm.Cond.methodLink "ExchangeWireModel" (126 : Nat) ({ cls := "ExchangeWireModel", name := "close", desc := "(I)V" } : Jvm.MethodName) ∈ xws := xw 719 (by decide +kernel)
theorem lm_X6_123 : Jvm.Cond.methodLink "ExchangeWireModel" (123 : Nat) ({ cls := "ExchangeWireModel", name := "digit", desc := "(I)I" } : Jvm.MethodName) ∈ xws := xw 723 (by decide +kernel)
theorem lm_X6_134 : Jvm.Cond.methodLink "ExchangeWireModel" (134 : Nat) ({ cls := "ExchangeWireModel", name := "finish", desc := "(IZ)V" } : Jvm.MethodName) ∈ xws := xw 726 (by decide +kernel)
theorem lm_X6_138 : Jvm.Cond.methodLink "ExchangeWireModel" (138 : Nat) ({ cls := "ExchangeWireModel", name := "again", desc := "(I)V" } : Jvm.MethodName) ∈ xws := xw 730 (by decide +kernel)
theorem lm_X6_141 : Jvm.Cond.methodLink "ExchangeWireModel" (141 : Nat) ({ cls := "ExchangeWireModel", name := "bad", desc := "()I" } : Jvm.MethodName) ∈ xws := xw 734 (by decide +kernel)
theorem ld_X6_130 : Jvm.Cond.constant "ExchangeWireModel" (130 : Nat) (50000 : Int32) ∈ xws := xw 738 (by decide +kernel)
theorem lm_X6_145 : Jvm.Cond.methodLink "ExchangeWireModel" (145 : Nat) ({ cls := "ExchangeWireModel", name := "judge", desc := "(II)I" } : Jvm.MethodName) ∈ xws := xw 739 (by decide +kernel)
theorem lm_X6_162 : Jvm.Cond.methodLink "ExchangeWireModel" (162 : Nat) ({ cls := "ExchangeWireModel", name := "lends", desc := "(II)I" } : Jvm.MethodName) ∈ xws := xw 743 (by decide +kernel)
theorem lm_X6_155 : Jvm.Cond.methodLink "ExchangeWireModel" (155 : Nat) ({ cls := "ExchangeWireModel", name := "enter", desc := "(IIIII)V" } : Jvm.MethodName) ∈ xws := xw 747 (by decide +kernel)
theorem lm_X6_159 : Jvm.Cond.methodLink "ExchangeWireModel" (159 : Nat) ({ cls := "ExchangeWireModel", name := "items", desc := "(I)I" } : Jvm.MethodName) ∈ xws := xw 751 (by decide +kernel)
theorem lm_X6_165 : Jvm.Cond.methodLink "ExchangeWireModel" (165 : Nat) ({ cls := "ExchangeWireModel", name := "brings", desc := "(II)I" } : Jvm.MethodName) ∈ xws := xw 755 (by decide +kernel)
theorem lm_X6_168 : Jvm.Cond.methodLink "ExchangeWireModel" (168 : Nat) ({ cls := "ExchangeWireModel", name := "placeOf", desc := "(II)I" } : Jvm.MethodName) ∈ xws := xw 759 (by decide +kernel)
theorem lm_L_28 : Jvm.Cond.methodLink "ExchangeWireLaw" (28 : Nat) ({ cls := "ExchangeWireModel", name := "answer", desc := "(II)I" } : Jvm.MethodName) ∈ xws := xw 763 (by decide +kernel)
theorem lm_L_37 : Jvm.Cond.methodLink "ExchangeWireLaw" (37 : Nat) ({ cls := "ExchangeWireModel", name := "reset", desc := "(I)I" } : Jvm.MethodName) ∈ xws := xw 767 (by decide +kernel)
theorem lm_L_42 : Jvm.Cond.methodLink "ExchangeWireLaw" (42 : Nat) ({ cls := "ExchangeWireModel", name := "offline", desc := "(IIII)I" } : Jvm.MethodName) ∈ xws := xw 771 (by decide +kernel)
theorem lm_L_46 : Jvm.Cond.methodLink "ExchangeWireLaw" (46 : Nat) ({ cls := "ExchangeWireModel", name := "join", desc := "(I)I" } : Jvm.MethodName) ∈ xws := xw 775 (by decide +kernel)
theorem lm_L_50 : Jvm.Cond.methodLink "ExchangeWireLaw" (50 : Nat) ({ cls := "ExchangeWireModel", name := "owes", desc := "(II)I" } : Jvm.MethodName) ∈ xws := xw 779 (by decide +kernel)
theorem ld_X6_176 : Jvm.Cond.constant "ExchangeWireModel" (176 : Nat) (100000 : Int32) ∈ xws := xw 783 (by decide +kernel)
theorem lm_L_54 : Jvm.Cond.methodLink "ExchangeWireLaw" (54 : Nat) ({ cls := "ExchangeWireModel", name := "acts", desc := "()I" } : Jvm.MethodName) ∈ xws := xw 784 (by decide +kernel)
theorem lm_L_58 : Jvm.Cond.methodLink "ExchangeWireLaw" (58 : Nat) ({ cls := "ExchangeWireModel", name := "act", desc := "(II)I" } : Jvm.MethodName) ∈ xws := xw 788 (by decide +kernel)
theorem lm_L_62 : Jvm.Cond.methodLink "ExchangeWireLaw" (62 : Nat) ({ cls := "ExchangeWireModel", name := "sum", desc := "(I)I" } : Jvm.MethodName) ∈ xws := xw 792 (by decide +kernel)
theorem lm_L_66 : Jvm.Cond.methodLink "ExchangeWireLaw" (66 : Nat) ({ cls := "ExchangeWireModel", name := "state", desc := "(II)I" } : Jvm.MethodName) ∈ xws := xw 796 (by decide +kernel)
theorem lm_L_70 : Jvm.Cond.methodLink "ExchangeWireLaw" (70 : Nat) ({ cls := "ExchangeWireModel", name := "waits", desc := "(II)I" } : Jvm.MethodName) ∈ xws := xw 800 (by decide +kernel)
end
