/-- a private method of a class that the tables say can be made, by its rows of tables_1 -/
def lw_okq (q : MethodName × Nat) : Prop := (q.1.cls ≠ "java/lang/invoke/MethodHandle" ∧ q.1.cls ≠ "java/lang/invoke/VarHandle") ∧ Cond.instantiable q.1.cls q.2 ∈ tables_1 ∧ Cond.privateMethod q.1 ∈ tables_1 ∧ Cond.instanceMethod q.1 ∈ tables_1
theorem lw_p0 : lw_okq (⟨"GuildFund$History", "stateAt", "(I)LGuildFund$Book;"⟩, 3) := ⟨⟨by decide +kernel, by decide +kernel⟩, List.mem_of_getElem? (i := 168) (by decide +kernel), List.mem_of_getElem? (i := 276) (by decide +kernel), List.mem_of_getElem? (i := 277) (by decide +kernel)⟩
theorem lw_p1 : lw_okq (⟨"GuildFund$Text", "readNumbers", "()V"⟩, 5) := ⟨⟨by decide +kernel, by decide +kernel⟩, List.mem_of_getElem? (i := 188) (by decide +kernel), List.mem_of_getElem? (i := 469) (by decide +kernel), List.mem_of_getElem? (i := 470) (by decide +kernel)⟩
theorem lw_p2 : lw_okq (⟨"GuildFundModel", "know", "()V"⟩, 15) := ⟨⟨by decide +kernel, by decide +kernel⟩, List.mem_of_getElem? (i := 617) (by decide +kernel), List.mem_of_getElem? (i := 688) (by decide +kernel), List.mem_of_getElem? (i := 689) (by decide +kernel)⟩
theorem lw_p3 : lw_okq (⟨"GuildFundModel", "isMember", "(I)Z"⟩, 15) := ⟨⟨by decide +kernel, by decide +kernel⟩, List.mem_of_getElem? (i := 617) (by decide +kernel), List.mem_of_getElem? (i := 707) (by decide +kernel), List.mem_of_getElem? (i := 708) (by decide +kernel)⟩
theorem lw_p4 : lw_okq (⟨"GuildFundModel", "isInvoice", "(I)Z"⟩, 15) := ⟨⟨by decide +kernel, by decide +kernel⟩, List.mem_of_getElem? (i := 617) (by decide +kernel), List.mem_of_getElem? (i := 727) (by decide +kernel), List.mem_of_getElem? (i := 728) (by decide +kernel)⟩
theorem lw_p5 : lw_okq (⟨"GuildFundModel", "mayAhead", "(I)Z"⟩, 15) := ⟨⟨by decide +kernel, by decide +kernel⟩, List.mem_of_getElem? (i := 617) (by decide +kernel), List.mem_of_getElem? (i := 731) (by decide +kernel), List.mem_of_getElem? (i := 732) (by decide +kernel)⟩
theorem lw_p6 : lw_okq (⟨"GuildFundModel", "offerBehind", "(II)I"⟩, 15) := ⟨⟨by decide +kernel, by decide +kernel⟩, List.mem_of_getElem? (i := 617) (by decide +kernel), List.mem_of_getElem? (i := 735) (by decide +kernel), List.mem_of_getElem? (i := 736) (by decide +kernel)⟩
theorem lw_p7 : lw_okq (⟨"GuildFundModel", "rateBehind", "(II)F"⟩, 15) := ⟨⟨by decide +kernel, by decide +kernel⟩, List.mem_of_getElem? (i := 617) (by decide +kernel), List.mem_of_getElem? (i := 739) (by decide +kernel), List.mem_of_getElem? (i := 740) (by decide +kernel)⟩
theorem lw_p8 : lw_okq (⟨"GuildFundModel", "rateOf", "(I)F"⟩, 15) := ⟨⟨by decide +kernel, by decide +kernel⟩, List.mem_of_getElem? (i := 617) (by decide +kernel), List.mem_of_getElem? (i := 743) (by decide +kernel), List.mem_of_getElem? (i := 744) (by decide +kernel)⟩
theorem lw_p9 : lw_okq (⟨"GuildFundModel", "late", "(II)I"⟩, 15) := ⟨⟨by decide +kernel, by decide +kernel⟩, List.mem_of_getElem? (i := 617) (by decide +kernel), List.mem_of_getElem? (i := 747) (by decide +kernel), List.mem_of_getElem? (i := 748) (by decide +kernel)⟩
theorem lw_p10 : lw_okq (⟨"GuildFundModel", "riskOf", "(I)F"⟩, 15) := ⟨⟨by decide +kernel, by decide +kernel⟩, List.mem_of_getElem? (i := 617) (by decide +kernel), List.mem_of_getElem? (i := 751) (by decide +kernel), List.mem_of_getElem? (i := 752) (by decide +kernel)⟩
theorem lw_p11 : lw_okq (⟨"GuildFundModel", "reserve", "()I"⟩, 15) := ⟨⟨by decide +kernel, by decide +kernel⟩, List.mem_of_getElem? (i := 617) (by decide +kernel), List.mem_of_getElem? (i := 758) (by decide +kernel), List.mem_of_getElem? (i := 759) (by decide +kernel)⟩
theorem lw_p12 : lw_okq (⟨"GuildFundModel", "allDues", "()I"⟩, 15) := ⟨⟨by decide +kernel, by decide +kernel⟩, List.mem_of_getElem? (i := 617) (by decide +kernel), List.mem_of_getElem? (i := 762) (by decide +kernel), List.mem_of_getElem? (i := 763) (by decide +kernel)⟩
theorem lw_p13 : lw_okq (⟨"GuildFundModel", "payFault", "(II)I"⟩, 15) := ⟨⟨by decide +kernel, by decide +kernel⟩, List.mem_of_getElem? (i := 617) (by decide +kernel), List.mem_of_getElem? (i := 771) (by decide +kernel), List.mem_of_getElem? (i := 772) (by decide +kernel)⟩
theorem lw_p14 : lw_okq (⟨"GuildFundModel", "pays", "(II)I"⟩, 15) := ⟨⟨by decide +kernel, by decide +kernel⟩, List.mem_of_getElem? (i := 617) (by decide +kernel), List.mem_of_getElem? (i := 775) (by decide +kernel), List.mem_of_getElem? (i := 776) (by decide +kernel)⟩
theorem lw_p15 : lw_okq (⟨"GuildFundModel", "mayGiveUp", "(I)Z"⟩, 15) := ⟨⟨by decide +kernel, by decide +kernel⟩, List.mem_of_getElem? (i := 617) (by decide +kernel), List.mem_of_getElem? (i := 783) (by decide +kernel), List.mem_of_getElem? (i := 784) (by decide +kernel)⟩
def lw_privs_1 : List (MethodName × Nat) := [(⟨"GuildFund$History", "stateAt", "(I)LGuildFund$Book;"⟩, 3), (⟨"GuildFund$Text", "readNumbers", "()V"⟩, 5), (⟨"GuildFundModel", "know", "()V"⟩, 15), (⟨"GuildFundModel", "isMember", "(I)Z"⟩, 15), (⟨"GuildFundModel", "isInvoice", "(I)Z"⟩, 15), (⟨"GuildFundModel", "mayAhead", "(I)Z"⟩, 15), (⟨"GuildFundModel", "offerBehind", "(II)I"⟩, 15), (⟨"GuildFundModel", "rateBehind", "(II)F"⟩, 15), (⟨"GuildFundModel", "rateOf", "(I)F"⟩, 15), (⟨"GuildFundModel", "late", "(II)I"⟩, 15), (⟨"GuildFundModel", "riskOf", "(I)F"⟩, 15), (⟨"GuildFundModel", "reserve", "()I"⟩, 15), (⟨"GuildFundModel", "allDues", "()I"⟩, 15), (⟨"GuildFundModel", "payFault", "(II)I"⟩, 15), (⟨"GuildFundModel", "pays", "(II)I"⟩, 15), (⟨"GuildFundModel", "mayGiveUp", "(I)Z"⟩, 15)]
theorem lw_r1 : ∀ q ∈ lw_privs_1, lw_okq q := List.forall_mem_cons.mpr ⟨lw_p0, List.forall_mem_cons.mpr ⟨lw_p1, List.forall_mem_cons.mpr ⟨lw_p2, List.forall_mem_cons.mpr ⟨lw_p3, List.forall_mem_cons.mpr ⟨lw_p4, List.forall_mem_cons.mpr ⟨lw_p5, List.forall_mem_cons.mpr ⟨lw_p6, List.forall_mem_cons.mpr ⟨lw_p7, List.forall_mem_cons.mpr ⟨lw_p8, List.forall_mem_cons.mpr ⟨lw_p9, List.forall_mem_cons.mpr ⟨lw_p10, List.forall_mem_cons.mpr ⟨lw_p11, List.forall_mem_cons.mpr ⟨lw_p12, List.forall_mem_cons.mpr ⟨lw_p13, List.forall_mem_cons.mpr ⟨lw_p14, List.forall_mem_cons.mpr ⟨lw_p15, fun _ h => absurd h List.not_mem_nil⟩⟩⟩⟩⟩⟩⟩⟩⟩⟩⟩⟩⟩⟩⟩⟩
theorem lw_p16 : lw_okq (⟨"GuildFundModel", "share", "(I)V"⟩, 15) := ⟨⟨by decide +kernel, by decide +kernel⟩, List.mem_of_getElem? (i := 617) (by decide +kernel), List.mem_of_getElem? (i := 787) (by decide +kernel), List.mem_of_getElem? (i := 788) (by decide +kernel)⟩
theorem lw_p17 : lw_okq (⟨"GuildFundModel", "go", "(Z)I"⟩, 15) := ⟨⟨by decide +kernel, by decide +kernel⟩, List.mem_of_getElem? (i := 617) (by decide +kernel), List.mem_of_getElem? (i := 795) (by decide +kernel), List.mem_of_getElem? (i := 796) (by decide +kernel)⟩
theorem lw_p18 : lw_okq (⟨"GuildFundModel", "number", "(II)I"⟩, 15) := ⟨⟨by decide +kernel, by decide +kernel⟩, List.mem_of_getElem? (i := 617) (by decide +kernel), List.mem_of_getElem? (i := 799) (by decide +kernel), List.mem_of_getElem? (i := 800) (by decide +kernel)⟩
theorem lw_p19 : lw_okq (⟨"GuildFundModel", "sign", "(II)I"⟩, 15) := ⟨⟨by decide +kernel, by decide +kernel⟩, List.mem_of_getElem? (i := 617) (by decide +kernel), List.mem_of_getElem? (i := 803) (by decide +kernel), List.mem_of_getElem? (i := 804) (by decide +kernel)⟩
theorem lw_p20 : lw_okq (⟨"GuildFundModel", "swap", "()V"⟩, 15) := ⟨⟨by decide +kernel, by decide +kernel⟩, List.mem_of_getElem? (i := 617) (by decide +kernel), List.mem_of_getElem? (i := 807) (by decide +kernel), List.mem_of_getElem? (i := 808) (by decide +kernel)⟩
theorem lw_p21 : lw_okq (⟨"GuildFundModel", "invoices", "(IIII)I"⟩, 15) := ⟨⟨by decide +kernel, by decide +kernel⟩, List.mem_of_getElem? (i := 617) (by decide +kernel), List.mem_of_getElem? (i := 857) (by decide +kernel), List.mem_of_getElem? (i := 858) (by decide +kernel)⟩
theorem lw_p22 : lw_okq (⟨"GuildFundModel", "worthOf", "(I)F"⟩, 15) := ⟨⟨by decide +kernel, by decide +kernel⟩, List.mem_of_getElem? (i := 617) (by decide +kernel), List.mem_of_getElem? (i := 886) (by decide +kernel), List.mem_of_getElem? (i := 887) (by decide +kernel)⟩
def lw_privs_2 : List (MethodName × Nat) := [(⟨"GuildFundModel", "share", "(I)V"⟩, 15), (⟨"GuildFundModel", "go", "(Z)I"⟩, 15), (⟨"GuildFundModel", "number", "(II)I"⟩, 15), (⟨"GuildFundModel", "sign", "(II)I"⟩, 15), (⟨"GuildFundModel", "swap", "()V"⟩, 15), (⟨"GuildFundModel", "invoices", "(IIII)I"⟩, 15), (⟨"GuildFundModel", "worthOf", "(I)F"⟩, 15)]
theorem lw_r2 : ∀ q ∈ lw_privs_2, lw_okq q := List.forall_mem_cons.mpr ⟨lw_p16, List.forall_mem_cons.mpr ⟨lw_p17, List.forall_mem_cons.mpr ⟨lw_p18, List.forall_mem_cons.mpr ⟨lw_p19, List.forall_mem_cons.mpr ⟨lw_p20, List.forall_mem_cons.mpr ⟨lw_p21, List.forall_mem_cons.mpr ⟨lw_p22, fun _ h => absurd h List.not_mem_nil⟩⟩⟩⟩⟩⟩⟩
def lw_privs : List (MethodName × Nat) := lw_privs_1 ++ (lw_privs_2)
def lw_tbl : List Cond := k2_sels lw_privs ++ tables_1
theorem lw_privs_ok : ∀ q ∈ lw_privs, lw_okq q := by
  show ∀ q ∈ lw_privs_1 ++ (lw_privs_2), lw_okq q
  exact List.forall_mem_append.mpr ⟨lw_r1, lw_r2⟩
/-- the streams that the claim lets the run draw from -/
abbrev lw_cs : List Choice := [Jvm.Choice.named "NaN.bits"]
theorem lw_bits : nanBits ∈ lw_cs := by first | decide | exact List.mem_cons_self | simp [lw_cs, nanBits]
def RX0 : String := "GuildFund$Book"
def TX0 : u_T := fun k => match k with
  | 0 => ("GuildFund$Book", "members", "LGuildFund$Members;", true)
  | 1 => ("GuildFund$Book", "clients", "LGuildFund$Clients;", true)
  | 2 => ("GuildFund$Book", "invoices", "LGuildFund$Invoices;", true)
  | 3 => ("GuildFund$Book", "rates", "[F", true)
  | 4 => ("GuildFund$Book", "numbers", "[I", true)
  | 5 => ("GuildFund$Book", "day", "I", false)
  | 6 => ("GuildFund$Book", "balance", "I", false)
  | 7 => ("GuildFund$Book", "advanced", "I", false)
  | 8 => ("GuildFund$Book", "collected", "I", false)
  | 9 => ("GuildFund$Book", "passedOn", "I", false)
  | _ => ("GuildFund$Book", "shared", "I", false)
def tyX0 : Nat → FieldType := fun k => match k with
  | 0 => .object "GuildFund$Members"
  | 1 => .object "GuildFund$Clients"
  | 2 => .object "GuildFund$Invoices"
  | 3 => .array .float
  | 4 => .array .int
  | 5 => .int
  | 6 => .int
  | 7 => .int
  | 8 => .int
  | 9 => .int
  | _ => .int
abbrev wsX00 : List Cond := u_ws RX0 TX0 11
theorem nmX0 : ∀ a, a < 11 → ∀ b, b < 11 → a ≠ b → (TX0 a).2.1 ≠ (TX0 b).2.1 := by decide +kernel
theorem tyX0_ok : ∀ k, k < 11 → parseFieldDescriptor (TX0 k).2.2.1 = some (tyX0 k) := by decide +kernel
abbrev cX0_init : ByteArray := prog_2_method_1_code
def yX0_init : MethodName := ⟨RX0, "<init>", "()V"⟩
abbrev cX0_reserveCents : ByteArray := prog_2_method_2_code
def yX0_reserveCents : MethodName := ⟨RX0, "reserveCents", "()I"⟩
abbrev cX0_ageOf : ByteArray := prog_2_method_3_code
def yX0_ageOf : MethodName := ⟨RX0, "ageOf", "(I)I"⟩
abbrev cX0_lateAfter : ByteArray := prog_2_method_4_code
def yX0_lateAfter : MethodName := ⟨RX0, "lateAfter", "(II)I"⟩
abbrev cX0_rateAfter : ByteArray := prog_2_method_5_code
def yX0_rateAfter : MethodName := ⟨RX0, "rateAfter", "(II)F"⟩
abbrev cX0_offerAfter : ByteArray := prog_2_method_6_code
def yX0_offerAfter : MethodName := ⟨RX0, "offerAfter", "(II)I"⟩
abbrev cX0_worthOf : ByteArray := prog_2_method_7_code
def yX0_worthOf : MethodName := ⟨RX0, "worthOf", "(I)F"⟩
abbrev cX0_canPayAhead : ByteArray := prog_2_method_8_code
def yX0_canPayAhead : MethodName := ⟨RX0, "canPayAhead", "(I)Z"⟩
abbrev cX0_canGiveUp : ByteArray := prog_2_method_9_code
def yX0_canGiveUp : MethodName := ⟨RX0, "canGiveUp", "(I)Z"⟩
abbrev cX0_advance : ByteArray := prog_2_method_10_code
def yX0_advance : MethodName := ⟨RX0, "advance", "(I)I"⟩
abbrev cX0_errorOfPayment : ByteArray := prog_2_method_11_code
def yX0_errorOfPayment : MethodName := ⟨RX0, "errorOfPayment", "(II)I"⟩
abbrev cX0_collect : ByteArray := prog_2_method_12_code
def yX0_collect : MethodName := ⟨RX0, "collect", "(II)I"⟩
abbrev cX0_settle : ByteArray := prog_2_method_13_code
def yX0_settle : MethodName := ⟨RX0, "settle", "(I)V"⟩
abbrev cX0_passOn : ByteArray := prog_2_method_14_code
def yX0_passOn : MethodName := ⟨RX0, "passOn", "(I)V"⟩
abbrev cX0_lose : ByteArray := prog_2_method_15_code
def yX0_lose : MethodName := ⟨RX0, "lose", "(I)I"⟩
abbrev cX0_share : ByteArray := prog_2_method_16_code
def yX0_share : MethodName := ⟨RX0, "share", "(I)V"⟩
abbrev cX0_copyFrom : ByteArray := prog_2_method_17_code
def yX0_copyFrom : MethodName := ⟨RX0, "copyFrom", "(LGuildFund$Book;)V"⟩
def RX1 : String := "GuildFund$Clients"
def TX1 : u_T := fun k => match k with
  | 0 => ("GuildFund$Clients", "settled", "[I", true)
  | 1 => ("GuildFund$Clients", "lost", "[I", true)
  | _ => ("GuildFund$Clients", "daysLate", "[I", true)
def tyX1 : Nat → FieldType := fun k => match k with
  | 0 => .array .int
  | 1 => .array .int
  | _ => .array .int
abbrev wsX10 : List Cond := u_ws RX1 TX1 3
theorem nmX1 : ∀ a, a < 3 → ∀ b, b < 3 → a ≠ b → (TX1 a).2.1 ≠ (TX1 b).2.1 := by decide +kernel
theorem tyX1_ok : ∀ k, k < 3 → parseFieldDescriptor (TX1 k).2.2.1 = some (tyX1 k) := by decide +kernel
abbrev cX1_init : ByteArray := prog_3_method_1_code
def yX1_init : MethodName := ⟨RX1, "<init>", "()V"⟩
abbrev cX1_has : ByteArray := prog_3_method_2_code
def yX1_has : MethodName := ⟨RX1, "has", "(I)Z"⟩
abbrev cX1_riskOf : ByteArray := prog_3_method_3_code
def yX1_riskOf : MethodName := ⟨RX1, "riskOf", "(I)F"⟩
abbrev cX1_latenessOf : ByteArray := prog_3_method_4_code
def yX1_latenessOf : MethodName := ⟨RX1, "latenessOf", "(I)F"⟩
abbrev cX1_addSettled : ByteArray := prog_3_method_5_code
def yX1_addSettled : MethodName := ⟨RX1, "addSettled", "(II)V"⟩
abbrev cX1_addLost : ByteArray := prog_3_method_6_code
def yX1_addLost : MethodName := ⟨RX1, "addLost", "(I)V"⟩
abbrev cX1_copyFrom : ByteArray := prog_3_method_7_code
def yX1_copyFrom : MethodName := ⟨RX1, "copyFrom", "(LGuildFund$Clients;)V"⟩
def RX2 : String := "GuildFund$History"
def TX2 : u_T := fun k => match k with
  | 0 => ("GuildFund$History", "states", "[LGuildFund$Book;", true)
  | 1 => ("GuildFund$History", "next", "I", false)
  | _ => ("GuildFund$History", "size", "I", false)
def tyX2 : Nat → FieldType := fun k => match k with
  | 0 => .array (.object "GuildFund$Book")
  | 1 => .int
  | _ => .int
abbrev wsX20 : List Cond := u_ws RX2 TX2 3
theorem nmX2 : ∀ a, a < 3 → ∀ b, b < 3 → a ≠ b → (TX2 a).2.1 ≠ (TX2 b).2.1 := by decide +kernel
theorem tyX2_ok : ∀ k, k < 3 → parseFieldDescriptor (TX2 k).2.2.1 = some (tyX2 k) := by decide +kernel
abbrev cX2_init : ByteArray := prog_4_method_1_code
def yX2_init : MethodName := ⟨RX2, "<init>", "()V"⟩
abbrev cX2_push : ByteArray := prog_4_method_2_code
def yX2_push : MethodName := ⟨RX2, "push", "(LGuildFund$Book;)V"⟩
abbrev cX2_popInto : ByteArray := prog_4_method_3_code
def yX2_popInto : MethodName := ⟨RX2, "popInto", "(LGuildFund$Book;)V"⟩
abbrev cX2_stateAt : ByteArray := prog_4_method_4_code
def yX2_stateAt : MethodName := ⟨RX2, "stateAt", "(I)LGuildFund$Book;"⟩
abbrev cX2_copy : ByteArray := prog_4_method_5_code
def yX2_copy : MethodName := ⟨RX2, "copy", "(LGuildFund$Book;LGuildFund$Book;)V"⟩
def RX3 : String := "GuildFund$Invoices"
def TX3 : u_T := fun k => match k with
  | 0 => ("GuildFund$Invoices", "member", "[I", true)
  | 1 => ("GuildFund$Invoices", "client", "[I", true)
  | 2 => ("GuildFund$Invoices", "amount", "[I", true)
  | 3 => ("GuildFund$Invoices", "due", "[I", true)
  | 4 => ("GuildFund$Invoices", "state", "[I", true)
  | 5 => ("GuildFund$Invoices", "paid", "[I", true)
  | 6 => ("GuildFund$Invoices", "advance", "[I", true)
  | _ => ("GuildFund$Invoices", "size", "I", false)
def tyX3 : Nat → FieldType := fun k => match k with
  | 0 => .array .int
  | 1 => .array .int
  | 2 => .array .int
  | 3 => .array .int
  | 4 => .array .int
  | 5 => .array .int
  | 6 => .array .int
  | _ => .int
abbrev wsX30 : List Cond := u_ws RX3 TX3 8
theorem nmX3 : ∀ a, a < 8 → ∀ b, b < 8 → a ≠ b → (TX3 a).2.1 ≠ (TX3 b).2.1 := by decide +kernel
theorem tyX3_ok : ∀ k, k < 8 → parseFieldDescriptor (TX3 k).2.2.1 = some (tyX3 k) := by decide +kernel
abbrev cX3_init : ByteArray := prog_5_method_1_code
def yX3_init : MethodName := ⟨RX3, "<init>", "()V"⟩
abbrev cX3_has : ByteArray := prog_5_method_2_code
def yX3_has : MethodName := ⟨RX3, "has", "(I)Z"⟩
abbrev cX3_append : ByteArray := prog_5_method_3_code
def yX3_append : MethodName := ⟨RX3, "append", "(IIII)I"⟩
abbrev cX3_isUnsettled : ByteArray := prog_5_method_4_code
def yX3_isUnsettled : MethodName := ⟨RX3, "isUnsettled", "(I)Z"⟩
abbrev cX3_countOfMember : ByteArray := prog_5_method_5_code
def yX3_countOfMember : MethodName := ⟨RX3, "countOfMember", "(I)I"⟩
abbrev cX3_countOfMemberAhead : ByteArray := prog_5_method_6_code
def yX3_countOfMemberAhead : MethodName := ⟨RX3, "countOfMemberAhead", "(I)I"⟩
abbrev cX3_countOfClientUnsettled : ByteArray := prog_5_method_7_code
def yX3_countOfClientUnsettled : MethodName := ⟨RX3, "countOfClientUnsettled", "(I)I"⟩
abbrev cX3_countOfState : ByteArray := prog_5_method_8_code
def yX3_countOfState : MethodName := ⟨RX3, "countOfState", "(I)I"⟩
abbrev cX3_advancesOut : ByteArray := prog_5_method_9_code
def yX3_advancesOut : MethodName := ⟨RX3, "advancesOut", "()I"⟩
abbrev cX3_copyFrom : ByteArray := prog_5_method_10_code
def yX3_copyFrom : MethodName := ⟨RX3, "copyFrom", "(LGuildFund$Invoices;)V"⟩
def RX4 : String := "GuildFund$Members"
def TX4 : u_T := fun k => match k with
  | 0 => ("GuildFund$Members", "weight", "[I", true)
  | 1 => ("GuildFund$Members", "dues", "[I", true)
  | 2 => ("GuildFund$Members", "purse", "[I", true)
  | 3 => ("GuildFund$Members", "borne", "[I", true)
  | _ => ("GuildFund$Members", "size", "I", false)
def tyX4 : Nat → FieldType := fun k => match k with
  | 0 => .array .int
  | 1 => .array .int
  | 2 => .array .int
  | 3 => .array .int
  | _ => .int
abbrev wsX40 : List Cond := u_ws RX4 TX4 5
theorem nmX4 : ∀ a, a < 5 → ∀ b, b < 5 → a ≠ b → (TX4 a).2.1 ≠ (TX4 b).2.1 := by decide +kernel
theorem tyX4_ok : ∀ k, k < 5 → parseFieldDescriptor (TX4 k).2.2.1 = some (tyX4 k) := by decide +kernel
abbrev cX4_init : ByteArray := prog_6_method_1_code
def yX4_init : MethodName := ⟨RX4, "<init>", "()V"⟩
abbrev cX4_has : ByteArray := prog_6_method_2_code
def yX4_has : MethodName := ⟨RX4, "has", "(I)Z"⟩
abbrev cX4_append : ByteArray := prog_6_method_3_code
def yX4_append : MethodName := ⟨RX4, "append", "(I)I"⟩
abbrev cX4_intoPurse : ByteArray := prog_6_method_4_code
def yX4_intoPurse : MethodName := ⟨RX4, "intoPurse", "(II)V"⟩
abbrev cX4_bear : ByteArray := prog_6_method_5_code
def yX4_bear : MethodName := ⟨RX4, "bear", "(II)V"⟩
abbrev cX4_allDues : ByteArray := prog_6_method_6_code
def yX4_allDues : MethodName := ⟨RX4, "allDues", "()I"⟩
abbrev cX4_allWeights : ByteArray := prog_6_method_7_code
def yX4_allWeights : MethodName := ⟨RX4, "allWeights", "()I"⟩
abbrev cX4_copyFrom : ByteArray := prog_6_method_8_code
def yX4_copyFrom : MethodName := ⟨RX4, "copyFrom", "(LGuildFund$Members;)V"⟩
def RX5 : String := "GuildFund$Ranking"
def TX5 : u_T := fun k => match k with
  | 0 => ("GuildFund$Ranking", "invoices", "[I", true)
  | 1 => ("GuildFund$Ranking", "worths", "[F", true)
  | _ => ("GuildFund$Ranking", "size", "I", false)
def tyX5 : Nat → FieldType := fun k => match k with
  | 0 => .array .int
  | 1 => .array .float
  | _ => .int
abbrev wsX50 : List Cond := u_ws RX5 TX5 3
theorem nmX5 : ∀ a, a < 3 → ∀ b, b < 3 → a ≠ b → (TX5 a).2.1 ≠ (TX5 b).2.1 := by decide +kernel
theorem tyX5_ok : ∀ k, k < 3 → parseFieldDescriptor (TX5 k).2.2.1 = some (tyX5 k) := by decide +kernel
abbrev cX5_init : ByteArray := prog_7_method_1_code
def yX5_init : MethodName := ⟨RX5, "<init>", "()V"⟩
abbrev cX5_insert : ByteArray := prog_7_method_2_code
def yX5_insert : MethodName := ⟨RX5, "insert", "(IF)V"⟩
abbrev cX5_invoiceAt : ByteArray := prog_7_method_3_code
def yX5_invoiceAt : MethodName := ⟨RX5, "invoiceAt", "(I)I"⟩
def RX6 : String := "GuildFund$Text"
def TX6 : u_T := fun k => match k with
  | 0 => ("GuildFund$Text", "signs", "[C", true)
  | 1 => ("GuildFund$Text", "invoices", "[I", true)
  | 2 => ("GuildFund$Text", "cents", "[I", true)
  | 3 => ("GuildFund$Text", "length", "I", false)
  | _ => ("GuildFund$Text", "payments", "I", false)
def tyX6 : Nat → FieldType := fun k => match k with
  | 0 => .array .char
  | 1 => .array .int
  | 2 => .array .int
  | 3 => .int
  | _ => .int
abbrev wsX60 : List Cond := u_ws RX6 TX6 5
theorem nmX6 : ∀ a, a < 5 → ∀ b, b < 5 → a ≠ b → (TX6 a).2.1 ≠ (TX6 b).2.1 := by decide +kernel
theorem tyX6_ok : ∀ k, k < 5 → parseFieldDescriptor (TX6 k).2.2.1 = some (tyX6 k) := by decide +kernel
abbrev cX6_init : ByteArray := prog_8_method_1_code
def yX6_init : MethodName := ⟨RX6, "<init>", "()V"⟩
abbrev cX6_append : ByteArray := prog_8_method_2_code
def yX6_append : MethodName := ⟨RX6, "append", "(C)I"⟩
abbrev cX6_invoiceOf : ByteArray := prog_8_method_3_code
def yX6_invoiceOf : MethodName := ⟨RX6, "invoiceOf", "(I)I"⟩
abbrev cX6_centsOf : ByteArray := prog_8_method_4_code
def yX6_centsOf : MethodName := ⟨RX6, "centsOf", "(I)I"⟩
abbrev cX6_read : ByteArray := prog_8_method_5_code
def yX6_read : MethodName := ⟨RX6, "read", "()I"⟩
abbrev cX6_placeBehind : ByteArray := prog_8_method_6_code
def yX6_placeBehind : MethodName := ⟨RX6, "placeBehind", "(IC)I"⟩
abbrev cX6_readNumbers : ByteArray := prog_8_method_7_code
def yX6_readNumbers : MethodName := ⟨RX6, "readNumbers", "()V"⟩
def RX7 : String := "GuildFund"
def TX7 : u_T := fun k => match k with
  | 0 => ("GuildFund", "now", "LGuildFund$Book;", true)
  | 1 => ("GuildFund", "before", "LGuildFund$Book;", true)
  | 2 => ("GuildFund", "snapshot", "LGuildFund$Book;", true)
  | 3 => ("GuildFund", "history", "LGuildFund$History;", true)
  | 4 => ("GuildFund", "text", "LGuildFund$Text;", true)
  | 5 => ("GuildFund", "ranking", "LGuildFund$Ranking;", true)
  | 6 => ("GuildFund", "kept", "Z", false)
  | 7 => ("GuildFund", "refusedPayment", "I", false)
  | _ => ("GuildFund", "refusedError", "I", false)
def tyX7 : Nat → FieldType := fun k => match k with
  | 0 => .object "GuildFund$Book"
  | 1 => .object "GuildFund$Book"
  | 2 => .object "GuildFund$Book"
  | 3 => .object "GuildFund$History"
  | 4 => .object "GuildFund$Text"
  | 5 => .object "GuildFund$Ranking"
  | 6 => .boolean
  | 7 => .int
  | _ => .int
abbrev wsX70 : List Cond := u_ws RX7 TX7 9
theorem nmX7 : ∀ a, a < 9 → ∀ b, b < 9 → a ≠ b → (TX7 a).2.1 ≠ (TX7 b).2.1 := by decide +kernel
theorem tyX7_ok : ∀ k, k < 9 → parseFieldDescriptor (TX7 k).2.2.1 = some (tyX7 k) := by decide +kernel
abbrev cX7_init : ByteArray := prog_1_method_1_code
def yX7_init : MethodName := ⟨RX7, "<init>", "()V"⟩
abbrev cX7_setRate : ByteArray := prog_1_method_2_code
def yX7_setRate : MethodName := ⟨RX7, "setRate", "(II)I"⟩
abbrev cX7_setNumber : ByteArray := prog_1_method_3_code
def yX7_setNumber : MethodName := ⟨RX7, "setNumber", "(II)I"⟩
abbrev cX7_addMember : ByteArray := prog_1_method_4_code
def yX7_addMember : MethodName := ⟨RX7, "addMember", "(I)I"⟩
abbrev cX7_payDues : ByteArray := prog_1_method_5_code
def yX7_payDues : MethodName := ⟨RX7, "payDues", "(II)I"⟩
abbrev cX7_addInvoice : ByteArray := prog_1_method_6_code
def yX7_addInvoice : MethodName := ⟨RX7, "addInvoice", "(IIII)I"⟩
abbrev cX7_payAhead : ByteArray := prog_1_method_7_code
def yX7_payAhead : MethodName := ⟨RX7, "payAhead", "(I)I"⟩
abbrev cX7_pay : ByteArray := prog_1_method_8_code
def yX7_pay : MethodName := ⟨RX7, "pay", "(II)I"⟩
abbrev cX7_giveUp : ByteArray := prog_1_method_9_code
def yX7_giveUp : MethodName := ⟨RX7, "giveUp", "(I)I"⟩
abbrev cX7_readPayments : ByteArray := prog_1_method_10_code
def yX7_readPayments : MethodName := ⟨RX7, "readPayments", "()I"⟩
abbrev cX7_refusal : ByteArray := prog_1_method_11_code
def yX7_refusal : MethodName := ⟨RX7, "refusal", "(I)I"⟩
abbrev cX7_pass : ByteArray := prog_1_method_12_code
def yX7_pass : MethodName := ⟨RX7, "pass", "(I)I"⟩
abbrev cX7_type : ByteArray := prog_1_method_13_code
def yX7_type : MethodName := ⟨RX7, "type", "(C)I"⟩
abbrev cX7_clearText : ByteArray := prog_1_method_14_code
def yX7_clearText : MethodName := ⟨RX7, "clearText", "()I"⟩
abbrev cX7_undo : ByteArray := prog_1_method_15_code
def yX7_undo : MethodName := ⟨RX7, "undo", "()I"⟩
abbrev cX7_keep : ByteArray := prog_1_method_16_code
def yX7_keep : MethodName := ⟨RX7, "keep", "()I"⟩
abbrev cX7_restore : ByteArray := prog_1_method_17_code
def yX7_restore : MethodName := ⟨RX7, "restore", "()I"⟩
abbrev cX7_rate : ByteArray := prog_1_method_18_code
def yX7_rate : MethodName := ⟨RX7, "rate", "(I)F"⟩
abbrev cX7_number : ByteArray := prog_1_method_19_code
def yX7_number : MethodName := ⟨RX7, "number", "(I)I"⟩
abbrev cX7_member : ByteArray := prog_1_method_20_code
def yX7_member : MethodName := ⟨RX7, "member", "(II)I"⟩
abbrev cX7_client : ByteArray := prog_1_method_21_code
def yX7_client : MethodName := ⟨RX7, "client", "(II)I"⟩
abbrev cX7_risk : ByteArray := prog_1_method_22_code
def yX7_risk : MethodName := ⟨RX7, "risk", "(I)F"⟩
abbrev cX7_lateness : ByteArray := prog_1_method_23_code
def yX7_lateness : MethodName := ⟨RX7, "lateness", "(I)F"⟩
abbrev cX7_invoice : ByteArray := prog_1_method_24_code
def yX7_invoice : MethodName := ⟨RX7, "invoice", "(II)I"⟩
abbrev cX7_rateIn : ByteArray := prog_1_method_25_code
def yX7_rateIn : MethodName := ⟨RX7, "rateIn", "(II)F"⟩
abbrev cX7_worth : ByteArray := prog_1_method_26_code
def yX7_worth : MethodName := ⟨RX7, "worth", "(I)F"⟩
abbrev cX7_best : ByteArray := prog_1_method_27_code
def yX7_best : MethodName := ⟨RX7, "best", "(I)I"⟩
abbrev cX7_worthlessIn : ByteArray := prog_1_method_28_code
def yX7_worthlessIn : MethodName := ⟨RX7, "worthlessIn", "(I)I"⟩
abbrev cX7_exposure : ByteArray := prog_1_method_29_code
def yX7_exposure : MethodName := ⟨RX7, "exposure", "()F"⟩
abbrev cX7_count : ByteArray := prog_1_method_30_code
def yX7_count : MethodName := ⟨RX7, "count", "(I)I"⟩
abbrev cX7_noNumber : ByteArray := prog_1_method_31_code
def yX7_noNumber : MethodName := ⟨RX7, "noNumber", "()F"⟩
abbrev cX7_floatOf : ByteArray := prog_1_method_32_code
def yX7_floatOf : MethodName := ⟨RX7, "floatOf", "(I)F"⟩
abbrev cX7_copyRow : ByteArray := prog_1_method_33_code
def yX7_copyRow : MethodName := ⟨RX7, "copyRow", "([I[I)V"⟩
def RX8 : String := "GuildFundModel"
def TX8 : u_T := fun k => match k with
  | 0 => ("GuildFundModel", "s", "[I", true)
  | 1 => ("GuildFundModel", "aside", "[I", true)
  | 2 => ("GuildFundModel", "before", "[I", true)
  | 3 => ("GuildFundModel", "known", "I", false)
  | 4 => ("GuildFundModel", "kept", "[I", true)
  | 5 => ("GuildFundModel", "isKept", "Z", false)
  | 6 => ("GuildFundModel", "text", "[I", true)
  | 7 => ("GuildFundModel", "typed", "I", false)
  | 8 => ("GuildFundModel", "refusedAt", "I", false)
  | 9 => ("GuildFundModel", "refusedBy", "I", false)
  | 10 => ("GuildFundModel", "shares", "[I", true)
  | 11 => ("GuildFundModel", "at", "I", false)
  | 12 => ("GuildFundModel", "isWrong", "Z", false)
  | 13 => ("GuildFundModel", "settled", "I", false)
  | _ => ("GuildFundModel", "fault", "I", false)
def tyX8 : Nat → FieldType := fun k => match k with
  | 0 => .array .int
  | 1 => .array .int
  | 2 => .array .int
  | 3 => .int
  | 4 => .array .int
  | 5 => .boolean
  | 6 => .array .int
  | 7 => .int
  | 8 => .int
  | 9 => .int
  | 10 => .array .int
  | 11 => .int
  | 12 => .boolean
  | 13 => .int
  | _ => .int
abbrev wsX80 : List Cond := u_ws RX8 TX8 15
theorem nmX8 : ∀ a, a < 15 → ∀ b, b < 15 → a ≠ b → (TX8 a).2.1 ≠ (TX8 b).2.1 := by decide +kernel
theorem tyX8_ok : ∀ k, k < 15 → parseFieldDescriptor (TX8 k).2.2.1 = some (tyX8 k) := by decide +kernel
abbrev cX8_init : ByteArray := prog_10_method_1_code
def yX8_init : MethodName := ⟨RX8, "<init>", "()V"⟩
abbrev cX8_in : ByteArray := prog_10_method_3_code
def yX8_in : MethodName := ⟨RX8, "in", "(III)Z"⟩
abbrev cX8_of : ByteArray := prog_10_method_4_code
def yX8_of : MethodName := ⟨RX8, "of", "(II)I"⟩
abbrev cX8_ofMember : ByteArray := prog_10_method_5_code
def yX8_ofMember : MethodName := ⟨RX8, "ofMember", "(II)I"⟩
abbrev cX8_ofClient : ByteArray := prog_10_method_6_code
def yX8_ofClient : MethodName := ⟨RX8, "ofClient", "(II)I"⟩
abbrev cX8_isMember : ByteArray := prog_10_method_7_code
def yX8_isMember : MethodName := ⟨RX8, "isMember", "(I)Z"⟩
abbrev cX8_isInvoice : ByteArray := prog_10_method_8_code
def yX8_isInvoice : MethodName := ⟨RX8, "isInvoice", "(I)Z"⟩
abbrev cX8_isClient : ByteArray := prog_10_method_9_code
def yX8_isClient : MethodName := ⟨RX8, "isClient", "(I)Z"⟩
abbrev cX8_know : ByteArray := prog_10_method_10_code
def yX8_know : MethodName := ⟨RX8, "know", "()V"⟩
abbrev cX8_nan : ByteArray := prog_10_method_11_code
def yX8_nan : MethodName := ⟨RX8, "nan", "()F"⟩
abbrev cX8_ofBits : ByteArray := prog_10_method_12_code
def yX8_ofBits : MethodName := ⟨RX8, "ofBits", "(I)F"⟩
abbrev cX8_rateOf : ByteArray := prog_10_method_13_code
def yX8_rateOf : MethodName := ⟨RX8, "rateOf", "(I)F"⟩
abbrev cX8_riskOf : ByteArray := prog_10_method_14_code
def yX8_riskOf : MethodName := ⟨RX8, "riskOf", "(I)F"⟩
abbrev cX8_late : ByteArray := prog_10_method_15_code
def yX8_late : MethodName := ⟨RX8, "late", "(II)I"⟩
abbrev cX8_rateBehind : ByteArray := prog_10_method_16_code
def yX8_rateBehind : MethodName := ⟨RX8, "rateBehind", "(II)F"⟩
abbrev cX8_offerBehind : ByteArray := prog_10_method_17_code
def yX8_offerBehind : MethodName := ⟨RX8, "offerBehind", "(II)I"⟩
abbrev cX8_worthOf : ByteArray := prog_10_method_18_code
def yX8_worthOf : MethodName := ⟨RX8, "worthOf", "(I)F"⟩
abbrev cX8_setRate : ByteArray := prog_10_method_19_code
def yX8_setRate : MethodName := ⟨RX8, "setRate", "(II)I"⟩
abbrev cX8_setNumber : ByteArray := prog_10_method_20_code
def yX8_setNumber : MethodName := ⟨RX8, "setNumber", "(II)I"⟩
abbrev cX8_addMember : ByteArray := prog_10_method_21_code
def yX8_addMember : MethodName := ⟨RX8, "addMember", "(I)I"⟩
abbrev cX8_payDues : ByteArray := prog_10_method_22_code
def yX8_payDues : MethodName := ⟨RX8, "payDues", "(II)I"⟩
abbrev cX8_addInvoice : ByteArray := prog_10_method_23_code
def yX8_addInvoice : MethodName := ⟨RX8, "addInvoice", "(IIII)I"⟩
abbrev cX8_allDues : ByteArray := prog_10_method_24_code
def yX8_allDues : MethodName := ⟨RX8, "allDues", "()I"⟩
abbrev cX8_reserve : ByteArray := prog_10_method_25_code
def yX8_reserve : MethodName := ⟨RX8, "reserve", "()I"⟩
abbrev cX8_mayAhead : ByteArray := prog_10_method_26_code
def yX8_mayAhead : MethodName := ⟨RX8, "mayAhead", "(I)Z"⟩
abbrev cX8_payAhead : ByteArray := prog_10_method_27_code
def yX8_payAhead : MethodName := ⟨RX8, "payAhead", "(I)I"⟩
abbrev cX8_payFault : ByteArray := prog_10_method_28_code
def yX8_payFault : MethodName := ⟨RX8, "payFault", "(II)I"⟩
abbrev cX8_pays : ByteArray := prog_10_method_29_code
def yX8_pays : MethodName := ⟨RX8, "pays", "(II)I"⟩
abbrev cX8_pay : ByteArray := prog_10_method_30_code
def yX8_pay : MethodName := ⟨RX8, "pay", "(II)I"⟩
abbrev cX8_mayGiveUp : ByteArray := prog_10_method_31_code
def yX8_mayGiveUp : MethodName := ⟨RX8, "mayGiveUp", "(I)Z"⟩
abbrev cX8_share : ByteArray := prog_10_method_32_code
def yX8_share : MethodName := ⟨RX8, "share", "(I)V"⟩
abbrev cX8_giveUp : ByteArray := prog_10_method_33_code
def yX8_giveUp : MethodName := ⟨RX8, "giveUp", "(I)I"⟩
abbrev cX8_sign : ByteArray := prog_10_method_34_code
def yX8_sign : MethodName := ⟨RX8, "sign", "(II)I"⟩
abbrev cX8_number : ByteArray := prog_10_method_35_code
def yX8_number : MethodName := ⟨RX8, "number", "(II)I"⟩
abbrev cX8_go : ByteArray := prog_10_method_36_code
def yX8_go : MethodName := ⟨RX8, "go", "(Z)I"⟩
abbrev cX8_swap : ByteArray := prog_10_method_37_code
def yX8_swap : MethodName := ⟨RX8, "swap", "()V"⟩
abbrev cX8_readPayments : ByteArray := prog_10_method_38_code
def yX8_readPayments : MethodName := ⟨RX8, "readPayments", "()I"⟩
abbrev cX8_refusal : ByteArray := prog_10_method_39_code
def yX8_refusal : MethodName := ⟨RX8, "refusal", "(I)I"⟩
abbrev cX8_pass : ByteArray := prog_10_method_40_code
def yX8_pass : MethodName := ⟨RX8, "pass", "(I)I"⟩
abbrev cX8_type : ByteArray := prog_10_method_41_code
def yX8_type : MethodName := ⟨RX8, "type", "(C)I"⟩
abbrev cX8_clearText : ByteArray := prog_10_method_42_code
def yX8_clearText : MethodName := ⟨RX8, "clearText", "()I"⟩
abbrev cX8_undo : ByteArray := prog_10_method_43_code
def yX8_undo : MethodName := ⟨RX8, "undo", "()I"⟩
abbrev cX8_keep : ByteArray := prog_10_method_44_code
def yX8_keep : MethodName := ⟨RX8, "keep", "()I"⟩
abbrev cX8_restore : ByteArray := prog_10_method_45_code
def yX8_restore : MethodName := ⟨RX8, "restore", "()I"⟩
abbrev cX8_rate : ByteArray := prog_10_method_46_code
def yX8_rate : MethodName := ⟨RX8, "rate", "(I)F"⟩
abbrev cX8_number_ : ByteArray := prog_10_method_47_code
def yX8_number_ : MethodName := ⟨RX8, "number", "(I)I"⟩
abbrev cX8_invoices : ByteArray := prog_10_method_48_code
def yX8_invoices : MethodName := ⟨RX8, "invoices", "(IIII)I"⟩
abbrev cX8_member : ByteArray := prog_10_method_49_code
def yX8_member : MethodName := ⟨RX8, "member", "(II)I"⟩
abbrev cX8_client : ByteArray := prog_10_method_50_code
def yX8_client : MethodName := ⟨RX8, "client", "(II)I"⟩
abbrev cX8_risk : ByteArray := prog_10_method_51_code
def yX8_risk : MethodName := ⟨RX8, "risk", "(I)F"⟩
abbrev cX8_lateness : ByteArray := prog_10_method_52_code
def yX8_lateness : MethodName := ⟨RX8, "lateness", "(I)F"⟩
abbrev cX8_invoice : ByteArray := prog_10_method_53_code
def yX8_invoice : MethodName := ⟨RX8, "invoice", "(II)I"⟩
abbrev cX8_rateIn : ByteArray := prog_10_method_54_code
def yX8_rateIn : MethodName := ⟨RX8, "rateIn", "(II)F"⟩
abbrev cX8_worth : ByteArray := prog_10_method_55_code
def yX8_worth : MethodName := ⟨RX8, "worth", "(I)F"⟩
abbrev cX8_best : ByteArray := prog_10_method_56_code
def yX8_best : MethodName := ⟨RX8, "best", "(I)I"⟩
abbrev cX8_worthlessIn : ByteArray := prog_10_method_57_code
def yX8_worthlessIn : MethodName := ⟨RX8, "worthlessIn", "(I)I"⟩
abbrev cX8_exposure : ByteArray := prog_10_method_58_code
def yX8_exposure : MethodName := ⟨RX8, "exposure", "()F"⟩
abbrev cX8_count : ByteArray := prog_10_method_59_code
def yX8_count : MethodName := ⟨RX8, "count", "(I)I"⟩
def RL : String := "GuildFundLaw"
abbrev cL_law : ByteArray := code
def yL_law : MethodName := ⟨RL, "law", "([I)Z"⟩
abbrev vwCl : List vw_C := [(RX0, TX0, 11), (RX1, TX1, 3), (RX2, TX2, 3), (RX3, TX3, 8), (RX4, TX4, 5), (RX5, TX5, 3), (RX6, TX6, 5), (RX7, TX7, 9), (RX8, TX8, 15)]
