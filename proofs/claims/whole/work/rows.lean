section
/-- a private method of a class that the tables say can be made, by its rows of tables_1 -/
def lw_okq (q : MethodName × Nat) : Prop := (q.1.cls ≠ "java/lang/invoke/MethodHandle" ∧ q.1.cls ≠ "java/lang/invoke/VarHandle") ∧ Cond.instantiable q.1.cls q.2 ∈ tables_1 ∧ Cond.privateMethod q.1 ∈ tables_1 ∧ Cond.instanceMethod q.1 ∈ tables_1
theorem lw_p0 : lw_okq (⟨"GuildFund$History", "stateAt", "(I)LGuildFund$Book;"⟩, 3) := ⟨⟨by decide +kernel, by decide +kernel⟩, List.mem_of_getElem? (i := 168) (by decide +kernel), List.mem_of_getElem? (i := 276) (by decide +kernel), List.mem_of_getElem? (i := 277) (by decide +kernel)⟩
theorem lw_p1 : lw_okq (⟨"GuildFund$Text", "readNumbers", "()V"⟩, 5) := ⟨⟨by decide +kernel, by decide +kernel⟩, List.mem_of_getElem? (i := 188) (by decide +kernel), List.mem_of_getElem? (i := 469) (by decide +kernel), List.mem_of_getElem? (i := 470) (by decide +kernel)⟩
theorem lw_p2 : lw_okq (⟨"GuildFundModel", "know", "()V"⟩, 15) := ⟨⟨by decide +kernel, by decide +kernel⟩, List.mem_of_getElem? (i := 617) (by decide +kernel), List.mem_of_getElem? (i := 688) (by decide +kernel), List.mem_of_getElem? (i := 689) (by decide +kernel)⟩
theorem lw_p3 : lw_okq (⟨"GuildFundModel", "isMember", "(I)Z"⟩, 15) := ⟨⟨by decide +kernel, by decide +kernel⟩, List.mem_of_getElem? (i := 617) (by decide +kernel), List.mem_of_getElem? (i := 707) (by decide +kernel), List.mem_of_getElem? (i := 708) (by decide +kernel)⟩
theorem lw_p4 : lw_okq (⟨"GuildFundModel", "isInvoice", "(I)Z"⟩, 15) := ⟨⟨by decide +kernel, by decide +kernel⟩, List.mem_of_getElem? (i := 617) (by decide +kernel), List.mem_of_getElem? (i := 727) (by decide +kernel), List.mem_of_getElem? (i := 728) (by decide +kernel)⟩
theorem lw_p5 : lw_okq (⟨"GuildFundModel", "mayAhead", "(I)Z"⟩, 15) := ⟨⟨by decide +kernel, by decide +kernel⟩, List.mem_of_getElem? (i := 617) (by decide +kernel), List.mem_of_getElem? (i := 731) (by decide +kernel), List.mem_of_getElem? (i := 732) (by decide +kernel)⟩
theorem lw_p6 : lw_okq (⟨"GuildFundModel", "offerBehind", "(II)I"⟩, 15) := ⟨⟨by decide +kernel, by decide +kernel⟩, List.mem_of_getElem? (i := 617) (by decide +kernel), List.mem_of_getElem? (i := 735) (by decide +kernel), List.mem_of_getElem? (i := 736) (by decide +kernel)⟩
theorem lw_p7 : lw_okq (⟨"GuildFundModel", "rateBehind", "(II)F"⟩, 15) := ⟨⟨by decide +kernel, by decide +kernel⟩, List.mem_of_getElem? (i := 617) (by decide +kernel), List.mem_of_getElem? (i := 739) (by decide +kernel), List.mem_of_getElem? (i := 740) (by decide +kernel)⟩
theorem lw_p8 : lw_okq (⟨"GuildFundModel", "rateOf", "(I)F"⟩, 15) := ⟨⟨by decide +kernel, by decide +kernel⟩, List.mem_of_getElem? (i := 617) (by decide +kernel), List.mem_of_getElem? (i := 743) (by decide +kernel), List.mem_of_getElem? (i := 744) (by decide +kernel)⟩
theorem lw_p9 : lw_okq (⟨"GuildFundModel", "late", "(II)I"⟩, 15) := ⟨⟨by decide +kernel, by decide +kernel⟩, List.mem_of_getElem? (i := 617) (by decide +kernel), List.mem_of_getElem? (i := 747) (by decide +kernel), List.mem_of_getElem? (i := 748) (by decide +kernel)⟩
theorem lw_p10 : lw_okq (⟨"GuildFundModel", "riskOf", "(I)F"⟩, 15) := ⟨⟨by decide +kernel, by decide +kernel⟩, List.mem_of_getElem? (i := 617) (by decide +kernel), List.mem_of_getElem? (i := 751) (by decide +kernel), List.mem_of_getElem? (i := 752) (by decide +kernel)⟩
theorem lw_p11 : lw_okq (⟨"GuildFundModel", "reserve", "()I"⟩, 15) := ⟨⟨by decide +kernel, by decide +kernel⟩, List.mem_of_getElem? (i := 617) (by decide +kernel), List.mem_of_getElem? (i := 758) (by decide +kernel), List.mem_of_getElem? (i := 759) (by decide +kernel)⟩
theorem lw_p12 : lw_okq (⟨"GuildFundModel", "allDues", "()I"⟩, 15) := ⟨⟨by decide +kernel, by decide +kernel⟩, List.mem_of_getElem? (i := 617) (by decide +kernel), List.mem_of_getElem? (i := 762) (by decide +kernel), List.mem_of_getElem? (i := 763) (by decide +kernel)⟩
theorem lw_p13 : lw_okq (⟨"GuildFundModel", "payFault", "(II)I"⟩, 15) := ⟨⟨by decide +kernel, by decide +kernel⟩, List.mem_of_getElem? (i := 617) (by decide +kernel), List.mem_of_getElem? (i := 771) (by decide +kernel), List.mem_of_getElem? (i := 772) (by decide +kernel)⟩
theorem lw_p14 : lw_okq (⟨"GuildFundModel", "pays", "(II)I"⟩, 15) := ⟨⟨by decide +kernel, by decide +kernel⟩, List.mem_of_getElem? (i := 617) (by decide +kernel), List.mem_of_getElem? (i := 775) (by decide +kernel), List.mem_of_getElem? (i := 776) (by decide +kernel)⟩
theorem lw_p15 : lw_okq (⟨"GuildFundModel", "mayGiveUp", "(I)Z"⟩, 15) := ⟨⟨by decide +kernel, by decide +kernel⟩, List.mem_of_getElem? (i := 617) (by decide +kernel), List.mem_of_getElem? (i := 783) (by decide +kernel), List.mem_of_getElem? (i := 784) (by decide +kernel)⟩
def lw_privs_1 : List (MethodName × Nat) := [(⟨"GuildFund$History", "stateAt", "(I)LGuildFund$Book;"⟩, 3), (⟨"GuildFund$Text", "readNumbers", "()V"⟩, 5), (⟨"GuildFundModel", "know", "()V"⟩, 15), (⟨"GuildFundModel", "isMember", "(I)Z"⟩, 15), (⟨"GuildFundModel", "isInvoice", "(I)Z"⟩, 15), (⟨"GuildFundModel", "mayAhead", "(I)Z"⟩, 15), (⟨"GuildFundModel", "offerBehind", "(II)I"⟩, 15), (⟨"GuildFundModel", "rateBehind", "(II)F"⟩, 15), (⟨"GuildFundModel", "rateOf", "(I)F"⟩, 15), (⟨"GuildFundModel", "late", "(II)I"⟩, 15), (⟨"GuildFundModel", "riskOf", "(I)F"⟩, 15), (⟨"GuildFundModel", "reserve", "()I"⟩, 15), (⟨"GuildFundModel", "allDues", "()I"⟩, 15), (⟨"GuildFundModel", "payFault", "(II)I"⟩, 15), (⟨"GuildFundModel", "pays", "(II)I"⟩, 15), (⟨"GuildFundModel", "mayGiveUp", "(I)Z"⟩, 15)]
theorem lw_r1 : ∀ q ∈ lw_privs_1, lw_okq q := List.forall_mem_cons.mpr ⟨lw_p0, List.forall_mem_cons.mpr ⟨lw_p1, List.forall_mem_cons.mpr ⟨lw_p2, List.forall_mem_cons.mpr ⟨lw_p3, List.forall_mem_cons.mpr ⟨lw_p4, List.forall_mem_cons.mpr ⟨lw_p5, List.forall_mem_cons.mpr ⟨lw_p6, List.forall_mem_cons.mpr ⟨lw_p7, List.forall_mem_cons.mpr ⟨lw_p8, List.forall_mem_cons.mpr ⟨lw_p9, List.forall_mem_cons.mpr ⟨lw_p10, List.forall_mem_cons.mpr ⟨lw_p11, List.forall_mem_cons.mpr ⟨lw_p12, List.forall_mem_cons.mpr ⟨lw_p13, List.forall_mem_cons.mpr ⟨lw_p14, List.forall_mem_cons.mpr ⟨lw_p15, fun _ h => absurd h List.not_mem_nil⟩⟩⟩⟩⟩⟩⟩⟩⟩⟩⟩⟩⟩⟩⟩⟩
theorem lw_p16 : lw_okq (⟨"GuildFundModel", "share", "(I)V"⟩, 15) := ⟨⟨by decide +kernel, by decide +kernel⟩, List.mem_of_getElem? (i := 617) (by decide +kernel), List.mem_of_getElem? (i := 787) (by decide +kernel), List.mem_of_getElem? (i := 788) (by decide +kernel)⟩
theorem lw_p17 : lw_okq (⟨"GuildFundModel", "go", "(Z)I"⟩, 15) := ⟨⟨by decide +kernel, by decide +kernel⟩, List.mem_of_getElem? (i := 617) (by decide +kernel), List.mem_of_getElem? (i := 795) (by decide +kernel), List.mem_of_getElem? (i := 796) (by decide +kernel)⟩
theorem lw_p18 : lw_okq (⟨"GuildFundModel", "number", "(II)I"⟩, 15) := ⟨⟨by decide +kernel, by decide +kernel⟩, List.mem_of_getElem? (i := 617) (by decide +kernel), List.mem_of_getElem? (i := 799) (by decide +kernel), List.mem_of_getElem? (i := 800) (by decide +kernel)⟩
theorem lw_p19 : lw_okq (⟨"GuildFundModel", "sign", "(II)I"⟩, 15) := ⟨⟨by decide +kernel, by decide +kernel⟩, List.mem_of_getElem? (i := 617) (by decide +kernel), List.mem_of_getElem? (i := 803) (by decide +kernel), List.mem_of_getElem? (i := 804) (by decide +kernel)⟩
theorem lw_p20 : lw_okq (⟨"GuildFundModel", "swap", "()V"⟩, 15) := ⟨⟨by decide +kernel, by decide +kernel⟩, List.mem_of_getElem? (i := 617) (by decide +kernel), List.mem_of_getElem? (i := 807) (by decide +kernel), List.mem_of_getElem? (i := 808) (by decide +kernel)⟩
theorem lw_p21 : lw_okq (⟨"GuildFundModel", "invoices", "(IIII)I"⟩, 15) := ⟨⟨by decide +kernel, by decide +kernel⟩, List.mem_of_getElem? (i := 617) (by decide +kernel), List.mem_of_getElem? (i := 857) (by decide +kernel), List.mem_of_getElem? (i := 858) (by decide +kernel)⟩
theorem lw_p22 : lw_okq (⟨"GuildFundModel", "worthOf", "(I)F"⟩, 15) := ⟨⟨by decide +kernel, by decide +kernel⟩, List.mem_of_getElem? (i := 617) (by decide +kernel), List.mem_of_getElem? (i := 886) (by decide +kernel), List.mem_of_getElem? (i := 887) (by decide +kernel)⟩
def lw_privs_2 : List (MethodName × Nat) := [(⟨"GuildFundModel", "share", "(I)V"⟩, 15), (⟨"GuildFundModel", "go", "(Z)I"⟩, 15), (⟨"GuildFundModel", "number", "(II)I"⟩, 15), (⟨"GuildFundModel", "sign", "(II)I"⟩, 15), (⟨"GuildFundModel", "swap", "()V"⟩, 15), (⟨"GuildFundModel", "invoices", "(IIII)I"⟩, 15), (⟨"GuildFundModel", "worthOf", "(I)F"⟩, 15)]
theorem lw_r2 : ∀ q ∈ lw_privs_2, lw_okq q := List.forall_mem_cons.mpr ⟨lw_p16, List.forall_mem_cons.mpr ⟨lw_p17, List.forall_mem_cons.mpr ⟨lw_p18, List.forall_mem_cons.mpr ⟨lw_p19, List.forall_mem_cons.mpr ⟨lw_p20, List.forall_mem_cons.mpr ⟨lw_p21, List.forall_mem_cons.mpr ⟨lw_p22, fun _ h => absurd h List.not_mem_nil⟩⟩⟩⟩⟩⟩⟩
def lw_privs : List (MethodName × Nat) := lw_privs_1 ++ (lw_privs_2)
def lw_tbl : List Cond := k2_sels lw_privs ++ tables_1
theorem lw_privs_ok : ∀ q ∈ lw_privs, lw_okq q := by
  show ∀ q ∈ lw_privs_1 ++ (lw_privs_2), lw_okq q
  exact List.forall_mem_append.mpr ⟨lw_r1, lw_r2⟩
/-- the streams that the claim lets the run draw from -/
abbrev lw_cs : List Choice := [Jvm.Choice.named "NaN.bits"]
theorem lw_bits : nanBits ∈ lw_cs := by first | decide | exact List.mem_cons_self | simp [lw_cs, nanBits]
def RX0 : String := "GuildFund$Book"
def TX0 : u_T := fun k => match k with
  | 0 => ("GuildFund$Book", "members", "LGuildFund$Members;", true)
  | 1 => ("GuildFund$Book", "clients", "LGuildFund$Clients;", true)
  | 2 => ("GuildFund$Book", "invoices", "LGuildFund$Invoices;", true)
  | 3 => ("GuildFund$Book", "rates", "[F", true)
  | 4 => ("GuildFund$Book", "numbers", "[I", true)
  | 5 => ("GuildFund$Book", "day", "I", false)
  | 6 => ("GuildFund$Book", "balance", "I", false)
  | 7 => ("GuildFund$Book", "advanced", "I", false)
  | 8 => ("GuildFund$Book", "collected", "I", false)
  | 9 => ("GuildFund$Book", "passedOn", "I", false)
  | _ => ("GuildFund$Book", "shared", "I", false)
def tyX0 : Nat → FieldType := fun k => match k with
  | 0 => .object "GuildFund$Members"
  | 1 => .object "GuildFund$Clients"
  | 2 => .object "GuildFund$Invoices"
  | 3 => .array .float
  | 4 => .array .int
  | 5 => .int
  | 6 => .int
  | 7 => .int
  | 8 => .int
  | 9 => .int
  | _ => .int
abbrev wsX00 : List Cond := u_ws RX0 TX0 11
theorem nmX0 : ∀ a, a < 11 → ∀ b, b < 11 → a ≠ b → (TX0 a).2.1 ≠ (TX0 b).2.1 := by decide +kernel
theorem tyX0_ok : ∀ k, k < 11 → parseFieldDescriptor (TX0 k).2.2.1 = some (tyX0 k) := by decide +kernel
abbrev cX0_init : ByteArray := prog_2_method_1_code
def yX0_init : MethodName := ⟨RX0, "<init>", "()V"⟩
abbrev cX0_reserveCents : ByteArray := prog_2_method_2_code
def yX0_reserveCents : MethodName := ⟨RX0, "reserveCents", "()I"⟩
abbrev cX0_ageOf : ByteArray := prog_2_method_3_code
def yX0_ageOf : MethodName := ⟨RX0, "ageOf", "(I)I"⟩
abbrev cX0_lateAfter : ByteArray := prog_2_method_4_code
def yX0_lateAfter : MethodName := ⟨RX0, "lateAfter", "(II)I"⟩
abbrev cX0_rateAfter : ByteArray := prog_2_method_5_code
def yX0_rateAfter : MethodName := ⟨RX0, "rateAfter", "(II)F"⟩
abbrev cX0_offerAfter : ByteArray := prog_2_method_6_code
def yX0_offerAfter : MethodName := ⟨RX0, "offerAfter", "(II)I"⟩
abbrev cX0_worthOf : ByteArray := prog_2_method_7_code
def yX0_worthOf : MethodName := ⟨RX0, "worthOf", "(I)F"⟩
abbrev cX0_canPayAhead : ByteArray := prog_2_method_8_code
def yX0_canPayAhead : MethodName := ⟨RX0, "canPayAhead", "(I)Z"⟩
abbrev cX0_canGiveUp : ByteArray := prog_2_method_9_code
def yX0_canGiveUp : MethodName := ⟨RX0, "canGiveUp", "(I)Z"⟩
abbrev cX0_advance : ByteArray := prog_2_method_10_code
def yX0_advance : MethodName := ⟨RX0, "advance", "(I)I"⟩
abbrev cX0_errorOfPayment : ByteArray := prog_2_method_11_code
def yX0_errorOfPayment : MethodName := ⟨RX0, "errorOfPayment", "(II)I"⟩
abbrev cX0_collect : ByteArray := prog_2_method_12_code
def yX0_collect : MethodName := ⟨RX0, "collect", "(II)I"⟩
abbrev cX0_settle : ByteArray := prog_2_method_13_code
def yX0_settle : MethodName := ⟨RX0, "settle", "(I)V"⟩
abbrev cX0_passOn : ByteArray := prog_2_method_14_code
def yX0_passOn : MethodName := ⟨RX0, "passOn", "(I)V"⟩
abbrev cX0_lose : ByteArray := prog_2_method_15_code
def yX0_lose : MethodName := ⟨RX0, "lose", "(I)I"⟩
abbrev cX0_share : ByteArray := prog_2_method_16_code
def yX0_share : MethodName := ⟨RX0, "share", "(I)V"⟩
abbrev cX0_copyFrom : ByteArray := prog_2_method_17_code
def yX0_copyFrom : MethodName := ⟨RX0, "copyFrom", "(LGuildFund$Book;)V"⟩
def RX1 : String := "GuildFund$Clients"
def TX1 : u_T := fun k => match k with
  | 0 => ("GuildFund$Clients", "settled", "[I", true)
  | 1 => ("GuildFund$Clients", "lost", "[I", true)
  | _ => ("GuildFund$Clients", "daysLate", "[I", true)
def tyX1 : Nat → FieldType := fun k => match k with
  | 0 => .array .int
  | 1 => .array .int
  | _ => .array .int
abbrev wsX10 : List Cond := u_ws RX1 TX1 3
theorem nmX1 : ∀ a, a < 3 → ∀ b, b < 3 → a ≠ b → (TX1 a).2.1 ≠ (TX1 b).2.1 := by decide +kernel
theorem tyX1_ok : ∀ k, k < 3 → parseFieldDescriptor (TX1 k).2.2.1 = some (tyX1 k) := by decide +kernel
abbrev cX1_init : ByteArray := prog_3_method_1_code
def yX1_init : MethodName := ⟨RX1, "<init>", "()V"⟩
abbrev cX1_has : ByteArray := prog_3_method_2_code
def yX1_has : MethodName := ⟨RX1, "has", "(I)Z"⟩
abbrev cX1_riskOf : ByteArray := prog_3_method_3_code
def yX1_riskOf : MethodName := ⟨RX1, "riskOf", "(I)F"⟩
abbrev cX1_latenessOf : ByteArray := prog_3_method_4_code
def yX1_latenessOf : MethodName := ⟨RX1, "latenessOf", "(I)F"⟩
abbrev cX1_addSettled : ByteArray := prog_3_method_5_code
def yX1_addSettled : MethodName := ⟨RX1, "addSettled", "(II)V"⟩
abbrev cX1_addLost : ByteArray := prog_3_method_6_code
def yX1_addLost : MethodName := ⟨RX1, "addLost", "(I)V"⟩
abbrev cX1_copyFrom : ByteArray := prog_3_method_7_code
def yX1_copyFrom : MethodName := ⟨RX1, "copyFrom", "(LGuildFund$Clients;)V"⟩
def RX2 : String := "GuildFund$History"
def TX2 : u_T := fun k => match k with
  | 0 => ("GuildFund$History", "states", "[LGuildFund$Book;", true)
  | 1 => ("GuildFund$History", "next", "I", false)
  | _ => ("GuildFund$History", "size", "I", false)
def tyX2 : Nat → FieldType := fun k => match k with
  | 0 => .array (.object "GuildFund$Book")
  | 1 => .int
  | _ => .int
abbrev wsX20 : List Cond := u_ws RX2 TX2 3
theorem nmX2 : ∀ a, a < 3 → ∀ b, b < 3 → a ≠ b → (TX2 a).2.1 ≠ (TX2 b).2.1 := by decide +kernel
theorem tyX2_ok : ∀ k, k < 3 → parseFieldDescriptor (TX2 k).2.2.1 = some (tyX2 k) := by decide +kernel
abbrev cX2_init : ByteArray := prog_4_method_1_code
def yX2_init : MethodName := ⟨RX2, "<init>", "()V"⟩
abbrev cX2_push : ByteArray := prog_4_method_2_code
def yX2_push : MethodName := ⟨RX2, "push", "(LGuildFund$Book;)V"⟩
abbrev cX2_popInto : ByteArray := prog_4_method_3_code
def yX2_popInto : MethodName := ⟨RX2, "popInto", "(LGuildFund$Book;)V"⟩
abbrev cX2_stateAt : ByteArray := prog_4_method_4_code
def yX2_stateAt : MethodName := ⟨RX2, "stateAt", "(I)LGuildFund$Book;"⟩
abbrev cX2_copy : ByteArray := prog_4_method_5_code
def yX2_copy : MethodName := ⟨RX2, "copy", "(LGuildFund$Book;LGuildFund$Book;)V"⟩
def RX3 : String := "GuildFund$Invoices"
def TX3 : u_T := fun k => match k with
  | 0 => ("GuildFund$Invoices", "member", "[I", true)
  | 1 => ("GuildFund$Invoices", "client", "[I", true)
  | 2 => ("GuildFund$Invoices", "amount", "[I", true)
  | 3 => ("GuildFund$Invoices", "due", "[I", true)
  | 4 => ("GuildFund$Invoices", "state", "[I", true)
  | 5 => ("GuildFund$Invoices", "paid", "[I", true)
  | 6 => ("GuildFund$Invoices", "advance", "[I", true)
  | _ => ("GuildFund$Invoices", "size", "I", false)
def tyX3 : Nat → FieldType := fun k => match k with
  | 0 => .array .int
  | 1 => .array .int
  | 2 => .array .int
  | 3 => .array .int
  | 4 => .array .int
  | 5 => .array .int
  | 6 => .array .int
  | _ => .int
abbrev wsX30 : List Cond := u_ws RX3 TX3 8
theorem nmX3 : ∀ a, a < 8 → ∀ b, b < 8 → a ≠ b → (TX3 a).2.1 ≠ (TX3 b).2.1 := by decide +kernel
theorem tyX3_ok : ∀ k, k < 8 → parseFieldDescriptor (TX3 k).2.2.1 = some (tyX3 k) := by decide +kernel
abbrev cX3_init : ByteArray := prog_5_method_1_code
def yX3_init : MethodName := ⟨RX3, "<init>", "()V"⟩
abbrev cX3_has : ByteArray := prog_5_method_2_code
def yX3_has : MethodName := ⟨RX3, "has", "(I)Z"⟩
abbrev cX3_append : ByteArray := prog_5_method_3_code
def yX3_append : MethodName := ⟨RX3, "append", "(IIII)I"⟩
abbrev cX3_isUnsettled : ByteArray := prog_5_method_4_code
def yX3_isUnsettled : MethodName := ⟨RX3, "isUnsettled", "(I)Z"⟩
abbrev cX3_countOfMember : ByteArray := prog_5_method_5_code
def yX3_countOfMember : MethodName := ⟨RX3, "countOfMember", "(I)I"⟩
abbrev cX3_countOfMemberAhead : ByteArray := prog_5_method_6_code
def yX3_countOfMemberAhead : MethodName := ⟨RX3, "countOfMemberAhead", "(I)I"⟩
abbrev cX3_countOfClientUnsettled : ByteArray := prog_5_method_7_code
def yX3_countOfClientUnsettled : MethodName := ⟨RX3, "countOfClientUnsettled", "(I)I"⟩
abbrev cX3_countOfState : ByteArray := prog_5_method_8_code
def yX3_countOfState : MethodName := ⟨RX3, "countOfState", "(I)I"⟩
abbrev cX3_advancesOut : ByteArray := prog_5_method_9_code
def yX3_advancesOut : MethodName := ⟨RX3, "advancesOut", "()I"⟩
abbrev cX3_copyFrom : ByteArray := prog_5_method_10_code
def yX3_copyFrom : MethodName := ⟨RX3, "copyFrom", "(LGuildFund$Invoices;)V"⟩
def RX4 : String := "GuildFund$Members"
def TX4 : u_T := fun k => match k with
  | 0 => ("GuildFund$Members", "weight", "[I", true)
  | 1 => ("GuildFund$Members", "dues", "[I", true)
  | 2 => ("GuildFund$Members", "purse", "[I", true)
  | 3 => ("GuildFund$Members", "borne", "[I", true)
  | _ => ("GuildFund$Members", "size", "I", false)
def tyX4 : Nat → FieldType := fun k => match k with
  | 0 => .array .int
  | 1 => .array .int
  | 2 => .array .int
  | 3 => .array .int
  | _ => .int
abbrev wsX40 : List Cond := u_ws RX4 TX4 5
theorem nmX4 : ∀ a, a < 5 → ∀ b, b < 5 → a ≠ b → (TX4 a).2.1 ≠ (TX4 b).2.1 := by decide +kernel
theorem tyX4_ok : ∀ k, k < 5 → parseFieldDescriptor (TX4 k).2.2.1 = some (tyX4 k) := by decide +kernel
abbrev cX4_init : ByteArray := prog_6_method_1_code
def yX4_init : MethodName := ⟨RX4, "<init>", "()V"⟩
abbrev cX4_has : ByteArray := prog_6_method_2_code
def yX4_has : MethodName := ⟨RX4, "has", "(I)Z"⟩
abbrev cX4_append : ByteArray := prog_6_method_3_code
def yX4_append : MethodName := ⟨RX4, "append", "(I)I"⟩
abbrev cX4_intoPurse : ByteArray := prog_6_method_4_code
def yX4_intoPurse : MethodName := ⟨RX4, "intoPurse", "(II)V"⟩
abbrev cX4_bear : ByteArray := prog_6_method_5_code
def yX4_bear : MethodName := ⟨RX4, "bear", "(II)V"⟩
abbrev cX4_allDues : ByteArray := prog_6_method_6_code
def yX4_allDues : MethodName := ⟨RX4, "allDues", "()I"⟩
abbrev cX4_allWeights : ByteArray := prog_6_method_7_code
def yX4_allWeights : MethodName := ⟨RX4, "allWeights", "()I"⟩
abbrev cX4_copyFrom : ByteArray := prog_6_method_8_code
def yX4_copyFrom : MethodName := ⟨RX4, "copyFrom", "(LGuildFund$Members;)V"⟩
def RX5 : String := "GuildFund$Ranking"
def TX5 : u_T := fun k => match k with
  | 0 => ("GuildFund$Ranking", "invoices", "[I", true)
  | 1 => ("GuildFund$Ranking", "worths", "[F", true)
  | _ => ("GuildFund$Ranking", "size", "I", false)
def tyX5 : Nat → FieldType := fun k => match k with
  | 0 => .array .int
  | 1 => .array .float
  | _ => .int
abbrev wsX50 : List Cond := u_ws RX5 TX5 3
theorem nmX5 : ∀ a, a < 3 → ∀ b, b < 3 → a ≠ b → (TX5 a).2.1 ≠ (TX5 b).2.1 := by decide +kernel
theorem tyX5_ok : ∀ k, k < 3 → parseFieldDescriptor (TX5 k).2.2.1 = some (tyX5 k) := by decide +kernel
abbrev cX5_init : ByteArray := prog_7_method_1_code
def yX5_init : MethodName := ⟨RX5, "<init>", "()V"⟩
abbrev cX5_insert : ByteArray := prog_7_method_2_code
def yX5_insert : MethodName := ⟨RX5, "insert", "(IF)V"⟩
abbrev cX5_invoiceAt : ByteArray := prog_7_method_3_code
def yX5_invoiceAt : MethodName := ⟨RX5, "invoiceAt", "(I)I"⟩
def RX6 : String := "GuildFund$Text"
def TX6 : u_T := fun k => match k with
  | 0 => ("GuildFund$Text", "signs", "[C", true)
  | 1 => ("GuildFund$Text", "invoices", "[I", true)
  | 2 => ("GuildFund$Text", "cents", "[I", true)
  | 3 => ("GuildFund$Text", "length", "I", false)
  | _ => ("GuildFund$Text", "payments", "I", false)
def tyX6 : Nat → FieldType := fun k => match k with
  | 0 => .array .char
  | 1 => .array .int
  | 2 => .array .int
  | 3 => .int
  | _ => .int
abbrev wsX60 : List Cond := u_ws RX6 TX6 5
theorem nmX6 : ∀ a, a < 5 → ∀ b, b < 5 → a ≠ b → (TX6 a).2.1 ≠ (TX6 b).2.1 := by decide +kernel
theorem tyX6_ok : ∀ k, k < 5 → parseFieldDescriptor (TX6 k).2.2.1 = some (tyX6 k) := by decide +kernel
abbrev cX6_init : ByteArray := prog_8_method_1_code
def yX6_init : MethodName := ⟨RX6, "<init>", "()V"⟩
abbrev cX6_append : ByteArray := prog_8_method_2_code
def yX6_append : MethodName := ⟨RX6, "append", "(C)I"⟩
abbrev cX6_invoiceOf : ByteArray := prog_8_method_3_code
def yX6_invoiceOf : MethodName := ⟨RX6, "invoiceOf", "(I)I"⟩
abbrev cX6_centsOf : ByteArray := prog_8_method_4_code
def yX6_centsOf : MethodName := ⟨RX6, "centsOf", "(I)I"⟩
abbrev cX6_read : ByteArray := prog_8_method_5_code
def yX6_read : MethodName := ⟨RX6, "read", "()I"⟩
abbrev cX6_placeBehind : ByteArray := prog_8_method_6_code
def yX6_placeBehind : MethodName := ⟨RX6, "placeBehind", "(IC)I"⟩
abbrev cX6_readNumbers : ByteArray := prog_8_method_7_code
def yX6_readNumbers : MethodName := ⟨RX6, "readNumbers", "()V"⟩
def RX7 : String := "GuildFund"
def TX7 : u_T := fun k => match k with
  | 0 => ("GuildFund", "now", "LGuildFund$Book;", true)
  | 1 => ("GuildFund", "before", "LGuildFund$Book;", true)
  | 2 => ("GuildFund", "snapshot", "LGuildFund$Book;", true)
  | 3 => ("GuildFund", "history", "LGuildFund$History;", true)
  | 4 => ("GuildFund", "text", "LGuildFund$Text;", true)
  | 5 => ("GuildFund", "ranking", "LGuildFund$Ranking;", true)
  | 6 => ("GuildFund", "kept", "Z", false)
  | 7 => ("GuildFund", "refusedPayment", "I", false)
  | _ => ("GuildFund", "refusedError", "I", false)
def tyX7 : Nat → FieldType := fun k => match k with
  | 0 => .object "GuildFund$Book"
  | 1 => .object "GuildFund$Book"
  | 2 => .object "GuildFund$Book"
  | 3 => .object "GuildFund$History"
  | 4 => .object "GuildFund$Text"
  | 5 => .object "GuildFund$Ranking"
  | 6 => .boolean
  | 7 => .int
  | _ => .int
abbrev wsX70 : List Cond := u_ws RX7 TX7 9
theorem nmX7 : ∀ a, a < 9 → ∀ b, b < 9 → a ≠ b → (TX7 a).2.1 ≠ (TX7 b).2.1 := by decide +kernel
theorem tyX7_ok : ∀ k, k < 9 → parseFieldDescriptor (TX7 k).2.2.1 = some (tyX7 k) := by decide +kernel
abbrev cX7_init : ByteArray := prog_1_method_1_code
def yX7_init : MethodName := ⟨RX7, "<init>", "()V"⟩
abbrev cX7_setRate : ByteArray := prog_1_method_2_code
def yX7_setRate : MethodName := ⟨RX7, "setRate", "(II)I"⟩
abbrev cX7_setNumber : ByteArray := prog_1_method_3_code
def yX7_setNumber : MethodName := ⟨RX7, "setNumber", "(II)I"⟩
abbrev cX7_addMember : ByteArray := prog_1_method_4_code
def yX7_addMember : MethodName := ⟨RX7, "addMember", "(I)I"⟩
abbrev cX7_payDues : ByteArray := prog_1_method_5_code
def yX7_payDues : MethodName := ⟨RX7, "payDues", "(II)I"⟩
abbrev cX7_addInvoice : ByteArray := prog_1_method_6_code
def yX7_addInvoice : MethodName := ⟨RX7, "addInvoice", "(IIII)I"⟩
abbrev cX7_payAhead : ByteArray := prog_1_method_7_code
def yX7_payAhead : MethodName := ⟨RX7, "payAhead", "(I)I"⟩
abbrev cX7_pay : ByteArray := prog_1_method_8_code
def yX7_pay : MethodName := ⟨RX7, "pay", "(II)I"⟩
abbrev cX7_giveUp : ByteArray := prog_1_method_9_code
def yX7_giveUp : MethodName := ⟨RX7, "giveUp", "(I)I"⟩
abbrev cX7_readPayments : ByteArray := prog_1_method_10_code
def yX7_readPayments : MethodName := ⟨RX7, "readPayments", "()I"⟩
abbrev cX7_refusal : ByteArray := prog_1_method_11_code
def yX7_refusal : MethodName := ⟨RX7, "refusal", "(I)I"⟩
abbrev cX7_pass : ByteArray := prog_1_method_12_code
def yX7_pass : MethodName := ⟨RX7, "pass", "(I)I"⟩
abbrev cX7_type : ByteArray := prog_1_method_13_code
def yX7_type : MethodName := ⟨RX7, "type", "(C)I"⟩
abbrev cX7_clearText : ByteArray := prog_1_method_14_code
def yX7_clearText : MethodName := ⟨RX7, "clearText", "()I"⟩
abbrev cX7_undo : ByteArray := prog_1_method_15_code
def yX7_undo : MethodName := ⟨RX7, "undo", "()I"⟩
abbrev cX7_keep : ByteArray := prog_1_method_16_code
def yX7_keep : MethodName := ⟨RX7, "keep", "()I"⟩
abbrev cX7_restore : ByteArray := prog_1_method_17_code
def yX7_restore : MethodName := ⟨RX7, "restore", "()I"⟩
abbrev cX7_rate : ByteArray := prog_1_method_18_code
def yX7_rate : MethodName := ⟨RX7, "rate", "(I)F"⟩
abbrev cX7_number : ByteArray := prog_1_method_19_code
def yX7_number : MethodName := ⟨RX7, "number", "(I)I"⟩
abbrev cX7_member : ByteArray := prog_1_method_20_code
def yX7_member : MethodName := ⟨RX7, "member", "(II)I"⟩
abbrev cX7_client : ByteArray := prog_1_method_21_code
def yX7_client : MethodName := ⟨RX7, "client", "(II)I"⟩
abbrev cX7_risk : ByteArray := prog_1_method_22_code
def yX7_risk : MethodName := ⟨RX7, "risk", "(I)F"⟩
abbrev cX7_lateness : ByteArray := prog_1_method_23_code
def yX7_lateness : MethodName := ⟨RX7, "lateness", "(I)F"⟩
abbrev cX7_invoice : ByteArray := prog_1_method_24_code
def yX7_invoice : MethodName := ⟨RX7, "invoice", "(II)I"⟩
abbrev cX7_rateIn : ByteArray := prog_1_method_25_code
def yX7_rateIn : MethodName := ⟨RX7, "rateIn", "(II)F"⟩
abbrev cX7_worth : ByteArray := prog_1_method_26_code
def yX7_worth : MethodName := ⟨RX7, "worth", "(I)F"⟩
abbrev cX7_best : ByteArray := prog_1_method_27_code
def yX7_best : MethodName := ⟨RX7, "best", "(I)I"⟩
abbrev cX7_worthlessIn : ByteArray := prog_1_method_28_code
def yX7_worthlessIn : MethodName := ⟨RX7, "worthlessIn", "(I)I"⟩
abbrev cX7_exposure : ByteArray := prog_1_method_29_code
def yX7_exposure : MethodName := ⟨RX7, "exposure", "()F"⟩
abbrev cX7_count : ByteArray := prog_1_method_30_code
def yX7_count : MethodName := ⟨RX7, "count", "(I)I"⟩
abbrev cX7_noNumber : ByteArray := prog_1_method_31_code
def yX7_noNumber : MethodName := ⟨RX7, "noNumber", "()F"⟩
abbrev cX7_floatOf : ByteArray := prog_1_method_32_code
def yX7_floatOf : MethodName := ⟨RX7, "floatOf", "(I)F"⟩
abbrev cX7_copyRow : ByteArray := prog_1_method_33_code
def yX7_copyRow : MethodName := ⟨RX7, "copyRow", "([I[I)V"⟩
def RX8 : String := "GuildFundModel"
def TX8 : u_T := fun k => match k with
  | 0 => ("GuildFundModel", "s", "[I", true)
  | 1 => ("GuildFundModel", "aside", "[I", true)
  | 2 => ("GuildFundModel", "before", "[I", true)
  | 3 => ("GuildFundModel", "known", "I", false)
  | 4 => ("GuildFundModel", "kept", "[I", true)
  | 5 => ("GuildFundModel", "isKept", "Z", false)
  | 6 => ("GuildFundModel", "text", "[I", true)
  | 7 => ("GuildFundModel", "typed", "I", false)
  | 8 => ("GuildFundModel", "refusedAt", "I", false)
  | 9 => ("GuildFundModel", "refusedBy", "I", false)
  | 10 => ("GuildFundModel", "shares", "[I", true)
  | 11 => ("GuildFundModel", "at", "I", false)
  | 12 => ("GuildFundModel", "isWrong", "Z", false)
  | 13 => ("GuildFundModel", "settled", "I", false)
  | _ => ("GuildFundModel", "fault", "I", false)
def tyX8 : Nat → FieldType := fun k => match k with
  | 0 => .array .int
  | 1 => .array .int
  | 2 => .array .int
  | 3 => .int
  | 4 => .array .int
  | 5 => .boolean
  | 6 => .array .int
  | 7 => .int
  | 8 => .int
  | 9 => .int
  | 10 => .array .int
  | 11 => .int
  | 12 => .boolean
  | 13 => .int
  | _ => .int
abbrev wsX80 : List Cond := u_ws RX8 TX8 15
theorem nmX8 : ∀ a, a < 15 → ∀ b, b < 15 → a ≠ b → (TX8 a).2.1 ≠ (TX8 b).2.1 := by decide +kernel
theorem tyX8_ok : ∀ k, k < 15 → parseFieldDescriptor (TX8 k).2.2.1 = some (tyX8 k) := by decide +kernel
abbrev cX8_init : ByteArray := prog_10_method_1_code
def yX8_init : MethodName := ⟨RX8, "<init>", "()V"⟩
abbrev cX8_in : ByteArray := prog_10_method_3_code
def yX8_in : MethodName := ⟨RX8, "in", "(III)Z"⟩
abbrev cX8_of : ByteArray := prog_10_method_4_code
def yX8_of : MethodName := ⟨RX8, "of", "(II)I"⟩
abbrev cX8_ofMember : ByteArray := prog_10_method_5_code
def yX8_ofMember : MethodName := ⟨RX8, "ofMember", "(II)I"⟩
abbrev cX8_ofClient : ByteArray := prog_10_method_6_code
def yX8_ofClient : MethodName := ⟨RX8, "ofClient", "(II)I"⟩
abbrev cX8_isMember : ByteArray := prog_10_method_7_code
def yX8_isMember : MethodName := ⟨RX8, "isMember", "(I)Z"⟩
abbrev cX8_isInvoice : ByteArray := prog_10_method_8_code
def yX8_isInvoice : MethodName := ⟨RX8, "isInvoice", "(I)Z"⟩
abbrev cX8_isClient : ByteArray := prog_10_method_9_code
def yX8_isClient : MethodName := ⟨RX8, "isClient", "(I)Z"⟩
abbrev cX8_know : ByteArray := prog_10_method_10_code
def yX8_know : MethodName := ⟨RX8, "know", "()V"⟩
abbrev cX8_nan : ByteArray := prog_10_method_11_code
def yX8_nan : MethodName := ⟨RX8, "nan", "()F"⟩
abbrev cX8_ofBits : ByteArray := prog_10_method_12_code
def yX8_ofBits : MethodName := ⟨RX8, "ofBits", "(I)F"⟩
abbrev cX8_rateOf : ByteArray := prog_10_method_13_code
def yX8_rateOf : MethodName := ⟨RX8, "rateOf", "(I)F"⟩
abbrev cX8_riskOf : ByteArray := prog_10_method_14_code
def yX8_riskOf : MethodName := ⟨RX8, "riskOf", "(I)F"⟩
abbrev cX8_late : ByteArray := prog_10_method_15_code
def yX8_late : MethodName := ⟨RX8, "late", "(II)I"⟩
abbrev cX8_rateBehind : ByteArray := prog_10_method_16_code
def yX8_rateBehind : MethodName := ⟨RX8, "rateBehind", "(II)F"⟩
abbrev cX8_offerBehind : ByteArray := prog_10_method_17_code
def yX8_offerBehind : MethodName := ⟨RX8, "offerBehind", "(II)I"⟩
abbrev cX8_worthOf : ByteArray := prog_10_method_18_code
def yX8_worthOf : MethodName := ⟨RX8, "worthOf", "(I)F"⟩
abbrev cX8_setRate : ByteArray := prog_10_method_19_code
def yX8_setRate : MethodName := ⟨RX8, "setRate", "(II)I"⟩
abbrev cX8_setNumber : ByteArray := prog_10_method_20_code
def yX8_setNumber : MethodName := ⟨RX8, "setNumber", "(II)I"⟩
abbrev cX8_addMember : ByteArray := prog_10_method_21_code
def yX8_addMember : MethodName := ⟨RX8, "addMember", "(I)I"⟩
abbrev cX8_payDues : ByteArray := prog_10_method_22_code
def yX8_payDues : MethodName := ⟨RX8, "payDues", "(II)I"⟩
abbrev cX8_addInvoice : ByteArray := prog_10_method_23_code
def yX8_addInvoice : MethodName := ⟨RX8, "addInvoice", "(IIII)I"⟩
abbrev cX8_allDues : ByteArray := prog_10_method_24_code
def yX8_allDues : MethodName := ⟨RX8, "allDues", "()I"⟩
abbrev cX8_reserve : ByteArray := prog_10_method_25_code
def yX8_reserve : MethodName := ⟨RX8, "reserve", "()I"⟩
abbrev cX8_mayAhead : ByteArray := prog_10_method_26_code
def yX8_mayAhead : MethodName := ⟨RX8, "mayAhead", "(I)Z"⟩
abbrev cX8_payAhead : ByteArray := prog_10_method_27_code
def yX8_payAhead : MethodName := ⟨RX8, "payAhead", "(I)I"⟩
abbrev cX8_payFault : ByteArray := prog_10_method_28_code
def yX8_payFault : MethodName := ⟨RX8, "payFault", "(II)I"⟩
abbrev cX8_pays : ByteArray := prog_10_method_29_code
def yX8_pays : MethodName := ⟨RX8, "pays", "(II)I"⟩
abbrev cX8_pay : ByteArray := prog_10_method_30_code
def yX8_pay : MethodName := ⟨RX8, "pay", "(II)I"⟩
abbrev cX8_mayGiveUp : ByteArray := prog_10_method_31_code
def yX8_mayGiveUp : MethodName := ⟨RX8, "mayGiveUp", "(I)Z"⟩
abbrev cX8_share : ByteArray := prog_10_method_32_code
def yX8_share : MethodName := ⟨RX8, "share", "(I)V"⟩
abbrev cX8_giveUp : ByteArray := prog_10_method_33_code
def yX8_giveUp : MethodName := ⟨RX8, "giveUp", "(I)I"⟩
abbrev cX8_sign : ByteArray := prog_10_method_34_code
def yX8_sign : MethodName := ⟨RX8, "sign", "(II)I"⟩
abbrev cX8_number : ByteArray := prog_10_method_35_code
def yX8_number : MethodName := ⟨RX8, "number", "(II)I"⟩
abbrev cX8_go : ByteArray := prog_10_method_36_code
def yX8_go : MethodName := ⟨RX8, "go", "(Z)I"⟩
abbrev cX8_swap : ByteArray := prog_10_method_37_code
def yX8_swap : MethodName := ⟨RX8, "swap", "()V"⟩
abbrev cX8_readPayments : ByteArray := prog_10_method_38_code
def yX8_readPayments : MethodName := ⟨RX8, "readPayments", "()I"⟩
abbrev cX8_refusal : ByteArray := prog_10_method_39_code
def yX8_refusal : MethodName := ⟨RX8, "refusal", "(I)I"⟩
abbrev cX8_pass : ByteArray := prog_10_method_40_code
def yX8_pass : MethodName := ⟨RX8, "pass", "(I)I"⟩
abbrev cX8_type : ByteArray := prog_10_method_41_code
def yX8_type : MethodName := ⟨RX8, "type", "(C)I"⟩
abbrev cX8_clearText : ByteArray := prog_10_method_42_code
def yX8_clearText : MethodName := ⟨RX8, "clearText", "()I"⟩
abbrev cX8_undo : ByteArray := prog_10_method_43_code
def yX8_undo : MethodName := ⟨RX8, "undo", "()I"⟩
abbrev cX8_keep : ByteArray := prog_10_method_44_code
def yX8_keep : MethodName := ⟨RX8, "keep", "()I"⟩
abbrev cX8_restore : ByteArray := prog_10_method_45_code
def yX8_restore : MethodName := ⟨RX8, "restore", "()I"⟩
abbrev cX8_rate : ByteArray := prog_10_method_46_code
def yX8_rate : MethodName := ⟨RX8, "rate", "(I)F"⟩
abbrev cX8_number_ : ByteArray := prog_10_method_47_code
def yX8_number_ : MethodName := ⟨RX8, "number", "(I)I"⟩
abbrev cX8_invoices : ByteArray := prog_10_method_48_code
def yX8_invoices : MethodName := ⟨RX8, "invoices", "(IIII)I"⟩
abbrev cX8_member : ByteArray := prog_10_method_49_code
def yX8_member : MethodName := ⟨RX8, "member", "(II)I"⟩
abbrev cX8_client : ByteArray := prog_10_method_50_code
def yX8_client : MethodName := ⟨RX8, "client", "(II)I"⟩
abbrev cX8_risk : ByteArray := prog_10_method_51_code
def yX8_risk : MethodName := ⟨RX8, "risk", "(I)F"⟩
abbrev cX8_lateness : ByteArray := prog_10_method_52_code
def yX8_lateness : MethodName := ⟨RX8, "lateness", "(I)F"⟩
abbrev cX8_invoice : ByteArray := prog_10_method_53_code
def yX8_invoice : MethodName := ⟨RX8, "invoice", "(II)I"⟩
abbrev cX8_rateIn : ByteArray := prog_10_method_54_code
def yX8_rateIn : MethodName := ⟨RX8, "rateIn", "(II)F"⟩
abbrev cX8_worth : ByteArray := prog_10_method_55_code
def yX8_worth : MethodName := ⟨RX8, "worth", "(I)F"⟩
abbrev cX8_best : ByteArray := prog_10_method_56_code
def yX8_best : MethodName := ⟨RX8, "best", "(I)I"⟩
abbrev cX8_worthlessIn : ByteArray := prog_10_method_57_code
def yX8_worthlessIn : MethodName := ⟨RX8, "worthlessIn", "(I)I"⟩
abbrev cX8_exposure : ByteArray := prog_10_method_58_code
def yX8_exposure : MethodName := ⟨RX8, "exposure", "()F"⟩
abbrev cX8_count : ByteArray := prog_10_method_59_code
def yX8_count : MethodName := ⟨RX8, "count", "(I)I"⟩
def RL : String := "GuildFundLaw"
abbrev cL_law : ByteArray := code
def yL_law : MethodName := ⟨RL, "law", "([I)Z"⟩
abbrev vwCl : List vw_C := [(RX0, TX0, 11), (RX1, TX1, 3), (RX2, TX2, 3), (RX3, TX3, 8), (RX4, TX4, 5), (RX5, TX5, 3), (RX6, TX6, 5), (RX7, TX7, 9), (RX8, TX8, 15)]
end
section
theorem dX0_init_0 : decode cX0_init 0 = .ok (.aload_n 0, 1) := by decide +kernel
theorem dX0_init_1 : decode cX0_init 1 = .ok (.invokespecial 3, 3) := by decide +kernel
theorem dX0_init_4 : decode cX0_init 4 = .ok (.aload_n 0, 1) := by decide +kernel
theorem dX0_init_5 : decode cX0_init 5 = .ok (.new 9, 3) := by decide +kernel
theorem dX0_init_8 : decode cX0_init 8 = .ok (.dup, 1) := by decide +kernel
theorem dX0_init_9 : decode cX0_init 9 = .ok (.invokespecial 11, 3) := by decide +kernel
theorem dX0_init_12 : decode cX0_init 12 = .ok (.putfield 12, 3) := by decide +kernel
theorem dX0_init_15 : decode cX0_init 15 = .ok (.aload_n 0, 1) := by decide +kernel
theorem dX0_init_16 : decode cX0_init 16 = .ok (.new 18, 3) := by decide +kernel
theorem dX0_init_19 : decode cX0_init 19 = .ok (.dup, 1) := by decide +kernel
theorem dX0_init_20 : decode cX0_init 20 = .ok (.invokespecial 20, 3) := by decide +kernel
theorem dX0_init_23 : decode cX0_init 23 = .ok (.putfield 21, 3) := by decide +kernel
theorem dX0_init_26 : decode cX0_init 26 = .ok (.aload_n 0, 1) := by decide +kernel
theorem dX0_init_27 : decode cX0_init 27 = .ok (.new 25, 3) := by decide +kernel
theorem dX0_init_30 : decode cX0_init 30 = .ok (.dup, 1) := by decide +kernel
theorem dX0_init_31 : decode cX0_init 31 = .ok (.invokespecial 27, 3) := by decide +kernel
theorem dX0_init_34 : decode cX0_init 34 = .ok (.putfield 28, 3) := by decide +kernel
theorem dX0_init_37 : decode cX0_init 37 = .ok (.aload_n 0, 1) := by decide +kernel
theorem dX0_init_38 : decode cX0_init 38 = .ok (.iconst 3, 1) := by decide +kernel
theorem dX0_init_39 : decode cX0_init 39 = .ok (.newarray .float, 2) := by decide +kernel
theorem dX0_init_41 : decode cX0_init 41 = .ok (.putfield 32, 3) := by decide +kernel
theorem dX0_init_44 : decode cX0_init 44 = .ok (.aload_n 0, 1) := by decide +kernel
theorem dX0_init_45 : decode cX0_init 45 = .ok (.iconst 3, 1) := by decide +kernel
theorem dX0_init_46 : decode cX0_init 46 = .ok (.newarray .int, 2) := by decide +kernel
theorem dX0_init_48 : decode cX0_init 48 = .ok (.putfield 36, 3) := by decide +kernel
theorem dX0_init_51 : decode cX0_init 51 = .ok (.aload_n 0, 1) := by decide +kernel
theorem dX0_init_52 : decode cX0_init 52 = .ok (.getfield 32, 3) := by decide +kernel
theorem dX0_init_55 : decode cX0_init 55 = .ok (.iconst 0, 1) := by decide +kernel
theorem dX0_init_56 : decode cX0_init 56 = .ok (.ldc 40, 2) := by decide +kernel
theorem dX0_init_58 : decode cX0_init 58 = .ok (.fastore, 1) := by decide +kernel
theorem dX0_init_59 : decode cX0_init 59 = .ok (.aload_n 0, 1) := by decide +kernel
theorem dX0_init_60 : decode cX0_init 60 = .ok (.getfield 32, 3) := by decide +kernel
theorem dX0_init_63 : decode cX0_init 63 = .ok (.iconst 1, 1) := by decide +kernel
theorem dX0_init_64 : decode cX0_init 64 = .ok (.ldc 41, 2) := by decide +kernel
theorem dX0_init_66 : decode cX0_init 66 = .ok (.fastore, 1) := by decide +kernel
theorem dX0_init_67 : decode cX0_init 67 = .ok (.aload_n 0, 1) := by decide +kernel
theorem dX0_init_68 : decode cX0_init 68 = .ok (.getfield 32, 3) := by decide +kernel
theorem dX0_init_71 : decode cX0_init 71 = .ok (.iconst 2, 1) := by decide +kernel
theorem dX0_init_72 : decode cX0_init 72 = .ok (.ldc 42, 2) := by decide +kernel
theorem dX0_init_74 : decode cX0_init 74 = .ok (.fastore, 1) := by decide +kernel
theorem dX0_init_75 : decode cX0_init 75 = .ok (.aload_n 0, 1) := by decide +kernel
theorem dX0_init_76 : decode cX0_init 76 = .ok (.getfield 36, 3) := by decide +kernel
theorem dX0_init_79 : decode cX0_init 79 = .ok (.iconst 0, 1) := by decide +kernel
theorem dX0_init_80 : decode cX0_init 80 = .ok (.bipush 14, 2) := by decide +kernel
theorem dX0_init_82 : decode cX0_init 82 = .ok (.iastore, 1) := by decide +kernel
theorem dX0_init_83 : decode cX0_init 83 = .ok (.aload_n 0, 1) := by decide +kernel
theorem dX0_init_84 : decode cX0_init 84 = .ok (.getfield 36, 3) := by decide +kernel
theorem dX0_init_87 : decode cX0_init 87 = .ok (.iconst 1, 1) := by decide +kernel
theorem dX0_init_88 : decode cX0_init 88 = .ok (.bipush 20, 2) := by decide +kernel
theorem dX0_init_90 : decode cX0_init 90 = .ok (.iastore, 1) := by decide +kernel
theorem dX0_init_91 : decode cX0_init 91 = .ok (.aload_n 0, 1) := by decide +kernel
theorem dX0_init_92 : decode cX0_init 92 = .ok (.getfield 36, 3) := by decide +kernel
theorem dX0_init_95 : decode cX0_init 95 = .ok (.iconst 2, 1) := by decide +kernel
theorem dX0_init_96 : decode cX0_init 96 = .ok (.bipush 120, 2) := by decide +kernel
theorem dX0_init_98 : decode cX0_init 98 = .ok (.iastore, 1) := by decide +kernel
theorem dX0_init_99 : decode cX0_init 99 = .ok (.return_, 1) := by decide +kernel
theorem dX0_reserveCents_0 : decode cX0_reserveCents 0 = .ok (.aload_n 0, 1) := by decide +kernel
theorem dX0_reserveCents_1 : decode cX0_reserveCents 1 = .ok (.getfield 12, 3) := by decide +kernel
theorem dX0_reserveCents_4 : decode cX0_reserveCents 4 = .ok (.invokevirtual 43, 3) := by decide +kernel
theorem dX0_reserveCents_7 : decode cX0_reserveCents 7 = .ok (.i2l, 1) := by decide +kernel
theorem dX0_reserveCents_8 : decode cX0_reserveCents 8 = .ok (.aload_n 0, 1) := by decide +kernel
theorem dX0_reserveCents_9 : decode cX0_reserveCents 9 = .ok (.getfield 36, 3) := by decide +kernel
theorem dX0_reserveCents_12 : decode cX0_reserveCents 12 = .ok (.iconst 1, 1) := by decide +kernel
theorem dX0_reserveCents_13 : decode cX0_reserveCents 13 = .ok (.iaload, 1) := by decide +kernel
theorem dX0_reserveCents_14 : decode cX0_reserveCents 14 = .ok (.i2l, 1) := by decide +kernel
theorem dX0_reserveCents_15 : decode cX0_reserveCents 15 = .ok (.lmul, 1) := by decide +kernel
theorem dX0_reserveCents_16 : decode cX0_reserveCents 16 = .ok (.ldc2_w 47, 3) := by decide +kernel
theorem dX0_reserveCents_19 : decode cX0_reserveCents 19 = .ok (.ldiv, 1) := by decide +kernel
theorem dX0_reserveCents_20 : decode cX0_reserveCents 20 = .ok (.l2i, 1) := by decide +kernel
theorem dX0_reserveCents_21 : decode cX0_reserveCents 21 = .ok (.ireturn, 1) := by decide +kernel
theorem dX0_ageOf_0 : decode cX0_ageOf 0 = .ok (.aload_n 0, 1) := by decide +kernel
theorem dX0_ageOf_1 : decode cX0_ageOf 1 = .ok (.getfield 28, 3) := by decide +kernel
theorem dX0_ageOf_4 : decode cX0_ageOf 4 = .ok (.iload_n 1, 1) := by decide +kernel
theorem dX0_ageOf_5 : decode cX0_ageOf 5 = .ok (.invokevirtual 49, 3) := by decide +kernel
theorem dX0_ageOf_8 : decode cX0_ageOf 8 = .ok (.ifCond .eq 20, 3) := by decide +kernel
theorem dX0_ageOf_11 : decode cX0_ageOf 11 = .ok (.aload_n 0, 1) := by decide +kernel
theorem dX0_ageOf_12 : decode cX0_ageOf 12 = .ok (.getfield 53, 3) := by decide +kernel
theorem dX0_ageOf_15 : decode cX0_ageOf 15 = .ok (.aload_n 0, 1) := by decide +kernel
theorem dX0_ageOf_16 : decode cX0_ageOf 16 = .ok (.getfield 28, 3) := by decide +kernel
theorem dX0_ageOf_19 : decode cX0_ageOf 19 = .ok (.getfield 57, 3) := by decide +kernel
theorem dX0_ageOf_22 : decode cX0_ageOf 22 = .ok (.iload_n 1, 1) := by decide +kernel
theorem dX0_ageOf_23 : decode cX0_ageOf 23 = .ok (.iaload, 1) := by decide +kernel
theorem dX0_ageOf_24 : decode cX0_ageOf 24 = .ok (.isub, 1) := by decide +kernel
theorem dX0_ageOf_25 : decode cX0_ageOf 25 = .ok (.goto 4, 3) := by decide +kernel
theorem dX0_ageOf_28 : decode cX0_ageOf 28 = .ok (.iconst 0, 1) := by decide +kernel
theorem dX0_ageOf_29 : decode cX0_ageOf 29 = .ok (.ireturn, 1) := by decide +kernel
theorem dX0_lateAfter_0 : decode cX0_lateAfter 0 = .ok (.aload_n 0, 1) := by decide +kernel
theorem dX0_lateAfter_1 : decode cX0_lateAfter 1 = .ok (.iload_n 1, 1) := by decide +kernel
theorem dX0_lateAfter_2 : decode cX0_lateAfter 2 = .ok (.invokevirtual 60, 3) := by decide +kernel
theorem dX0_lateAfter_5 : decode cX0_lateAfter 5 = .ok (.iload_n 2, 1) := by decide +kernel
theorem dX0_lateAfter_6 : decode cX0_lateAfter 6 = .ok (.iadd, 1) := by decide +kernel
theorem dX0_lateAfter_7 : decode cX0_lateAfter 7 = .ok (.istore_n 3, 1) := by decide +kernel
theorem dX0_lateAfter_8 : decode cX0_lateAfter 8 = .ok (.iload_n 3, 1) := by decide +kernel
theorem dX0_lateAfter_9 : decode cX0_lateAfter 9 = .ok (.ifCond .le 7, 3) := by decide +kernel
theorem dX0_lateAfter_12 : decode cX0_lateAfter 12 = .ok (.iload_n 3, 1) := by decide +kernel
theorem dX0_lateAfter_13 : decode cX0_lateAfter 13 = .ok (.goto 4, 3) := by decide +kernel
theorem dX0_lateAfter_16 : decode cX0_lateAfter 16 = .ok (.iconst 0, 1) := by decide +kernel
theorem dX0_lateAfter_17 : decode cX0_lateAfter 17 = .ok (.ireturn, 1) := by decide +kernel
theorem dX0_rateAfter_0 : decode cX0_rateAfter 0 = .ok (.aload_n 0, 1) := by decide +kernel
theorem dX0_rateAfter_1 : decode cX0_rateAfter 1 = .ok (.getfield 28, 3) := by decide +kernel
theorem dX0_rateAfter_4 : decode cX0_rateAfter 4 = .ok (.iload_n 1, 1) := by decide +kernel
theorem dX0_rateAfter_5 : decode cX0_rateAfter 5 = .ok (.invokevirtual 49, 3) := by decide +kernel
theorem dX0_rateAfter_8 : decode cX0_rateAfter 8 = .ok (.ifCond .ne 7, 3) := by decide +kernel
theorem dX0_rateAfter_11 : decode cX0_rateAfter 11 = .ok (.invokestatic 64, 3) := by decide +kernel
theorem dX0_rateAfter_14 : decode cX0_rateAfter 14 = .ok (.freturn, 1) := by decide +kernel
theorem dX0_rateAfter_15 : decode cX0_rateAfter 15 = .ok (.aload_n 0, 1) := by decide +kernel
theorem dX0_rateAfter_16 : decode cX0_rateAfter 16 = .ok (.getfield 32, 3) := by decide +kernel
theorem dX0_rateAfter_19 : decode cX0_rateAfter 19 = .ok (.iconst 0, 1) := by decide +kernel
theorem dX0_rateAfter_20 : decode cX0_rateAfter 20 = .ok (.faload, 1) := by decide +kernel
theorem dX0_rateAfter_21 : decode cX0_rateAfter 21 = .ok (.aload_n 0, 1) := by decide +kernel
theorem dX0_rateAfter_22 : decode cX0_rateAfter 22 = .ok (.getfield 32, 3) := by decide +kernel
theorem dX0_rateAfter_25 : decode cX0_rateAfter 25 = .ok (.iconst 1, 1) := by decide +kernel
theorem dX0_rateAfter_26 : decode cX0_rateAfter 26 = .ok (.faload, 1) := by decide +kernel
theorem dX0_rateAfter_27 : decode cX0_rateAfter 27 = .ok (.aload_n 0, 1) := by decide +kernel
theorem dX0_rateAfter_28 : decode cX0_rateAfter 28 = .ok (.iload_n 1, 1) := by decide +kernel
theorem dX0_rateAfter_29 : decode cX0_rateAfter 29 = .ok (.iload_n 2, 1) := by decide +kernel
theorem dX0_rateAfter_30 : decode cX0_rateAfter 30 = .ok (.invokevirtual 68, 3) := by decide +kernel
theorem dX0_rateAfter_33 : decode cX0_rateAfter 33 = .ok (.i2f, 1) := by decide +kernel
theorem dX0_rateAfter_34 : decode cX0_rateAfter 34 = .ok (.fmul, 1) := by decide +kernel
theorem dX0_rateAfter_35 : decode cX0_rateAfter 35 = .ok (.fsub, 1) := by decide +kernel
theorem dX0_rateAfter_36 : decode cX0_rateAfter 36 = .ok (.fstore_n 3, 1) := by decide +kernel
theorem dX0_rateAfter_37 : decode cX0_rateAfter 37 = .ok (.fload_n 3, 1) := by decide +kernel
theorem dX0_rateAfter_38 : decode cX0_rateAfter 38 = .ok (.fconst 0, 1) := by decide +kernel
theorem dX0_rateAfter_39 : decode cX0_rateAfter 39 = .ok (.fcmp .l, 1) := by decide +kernel
theorem dX0_rateAfter_40 : decode cX0_rateAfter 40 = .ok (.ifCond .le 7, 3) := by decide +kernel
theorem dX0_rateAfter_43 : decode cX0_rateAfter 43 = .ok (.fload_n 3, 1) := by decide +kernel
theorem dX0_rateAfter_44 : decode cX0_rateAfter 44 = .ok (.goto 4, 3) := by decide +kernel
theorem dX0_rateAfter_47 : decode cX0_rateAfter 47 = .ok (.fconst 0, 1) := by decide +kernel
theorem dX0_rateAfter_48 : decode cX0_rateAfter 48 = .ok (.fstore 4, 2) := by decide +kernel
theorem dX0_rateAfter_50 : decode cX0_rateAfter 50 = .ok (.fload 4, 2) := by decide +kernel
theorem dX0_rateAfter_52 : decode cX0_rateAfter 52 = .ok (.fconst 1, 1) := by decide +kernel
theorem dX0_rateAfter_53 : decode cX0_rateAfter 53 = .ok (.aload_n 0, 1) := by decide +kernel
theorem dX0_rateAfter_54 : decode cX0_rateAfter 54 = .ok (.getfield 21, 3) := by decide +kernel
theorem dX0_rateAfter_57 : decode cX0_rateAfter 57 = .ok (.aload_n 0, 1) := by decide +kernel
theorem dX0_rateAfter_58 : decode cX0_rateAfter 58 = .ok (.getfield 28, 3) := by decide +kernel
theorem dX0_rateAfter_61 : decode cX0_rateAfter 61 = .ok (.getfield 72, 3) := by decide +kernel
theorem dX0_rateAfter_64 : decode cX0_rateAfter 64 = .ok (.iload_n 1, 1) := by decide +kernel
theorem dX0_rateAfter_65 : decode cX0_rateAfter 65 = .ok (.iaload, 1) := by decide +kernel
theorem dX0_rateAfter_66 : decode cX0_rateAfter 66 = .ok (.invokevirtual 75, 3) := by decide +kernel
theorem dX0_rateAfter_69 : decode cX0_rateAfter 69 = .ok (.fsub, 1) := by decide +kernel
theorem dX0_rateAfter_70 : decode cX0_rateAfter 70 = .ok (.fmul, 1) := by decide +kernel
theorem dX0_rateAfter_71 : decode cX0_rateAfter 71 = .ok (.freturn, 1) := by decide +kernel
theorem dX0_offerAfter_0 : decode cX0_offerAfter 0 = .ok (.aload_n 0, 1) := by decide +kernel
theorem dX0_offerAfter_1 : decode cX0_offerAfter 1 = .ok (.getfield 28, 3) := by decide +kernel
theorem dX0_offerAfter_4 : decode cX0_offerAfter 4 = .ok (.iload_n 1, 1) := by decide +kernel
theorem dX0_offerAfter_5 : decode cX0_offerAfter 5 = .ok (.invokevirtual 49, 3) := by decide +kernel
theorem dX0_offerAfter_8 : decode cX0_offerAfter 8 = .ok (.ifCond .ne 5, 3) := by decide +kernel
theorem dX0_offerAfter_11 : decode cX0_offerAfter 11 = .ok (.iconst 0, 1) := by decide +kernel
theorem dX0_offerAfter_12 : decode cX0_offerAfter 12 = .ok (.ireturn, 1) := by decide +kernel
theorem dX0_offerAfter_13 : decode cX0_offerAfter 13 = .ok (.aload_n 0, 1) := by decide +kernel
theorem dX0_offerAfter_14 : decode cX0_offerAfter 14 = .ok (.getfield 28, 3) := by decide +kernel
theorem dX0_offerAfter_17 : decode cX0_offerAfter 17 = .ok (.getfield 79, 3) := by decide +kernel
theorem dX0_offerAfter_20 : decode cX0_offerAfter 20 = .ok (.iload_n 1, 1) := by decide +kernel
theorem dX0_offerAfter_21 : decode cX0_offerAfter 21 = .ok (.iaload, 1) := by decide +kernel
theorem dX0_offerAfter_22 : decode cX0_offerAfter 22 = .ok (.i2f, 1) := by decide +kernel
theorem dX0_offerAfter_23 : decode cX0_offerAfter 23 = .ok (.aload_n 0, 1) := by decide +kernel
theorem dX0_offerAfter_24 : decode cX0_offerAfter 24 = .ok (.iload_n 1, 1) := by decide +kernel
theorem dX0_offerAfter_25 : decode cX0_offerAfter 25 = .ok (.iload_n 2, 1) := by decide +kernel
theorem dX0_offerAfter_26 : decode cX0_offerAfter 26 = .ok (.invokevirtual 82, 3) := by decide +kernel
theorem dX0_offerAfter_29 : decode cX0_offerAfter 29 = .ok (.fmul, 1) := by decide +kernel
theorem dX0_offerAfter_30 : decode cX0_offerAfter 30 = .ok (.f2i, 1) := by decide +kernel
theorem dX0_offerAfter_31 : decode cX0_offerAfter 31 = .ok (.ireturn, 1) := by decide +kernel
theorem dX0_worthOf_0 : decode cX0_worthOf 0 = .ok (.aload_n 0, 1) := by decide +kernel
theorem dX0_worthOf_1 : decode cX0_worthOf 1 = .ok (.getfield 28, 3) := by decide +kernel
theorem dX0_worthOf_4 : decode cX0_worthOf 4 = .ok (.iload_n 1, 1) := by decide +kernel
theorem dX0_worthOf_5 : decode cX0_worthOf 5 = .ok (.invokevirtual 49, 3) := by decide +kernel
theorem dX0_worthOf_8 : decode cX0_worthOf 8 = .ok (.ifCond .ne 7, 3) := by decide +kernel
theorem dX0_worthOf_11 : decode cX0_worthOf 11 = .ok (.invokestatic 64, 3) := by decide +kernel
theorem dX0_worthOf_14 : decode cX0_worthOf 14 = .ok (.freturn, 1) := by decide +kernel
theorem dX0_worthOf_15 : decode cX0_worthOf 15 = .ok (.aload_n 0, 1) := by decide +kernel
theorem dX0_worthOf_16 : decode cX0_worthOf 16 = .ok (.iload_n 1, 1) := by decide +kernel
theorem dX0_worthOf_17 : decode cX0_worthOf 17 = .ok (.iconst 0, 1) := by decide +kernel
theorem dX0_worthOf_18 : decode cX0_worthOf 18 = .ok (.invokevirtual 86, 3) := by decide +kernel
theorem dX0_worthOf_21 : decode cX0_worthOf 21 = .ok (.istore_n 2, 1) := by decide +kernel
theorem dX0_worthOf_22 : decode cX0_worthOf 22 = .ok (.aload_n 0, 1) := by decide +kernel
theorem dX0_worthOf_23 : decode cX0_worthOf 23 = .ok (.getfield 21, 3) := by decide +kernel
theorem dX0_worthOf_26 : decode cX0_worthOf 26 = .ok (.aload_n 0, 1) := by decide +kernel
theorem dX0_worthOf_27 : decode cX0_worthOf 27 = .ok (.getfield 28, 3) := by decide +kernel
theorem dX0_worthOf_30 : decode cX0_worthOf 30 = .ok (.getfield 72, 3) := by decide +kernel
theorem dX0_worthOf_33 : decode cX0_worthOf 33 = .ok (.iload_n 1, 1) := by decide +kernel
theorem dX0_worthOf_34 : decode cX0_worthOf 34 = .ok (.iaload, 1) := by decide +kernel
theorem dX0_worthOf_35 : decode cX0_worthOf 35 = .ok (.invokevirtual 75, 3) := by decide +kernel
theorem dX0_worthOf_38 : decode cX0_worthOf 38 = .ok (.fstore_n 3, 1) := by decide +kernel
theorem dX0_worthOf_39 : decode cX0_worthOf 39 = .ok (.aload_n 0, 1) := by decide +kernel
theorem dX0_worthOf_40 : decode cX0_worthOf 40 = .ok (.getfield 28, 3) := by decide +kernel
theorem dX0_worthOf_43 : decode cX0_worthOf 43 = .ok (.getfield 79, 3) := by decide +kernel
theorem dX0_worthOf_46 : decode cX0_worthOf 46 = .ok (.iload_n 1, 1) := by decide +kernel
theorem dX0_worthOf_47 : decode cX0_worthOf 47 = .ok (.iaload, 1) := by decide +kernel
theorem dX0_worthOf_48 : decode cX0_worthOf 48 = .ok (.iload_n 2, 1) := by decide +kernel
theorem dX0_worthOf_49 : decode cX0_worthOf 49 = .ok (.isub, 1) := by decide +kernel
theorem dX0_worthOf_50 : decode cX0_worthOf 50 = .ok (.i2f, 1) := by decide +kernel
theorem dX0_worthOf_51 : decode cX0_worthOf 51 = .ok (.fconst 1, 1) := by decide +kernel
theorem dX0_worthOf_52 : decode cX0_worthOf 52 = .ok (.fload_n 3, 1) := by decide +kernel
theorem dX0_worthOf_53 : decode cX0_worthOf 53 = .ok (.fsub, 1) := by decide +kernel
theorem dX0_worthOf_54 : decode cX0_worthOf 54 = .ok (.fmul, 1) := by decide +kernel
theorem dX0_worthOf_55 : decode cX0_worthOf 55 = .ok (.fstore 4, 2) := by decide +kernel
theorem dX0_worthOf_57 : decode cX0_worthOf 57 = .ok (.fload 4, 2) := by decide +kernel
theorem dX0_worthOf_59 : decode cX0_worthOf 59 = .ok (.iload_n 2, 1) := by decide +kernel
theorem dX0_worthOf_60 : decode cX0_worthOf 60 = .ok (.i2f, 1) := by decide +kernel
theorem dX0_worthOf_61 : decode cX0_worthOf 61 = .ok (.fload_n 3, 1) := by decide +kernel
theorem dX0_worthOf_62 : decode cX0_worthOf 62 = .ok (.fmul, 1) := by decide +kernel
theorem dX0_worthOf_63 : decode cX0_worthOf 63 = .ok (.fsub, 1) := by decide +kernel
theorem dX0_worthOf_64 : decode cX0_worthOf 64 = .ok (.freturn, 1) := by decide +kernel
theorem dX0_canPayAhead_0 : decode cX0_canPayAhead 0 = .ok (.aload_n 0, 1) := by decide +kernel
theorem dX0_canPayAhead_1 : decode cX0_canPayAhead 1 = .ok (.getfield 28, 3) := by decide +kernel
theorem dX0_canPayAhead_4 : decode cX0_canPayAhead 4 = .ok (.iload_n 1, 1) := by decide +kernel
theorem dX0_canPayAhead_5 : decode cX0_canPayAhead 5 = .ok (.invokevirtual 49, 3) := by decide +kernel
theorem dX0_canPayAhead_8 : decode cX0_canPayAhead 8 = .ok (.ifCond .ne 5, 3) := by decide +kernel
theorem dX0_canPayAhead_11 : decode cX0_canPayAhead 11 = .ok (.iconst 0, 1) := by decide +kernel
theorem dX0_canPayAhead_12 : decode cX0_canPayAhead 12 = .ok (.ireturn, 1) := by decide +kernel
theorem dX0_canPayAhead_13 : decode cX0_canPayAhead 13 = .ok (.aload_n 0, 1) := by decide +kernel
theorem dX0_canPayAhead_14 : decode cX0_canPayAhead 14 = .ok (.getfield 28, 3) := by decide +kernel
theorem dX0_canPayAhead_17 : decode cX0_canPayAhead 17 = .ok (.getfield 89, 3) := by decide +kernel
theorem dX0_canPayAhead_20 : decode cX0_canPayAhead 20 = .ok (.iload_n 1, 1) := by decide +kernel
theorem dX0_canPayAhead_21 : decode cX0_canPayAhead 21 = .ok (.iaload, 1) := by decide +kernel
theorem dX0_canPayAhead_22 : decode cX0_canPayAhead 22 = .ok (.ifCond .ne 15, 3) := by decide +kernel
theorem dX0_canPayAhead_25 : decode cX0_canPayAhead 25 = .ok (.aload_n 0, 1) := by decide +kernel
theorem dX0_canPayAhead_26 : decode cX0_canPayAhead 26 = .ok (.getfield 28, 3) := by decide +kernel
theorem dX0_canPayAhead_29 : decode cX0_canPayAhead 29 = .ok (.getfield 92, 3) := by decide +kernel
theorem dX0_canPayAhead_32 : decode cX0_canPayAhead 32 = .ok (.iload_n 1, 1) := by decide +kernel
theorem dX0_canPayAhead_33 : decode cX0_canPayAhead 33 = .ok (.iaload, 1) := by decide +kernel
theorem dX0_canPayAhead_34 : decode cX0_canPayAhead 34 = .ok (.ifCond .eq 5, 3) := by decide +kernel
theorem dX0_canPayAhead_37 : decode cX0_canPayAhead 37 = .ok (.iconst 0, 1) := by decide +kernel
theorem dX0_canPayAhead_38 : decode cX0_canPayAhead 38 = .ok (.ireturn, 1) := by decide +kernel
theorem dX0_canPayAhead_39 : decode cX0_canPayAhead 39 = .ok (.aload_n 0, 1) := by decide +kernel
theorem dX0_canPayAhead_40 : decode cX0_canPayAhead 40 = .ok (.iload_n 1, 1) := by decide +kernel
theorem dX0_canPayAhead_41 : decode cX0_canPayAhead 41 = .ok (.invokevirtual 60, 3) := by decide +kernel
theorem dX0_canPayAhead_44 : decode cX0_canPayAhead 44 = .ok (.aload_n 0, 1) := by decide +kernel
theorem dX0_canPayAhead_45 : decode cX0_canPayAhead 45 = .ok (.getfield 36, 3) := by decide +kernel
theorem dX0_canPayAhead_48 : decode cX0_canPayAhead 48 = .ok (.iconst 0, 1) := by decide +kernel
theorem dX0_canPayAhead_49 : decode cX0_canPayAhead 49 = .ok (.iaload, 1) := by decide +kernel
theorem dX0_canPayAhead_50 : decode cX0_canPayAhead 50 = .ok (.if_icmp .ge 5, 3) := by decide +kernel
theorem dX0_canPayAhead_53 : decode cX0_canPayAhead 53 = .ok (.iconst 0, 1) := by decide +kernel
theorem dX0_canPayAhead_54 : decode cX0_canPayAhead 54 = .ok (.ireturn, 1) := by decide +kernel
theorem dX0_canPayAhead_55 : decode cX0_canPayAhead 55 = .ok (.aload_n 0, 1) := by decide +kernel
theorem dX0_canPayAhead_56 : decode cX0_canPayAhead 56 = .ok (.iload_n 1, 1) := by decide +kernel
theorem dX0_canPayAhead_57 : decode cX0_canPayAhead 57 = .ok (.iconst 0, 1) := by decide +kernel
theorem dX0_canPayAhead_58 : decode cX0_canPayAhead 58 = .ok (.invokevirtual 86, 3) := by decide +kernel
theorem dX0_canPayAhead_61 : decode cX0_canPayAhead 61 = .ok (.istore_n 2, 1) := by decide +kernel
theorem dX0_canPayAhead_62 : decode cX0_canPayAhead 62 = .ok (.iload_n 2, 1) := by decide +kernel
theorem dX0_canPayAhead_63 : decode cX0_canPayAhead 63 = .ok (.ifCond .le 20, 3) := by decide +kernel
theorem dX0_canPayAhead_66 : decode cX0_canPayAhead 66 = .ok (.aload_n 0, 1) := by decide +kernel
theorem dX0_canPayAhead_67 : decode cX0_canPayAhead 67 = .ok (.getfield 95, 3) := by decide +kernel
theorem dX0_canPayAhead_70 : decode cX0_canPayAhead 70 = .ok (.iload_n 2, 1) := by decide +kernel
theorem dX0_canPayAhead_71 : decode cX0_canPayAhead 71 = .ok (.isub, 1) := by decide +kernel
theorem dX0_canPayAhead_72 : decode cX0_canPayAhead 72 = .ok (.aload_n 0, 1) := by decide +kernel
theorem dX0_canPayAhead_73 : decode cX0_canPayAhead 73 = .ok (.invokevirtual 98, 3) := by decide +kernel
theorem dX0_canPayAhead_76 : decode cX0_canPayAhead 76 = .ok (.if_icmp .lt 7, 3) := by decide +kernel
theorem dX0_canPayAhead_79 : decode cX0_canPayAhead 79 = .ok (.iconst 1, 1) := by decide +kernel
theorem dX0_canPayAhead_80 : decode cX0_canPayAhead 80 = .ok (.goto 4, 3) := by decide +kernel
theorem dX0_canPayAhead_83 : decode cX0_canPayAhead 83 = .ok (.iconst 0, 1) := by decide +kernel
theorem dX0_canPayAhead_84 : decode cX0_canPayAhead 84 = .ok (.ireturn, 1) := by decide +kernel
theorem dX0_canGiveUp_0 : decode cX0_canGiveUp 0 = .ok (.aload_n 0, 1) := by decide +kernel
theorem dX0_canGiveUp_1 : decode cX0_canGiveUp 1 = .ok (.getfield 28, 3) := by decide +kernel
theorem dX0_canGiveUp_4 : decode cX0_canGiveUp 4 = .ok (.iload_n 1, 1) := by decide +kernel
theorem dX0_canGiveUp_5 : decode cX0_canGiveUp 5 = .ok (.invokevirtual 101, 3) := by decide +kernel
theorem dX0_canGiveUp_8 : decode cX0_canGiveUp 8 = .ok (.ifCond .eq 21, 3) := by decide +kernel
theorem dX0_canGiveUp_11 : decode cX0_canGiveUp 11 = .ok (.aload_n 0, 1) := by decide +kernel
theorem dX0_canGiveUp_12 : decode cX0_canGiveUp 12 = .ok (.iload_n 1, 1) := by decide +kernel
theorem dX0_canGiveUp_13 : decode cX0_canGiveUp 13 = .ok (.invokevirtual 60, 3) := by decide +kernel
theorem dX0_canGiveUp_16 : decode cX0_canGiveUp 16 = .ok (.aload_n 0, 1) := by decide +kernel
theorem dX0_canGiveUp_17 : decode cX0_canGiveUp 17 = .ok (.getfield 36, 3) := by decide +kernel
theorem dX0_canGiveUp_20 : decode cX0_canGiveUp 20 = .ok (.iconst 2, 1) := by decide +kernel
theorem dX0_canGiveUp_21 : decode cX0_canGiveUp 21 = .ok (.iaload, 1) := by decide +kernel
theorem dX0_canGiveUp_22 : decode cX0_canGiveUp 22 = .ok (.if_icmp .lt 7, 3) := by decide +kernel
theorem dX0_canGiveUp_25 : decode cX0_canGiveUp 25 = .ok (.iconst 1, 1) := by decide +kernel
theorem dX0_canGiveUp_26 : decode cX0_canGiveUp 26 = .ok (.goto 4, 3) := by decide +kernel
theorem dX0_canGiveUp_29 : decode cX0_canGiveUp 29 = .ok (.iconst 0, 1) := by decide +kernel
theorem dX0_canGiveUp_30 : decode cX0_canGiveUp 30 = .ok (.ireturn, 1) := by decide +kernel
theorem dX0_advance_0 : decode cX0_advance 0 = .ok (.aload_n 0, 1) := by decide +kernel
theorem dX0_advance_1 : decode cX0_advance 1 = .ok (.getfield 28, 3) := by decide +kernel
theorem dX0_advance_4 : decode cX0_advance 4 = .ok (.iload_n 1, 1) := by decide +kernel
theorem dX0_advance_5 : decode cX0_advance 5 = .ok (.invokevirtual 49, 3) := by decide +kernel
theorem dX0_advance_8 : decode cX0_advance 8 = .ok (.ifCond .ne 5, 3) := by decide +kernel
theorem dX0_advance_11 : decode cX0_advance 11 = .ok (.iconst (-1), 1) := by decide +kernel
theorem dX0_advance_12 : decode cX0_advance 12 = .ok (.ireturn, 1) := by decide +kernel
theorem dX0_advance_13 : decode cX0_advance 13 = .ok (.aload_n 0, 1) := by decide +kernel
theorem dX0_advance_14 : decode cX0_advance 14 = .ok (.iload_n 1, 1) := by decide +kernel
theorem dX0_advance_15 : decode cX0_advance 15 = .ok (.iconst 0, 1) := by decide +kernel
theorem dX0_advance_16 : decode cX0_advance 16 = .ok (.invokevirtual 86, 3) := by decide +kernel
theorem dX0_advance_19 : decode cX0_advance 19 = .ok (.istore_n 2, 1) := by decide +kernel
theorem dX0_advance_20 : decode cX0_advance 20 = .ok (.aload_n 0, 1) := by decide +kernel
theorem dX0_advance_21 : decode cX0_advance 21 = .ok (.getfield 28, 3) := by decide +kernel
theorem dX0_advance_24 : decode cX0_advance 24 = .ok (.getfield 89, 3) := by decide +kernel
theorem dX0_advance_27 : decode cX0_advance 27 = .ok (.iload_n 1, 1) := by decide +kernel
theorem dX0_advance_28 : decode cX0_advance 28 = .ok (.iconst 1, 1) := by decide +kernel
theorem dX0_advance_29 : decode cX0_advance 29 = .ok (.iastore, 1) := by decide +kernel
theorem dX0_advance_30 : decode cX0_advance 30 = .ok (.aload_n 0, 1) := by decide +kernel
theorem dX0_advance_31 : decode cX0_advance 31 = .ok (.getfield 28, 3) := by decide +kernel
theorem dX0_advance_34 : decode cX0_advance 34 = .ok (.getfield 104, 3) := by decide +kernel
theorem dX0_advance_37 : decode cX0_advance 37 = .ok (.iload_n 1, 1) := by decide +kernel
theorem dX0_advance_38 : decode cX0_advance 38 = .ok (.iload_n 2, 1) := by decide +kernel
theorem dX0_advance_39 : decode cX0_advance 39 = .ok (.iastore, 1) := by decide +kernel
theorem dX0_advance_40 : decode cX0_advance 40 = .ok (.aload_n 0, 1) := by decide +kernel
theorem dX0_advance_41 : decode cX0_advance 41 = .ok (.getfield 12, 3) := by decide +kernel
theorem dX0_advance_44 : decode cX0_advance 44 = .ok (.aload_n 0, 1) := by decide +kernel
theorem dX0_advance_45 : decode cX0_advance 45 = .ok (.getfield 28, 3) := by decide +kernel
theorem dX0_advance_48 : decode cX0_advance 48 = .ok (.getfield 107, 3) := by decide +kernel
theorem dX0_advance_51 : decode cX0_advance 51 = .ok (.iload_n 1, 1) := by decide +kernel
theorem dX0_advance_52 : decode cX0_advance 52 = .ok (.iaload, 1) := by decide +kernel
theorem dX0_advance_53 : decode cX0_advance 53 = .ok (.iload_n 2, 1) := by decide +kernel
theorem dX0_advance_54 : decode cX0_advance 54 = .ok (.invokevirtual 110, 3) := by decide +kernel
theorem dX0_advance_57 : decode cX0_advance 57 = .ok (.aload_n 0, 1) := by decide +kernel
theorem dX0_advance_58 : decode cX0_advance 58 = .ok (.dup, 1) := by decide +kernel
theorem dX0_advance_59 : decode cX0_advance 59 = .ok (.getfield 95, 3) := by decide +kernel
theorem dX0_advance_62 : decode cX0_advance 62 = .ok (.iload_n 2, 1) := by decide +kernel
theorem dX0_advance_63 : decode cX0_advance 63 = .ok (.isub, 1) := by decide +kernel
theorem dX0_advance_64 : decode cX0_advance 64 = .ok (.putfield 95, 3) := by decide +kernel
theorem dX0_advance_67 : decode cX0_advance 67 = .ok (.aload_n 0, 1) := by decide +kernel
theorem dX0_advance_68 : decode cX0_advance 68 = .ok (.dup, 1) := by decide +kernel
theorem dX0_advance_69 : decode cX0_advance 69 = .ok (.getfield 114, 3) := by decide +kernel
theorem dX0_advance_72 : decode cX0_advance 72 = .ok (.iload_n 2, 1) := by decide +kernel
theorem dX0_advance_73 : decode cX0_advance 73 = .ok (.iadd, 1) := by decide +kernel
theorem dX0_advance_74 : decode cX0_advance 74 = .ok (.putfield 114, 3) := by decide +kernel
theorem dX0_advance_77 : decode cX0_advance 77 = .ok (.iload_n 2, 1) := by decide +kernel
theorem dX0_advance_78 : decode cX0_advance 78 = .ok (.ireturn, 1) := by decide +kernel
theorem dX0_errorOfPayment_0 : decode cX0_errorOfPayment 0 = .ok (.aload_n 0, 1) := by decide +kernel
theorem dX0_errorOfPayment_1 : decode cX0_errorOfPayment 1 = .ok (.getfield 28, 3) := by decide +kernel
theorem dX0_errorOfPayment_4 : decode cX0_errorOfPayment 4 = .ok (.iload_n 1, 1) := by decide +kernel
theorem dX0_errorOfPayment_5 : decode cX0_errorOfPayment 5 = .ok (.invokevirtual 49, 3) := by decide +kernel
theorem dX0_errorOfPayment_8 : decode cX0_errorOfPayment 8 = .ok (.ifCond .ne 5, 3) := by decide +kernel
theorem dX0_errorOfPayment_11 : decode cX0_errorOfPayment 11 = .ok (.iconst (-1), 1) := by decide +kernel
theorem dX0_errorOfPayment_12 : decode cX0_errorOfPayment 12 = .ok (.ireturn, 1) := by decide +kernel
theorem dX0_errorOfPayment_13 : decode cX0_errorOfPayment 13 = .ok (.aload_n 0, 1) := by decide +kernel
theorem dX0_errorOfPayment_14 : decode cX0_errorOfPayment 14 = .ok (.getfield 28, 3) := by decide +kernel
theorem dX0_errorOfPayment_17 : decode cX0_errorOfPayment 17 = .ok (.iload_n 1, 1) := by decide +kernel
theorem dX0_errorOfPayment_18 : decode cX0_errorOfPayment 18 = .ok (.invokevirtual 101, 3) := by decide +kernel
theorem dX0_errorOfPayment_21 : decode cX0_errorOfPayment 21 = .ok (.ifCond .ne 6, 3) := by decide +kernel
theorem dX0_errorOfPayment_24 : decode cX0_errorOfPayment 24 = .ok (.bipush (-4), 2) := by decide +kernel
theorem dX0_errorOfPayment_26 : decode cX0_errorOfPayment 26 = .ok (.ireturn, 1) := by decide +kernel
theorem dX0_errorOfPayment_27 : decode cX0_errorOfPayment 27 = .ok (.aload_n 0, 1) := by decide +kernel
theorem dX0_errorOfPayment_28 : decode cX0_errorOfPayment 28 = .ok (.getfield 28, 3) := by decide +kernel
theorem dX0_errorOfPayment_31 : decode cX0_errorOfPayment 31 = .ok (.getfield 79, 3) := by decide +kernel
theorem dX0_errorOfPayment_34 : decode cX0_errorOfPayment 34 = .ok (.iload_n 1, 1) := by decide +kernel
theorem dX0_errorOfPayment_35 : decode cX0_errorOfPayment 35 = .ok (.iaload, 1) := by decide +kernel
theorem dX0_errorOfPayment_36 : decode cX0_errorOfPayment 36 = .ok (.aload_n 0, 1) := by decide +kernel
theorem dX0_errorOfPayment_37 : decode cX0_errorOfPayment 37 = .ok (.getfield 28, 3) := by decide +kernel
theorem dX0_errorOfPayment_40 : decode cX0_errorOfPayment 40 = .ok (.getfield 92, 3) := by decide +kernel
theorem dX0_errorOfPayment_43 : decode cX0_errorOfPayment 43 = .ok (.iload_n 1, 1) := by decide +kernel
theorem dX0_errorOfPayment_44 : decode cX0_errorOfPayment 44 = .ok (.iaload, 1) := by decide +kernel
theorem dX0_errorOfPayment_45 : decode cX0_errorOfPayment 45 = .ok (.isub, 1) := by decide +kernel
theorem dX0_errorOfPayment_46 : decode cX0_errorOfPayment 46 = .ok (.istore_n 3, 1) := by decide +kernel
theorem dX0_errorOfPayment_47 : decode cX0_errorOfPayment 47 = .ok (.iload_n 2, 1) := by decide +kernel
theorem dX0_errorOfPayment_48 : decode cX0_errorOfPayment 48 = .ok (.iconst 1, 1) := by decide +kernel
theorem dX0_errorOfPayment_49 : decode cX0_errorOfPayment 49 = .ok (.if_icmp .lt 8, 3) := by decide +kernel
theorem dX0_errorOfPayment_52 : decode cX0_errorOfPayment 52 = .ok (.iload_n 2, 1) := by decide +kernel
theorem dX0_errorOfPayment_53 : decode cX0_errorOfPayment 53 = .ok (.iload_n 3, 1) := by decide +kernel
theorem dX0_errorOfPayment_54 : decode cX0_errorOfPayment 54 = .ok (.if_icmp .le 8, 3) := by decide +kernel
theorem dX0_errorOfPayment_57 : decode cX0_errorOfPayment 57 = .ok (.bipush (-2), 2) := by decide +kernel
theorem dX0_errorOfPayment_59 : decode cX0_errorOfPayment 59 = .ok (.goto 4, 3) := by decide +kernel
theorem dX0_errorOfPayment_62 : decode cX0_errorOfPayment 62 = .ok (.iconst 0, 1) := by decide +kernel
theorem dX0_errorOfPayment_63 : decode cX0_errorOfPayment 63 = .ok (.ireturn, 1) := by decide +kernel
theorem dX0_collect_0 : decode cX0_collect 0 = .ok (.aload_n 0, 1) := by decide +kernel
theorem dX0_collect_1 : decode cX0_collect 1 = .ok (.getfield 28, 3) := by decide +kernel
theorem dX0_collect_4 : decode cX0_collect 4 = .ok (.iload_n 1, 1) := by decide +kernel
theorem dX0_collect_5 : decode cX0_collect 5 = .ok (.invokevirtual 49, 3) := by decide +kernel
theorem dX0_collect_8 : decode cX0_collect 8 = .ok (.ifCond .ne 5, 3) := by decide +kernel
theorem dX0_collect_11 : decode cX0_collect 11 = .ok (.iconst (-1), 1) := by decide +kernel
theorem dX0_collect_12 : decode cX0_collect 12 = .ok (.ireturn, 1) := by decide +kernel
theorem dX0_collect_13 : decode cX0_collect 13 = .ok (.aload_n 0, 1) := by decide +kernel
theorem dX0_collect_14 : decode cX0_collect 14 = .ok (.getfield 28, 3) := by decide +kernel
theorem dX0_collect_17 : decode cX0_collect 17 = .ok (.getfield 92, 3) := by decide +kernel
theorem dX0_collect_20 : decode cX0_collect 20 = .ok (.iload_n 1, 1) := by decide +kernel
theorem dX0_collect_21 : decode cX0_collect 21 = .ok (.dup2, 1) := by decide +kernel
theorem dX0_collect_22 : decode cX0_collect 22 = .ok (.iaload, 1) := by decide +kernel
theorem dX0_collect_23 : decode cX0_collect 23 = .ok (.iload_n 2, 1) := by decide +kernel
theorem dX0_collect_24 : decode cX0_collect 24 = .ok (.iadd, 1) := by decide +kernel
theorem dX0_collect_25 : decode cX0_collect 25 = .ok (.iastore, 1) := by decide +kernel
theorem dX0_collect_26 : decode cX0_collect 26 = .ok (.aload_n 0, 1) := by decide +kernel
theorem dX0_collect_27 : decode cX0_collect 27 = .ok (.dup, 1) := by decide +kernel
theorem dX0_collect_28 : decode cX0_collect 28 = .ok (.getfield 117, 3) := by decide +kernel
theorem dX0_collect_31 : decode cX0_collect 31 = .ok (.iload_n 2, 1) := by decide +kernel
theorem dX0_collect_32 : decode cX0_collect 32 = .ok (.iadd, 1) := by decide +kernel
theorem dX0_collect_33 : decode cX0_collect 33 = .ok (.putfield 117, 3) := by decide +kernel
theorem dX0_collect_36 : decode cX0_collect 36 = .ok (.aload_n 0, 1) := by decide +kernel
theorem dX0_collect_37 : decode cX0_collect 37 = .ok (.getfield 28, 3) := by decide +kernel
theorem dX0_collect_40 : decode cX0_collect 40 = .ok (.getfield 89, 3) := by decide +kernel
theorem dX0_collect_43 : decode cX0_collect 43 = .ok (.iload_n 1, 1) := by decide +kernel
theorem dX0_collect_44 : decode cX0_collect 44 = .ok (.iaload, 1) := by decide +kernel
theorem dX0_collect_45 : decode cX0_collect 45 = .ok (.iconst 1, 1) := by decide +kernel
theorem dX0_collect_46 : decode cX0_collect 46 = .ok (.if_icmp .ne 16, 3) := by decide +kernel
theorem dX0_collect_49 : decode cX0_collect 49 = .ok (.aload_n 0, 1) := by decide +kernel
theorem dX0_collect_50 : decode cX0_collect 50 = .ok (.dup, 1) := by decide +kernel
theorem dX0_collect_51 : decode cX0_collect 51 = .ok (.getfield 95, 3) := by decide +kernel
theorem dX0_collect_54 : decode cX0_collect 54 = .ok (.iload_n 2, 1) := by decide +kernel
theorem dX0_collect_55 : decode cX0_collect 55 = .ok (.iadd, 1) := by decide +kernel
theorem dX0_collect_56 : decode cX0_collect 56 = .ok (.putfield 95, 3) := by decide +kernel
theorem dX0_collect_59 : decode cX0_collect 59 = .ok (.goto 20, 3) := by decide +kernel
theorem dX0_collect_62 : decode cX0_collect 62 = .ok (.aload_n 0, 1) := by decide +kernel
theorem dX0_collect_63 : decode cX0_collect 63 = .ok (.getfield 12, 3) := by decide +kernel
theorem dX0_collect_66 : decode cX0_collect 66 = .ok (.aload_n 0, 1) := by decide +kernel
theorem dX0_collect_67 : decode cX0_collect 67 = .ok (.getfield 28, 3) := by decide +kernel
theorem dX0_collect_70 : decode cX0_collect 70 = .ok (.getfield 107, 3) := by decide +kernel
theorem dX0_collect_73 : decode cX0_collect 73 = .ok (.iload_n 1, 1) := by decide +kernel
theorem dX0_collect_74 : decode cX0_collect 74 = .ok (.iaload, 1) := by decide +kernel
theorem dX0_collect_75 : decode cX0_collect 75 = .ok (.iload_n 2, 1) := by decide +kernel
theorem dX0_collect_76 : decode cX0_collect 76 = .ok (.invokevirtual 110, 3) := by decide +kernel
theorem dX0_collect_79 : decode cX0_collect 79 = .ok (.aload_n 0, 1) := by decide +kernel
theorem dX0_collect_80 : decode cX0_collect 80 = .ok (.getfield 28, 3) := by decide +kernel
theorem dX0_collect_83 : decode cX0_collect 83 = .ok (.getfield 79, 3) := by decide +kernel
theorem dX0_collect_86 : decode cX0_collect 86 = .ok (.iload_n 1, 1) := by decide +kernel
theorem dX0_collect_87 : decode cX0_collect 87 = .ok (.iaload, 1) := by decide +kernel
theorem dX0_collect_88 : decode cX0_collect 88 = .ok (.aload_n 0, 1) := by decide +kernel
theorem dX0_collect_89 : decode cX0_collect 89 = .ok (.getfield 28, 3) := by decide +kernel
theorem dX0_collect_92 : decode cX0_collect 92 = .ok (.getfield 92, 3) := by decide +kernel
theorem dX0_collect_95 : decode cX0_collect 95 = .ok (.iload_n 1, 1) := by decide +kernel
theorem dX0_collect_96 : decode cX0_collect 96 = .ok (.iaload, 1) := by decide +kernel
theorem dX0_collect_97 : decode cX0_collect 97 = .ok (.isub, 1) := by decide +kernel
theorem dX0_collect_98 : decode cX0_collect 98 = .ok (.istore_n 3, 1) := by decide +kernel
theorem dX0_collect_99 : decode cX0_collect 99 = .ok (.iload_n 3, 1) := by decide +kernel
theorem dX0_collect_100 : decode cX0_collect 100 = .ok (.ifCond .ne 8, 3) := by decide +kernel
theorem dX0_collect_103 : decode cX0_collect 103 = .ok (.aload_n 0, 1) := by decide +kernel
theorem dX0_collect_104 : decode cX0_collect 104 = .ok (.iload_n 1, 1) := by decide +kernel
theorem dX0_collect_105 : decode cX0_collect 105 = .ok (.invokevirtual 120, 3) := by decide +kernel
theorem dX0_collect_108 : decode cX0_collect 108 = .ok (.iload_n 3, 1) := by decide +kernel
theorem dX0_collect_109 : decode cX0_collect 109 = .ok (.ireturn, 1) := by decide +kernel
theorem dX0_settle_0 : decode cX0_settle 0 = .ok (.aload_n 0, 1) := by decide +kernel
theorem dX0_settle_1 : decode cX0_settle 1 = .ok (.getfield 28, 3) := by decide +kernel
theorem dX0_settle_4 : decode cX0_settle 4 = .ok (.iload_n 1, 1) := by decide +kernel
theorem dX0_settle_5 : decode cX0_settle 5 = .ok (.invokevirtual 49, 3) := by decide +kernel
theorem dX0_settle_8 : decode cX0_settle 8 = .ok (.ifCond .ne 4, 3) := by decide +kernel
theorem dX0_settle_11 : decode cX0_settle 11 = .ok (.return_, 1) := by decide +kernel
theorem dX0_settle_12 : decode cX0_settle 12 = .ok (.aload_n 0, 1) := by decide +kernel
theorem dX0_settle_13 : decode cX0_settle 13 = .ok (.getfield 28, 3) := by decide +kernel
theorem dX0_settle_16 : decode cX0_settle 16 = .ok (.getfield 89, 3) := by decide +kernel
theorem dX0_settle_19 : decode cX0_settle 19 = .ok (.iload_n 1, 1) := by decide +kernel
theorem dX0_settle_20 : decode cX0_settle 20 = .ok (.iaload, 1) := by decide +kernel
theorem dX0_settle_21 : decode cX0_settle 21 = .ok (.iconst 1, 1) := by decide +kernel
theorem dX0_settle_22 : decode cX0_settle 22 = .ok (.if_icmp .ne 8, 3) := by decide +kernel
theorem dX0_settle_25 : decode cX0_settle 25 = .ok (.aload_n 0, 1) := by decide +kernel
theorem dX0_settle_26 : decode cX0_settle 26 = .ok (.iload_n 1, 1) := by decide +kernel
theorem dX0_settle_27 : decode cX0_settle 27 = .ok (.invokevirtual 124, 3) := by decide +kernel
theorem dX0_settle_30 : decode cX0_settle 30 = .ok (.aload_n 0, 1) := by decide +kernel
theorem dX0_settle_31 : decode cX0_settle 31 = .ok (.getfield 28, 3) := by decide +kernel
theorem dX0_settle_34 : decode cX0_settle 34 = .ok (.getfield 89, 3) := by decide +kernel
theorem dX0_settle_37 : decode cX0_settle 37 = .ok (.iload_n 1, 1) := by decide +kernel
theorem dX0_settle_38 : decode cX0_settle 38 = .ok (.iconst 2, 1) := by decide +kernel
theorem dX0_settle_39 : decode cX0_settle 39 = .ok (.iastore, 1) := by decide +kernel
theorem dX0_settle_40 : decode cX0_settle 40 = .ok (.aload_n 0, 1) := by decide +kernel
theorem dX0_settle_41 : decode cX0_settle 41 = .ok (.getfield 21, 3) := by decide +kernel
theorem dX0_settle_44 : decode cX0_settle 44 = .ok (.aload_n 0, 1) := by decide +kernel
theorem dX0_settle_45 : decode cX0_settle 45 = .ok (.getfield 28, 3) := by decide +kernel
theorem dX0_settle_48 : decode cX0_settle 48 = .ok (.getfield 72, 3) := by decide +kernel
theorem dX0_settle_51 : decode cX0_settle 51 = .ok (.iload_n 1, 1) := by decide +kernel
theorem dX0_settle_52 : decode cX0_settle 52 = .ok (.iaload, 1) := by decide +kernel
theorem dX0_settle_53 : decode cX0_settle 53 = .ok (.aload_n 0, 1) := by decide +kernel
theorem dX0_settle_54 : decode cX0_settle 54 = .ok (.iload_n 1, 1) := by decide +kernel
theorem dX0_settle_55 : decode cX0_settle 55 = .ok (.iconst 0, 1) := by decide +kernel
theorem dX0_settle_56 : decode cX0_settle 56 = .ok (.invokevirtual 68, 3) := by decide +kernel
theorem dX0_settle_59 : decode cX0_settle 59 = .ok (.invokevirtual 127, 3) := by decide +kernel
theorem dX0_settle_62 : decode cX0_settle 62 = .ok (.return_, 1) := by decide +kernel
theorem dX0_passOn_0 : decode cX0_passOn 0 = .ok (.aload_n 0, 1) := by decide +kernel
theorem dX0_passOn_1 : decode cX0_passOn 1 = .ok (.getfield 28, 3) := by decide +kernel
theorem dX0_passOn_4 : decode cX0_passOn 4 = .ok (.iload_n 1, 1) := by decide +kernel
theorem dX0_passOn_5 : decode cX0_passOn 5 = .ok (.invokevirtual 49, 3) := by decide +kernel
theorem dX0_passOn_8 : decode cX0_passOn 8 = .ok (.ifCond .ne 4, 3) := by decide +kernel
theorem dX0_passOn_11 : decode cX0_passOn 11 = .ok (.return_, 1) := by decide +kernel
theorem dX0_passOn_12 : decode cX0_passOn 12 = .ok (.aload_n 0, 1) := by decide +kernel
theorem dX0_passOn_13 : decode cX0_passOn 13 = .ok (.getfield 28, 3) := by decide +kernel
theorem dX0_passOn_16 : decode cX0_passOn 16 = .ok (.getfield 79, 3) := by decide +kernel
theorem dX0_passOn_19 : decode cX0_passOn 19 = .ok (.iload_n 1, 1) := by decide +kernel
theorem dX0_passOn_20 : decode cX0_passOn 20 = .ok (.iaload, 1) := by decide +kernel
theorem dX0_passOn_21 : decode cX0_passOn 21 = .ok (.i2f, 1) := by decide +kernel
theorem dX0_passOn_22 : decode cX0_passOn 22 = .ok (.aload_n 0, 1) := by decide +kernel
theorem dX0_passOn_23 : decode cX0_passOn 23 = .ok (.getfield 32, 3) := by decide +kernel
theorem dX0_passOn_26 : decode cX0_passOn 26 = .ok (.iconst 2, 1) := by decide +kernel
theorem dX0_passOn_27 : decode cX0_passOn 27 = .ok (.faload, 1) := by decide +kernel
theorem dX0_passOn_28 : decode cX0_passOn 28 = .ok (.fmul, 1) := by decide +kernel
theorem dX0_passOn_29 : decode cX0_passOn 29 = .ok (.f2i, 1) := by decide +kernel
theorem dX0_passOn_30 : decode cX0_passOn 30 = .ok (.istore_n 2, 1) := by decide +kernel
theorem dX0_passOn_31 : decode cX0_passOn 31 = .ok (.aload_n 0, 1) := by decide +kernel
theorem dX0_passOn_32 : decode cX0_passOn 32 = .ok (.getfield 28, 3) := by decide +kernel
theorem dX0_passOn_35 : decode cX0_passOn 35 = .ok (.getfield 79, 3) := by decide +kernel
theorem dX0_passOn_38 : decode cX0_passOn 38 = .ok (.iload_n 1, 1) := by decide +kernel
theorem dX0_passOn_39 : decode cX0_passOn 39 = .ok (.iaload, 1) := by decide +kernel
theorem dX0_passOn_40 : decode cX0_passOn 40 = .ok (.aload_n 0, 1) := by decide +kernel
theorem dX0_passOn_41 : decode cX0_passOn 41 = .ok (.getfield 28, 3) := by decide +kernel
theorem dX0_passOn_44 : decode cX0_passOn 44 = .ok (.getfield 104, 3) := by decide +kernel
theorem dX0_passOn_47 : decode cX0_passOn 47 = .ok (.iload_n 1, 1) := by decide +kernel
theorem dX0_passOn_48 : decode cX0_passOn 48 = .ok (.iaload, 1) := by decide +kernel
theorem dX0_passOn_49 : decode cX0_passOn 49 = .ok (.isub, 1) := by decide +kernel
theorem dX0_passOn_50 : decode cX0_passOn 50 = .ok (.iload_n 2, 1) := by decide +kernel
theorem dX0_passOn_51 : decode cX0_passOn 51 = .ok (.isub, 1) := by decide +kernel
theorem dX0_passOn_52 : decode cX0_passOn 52 = .ok (.istore_n 3, 1) := by decide +kernel
theorem dX0_passOn_53 : decode cX0_passOn 53 = .ok (.iload_n 3, 1) := by decide +kernel
theorem dX0_passOn_54 : decode cX0_passOn 54 = .ok (.ifCond .gt 4, 3) := by decide +kernel
theorem dX0_passOn_57 : decode cX0_passOn 57 = .ok (.return_, 1) := by decide +kernel
theorem dX0_passOn_58 : decode cX0_passOn 58 = .ok (.aload_n 0, 1) := by decide +kernel
theorem dX0_passOn_59 : decode cX0_passOn 59 = .ok (.dup, 1) := by decide +kernel
theorem dX0_passOn_60 : decode cX0_passOn 60 = .ok (.getfield 95, 3) := by decide +kernel
theorem dX0_passOn_63 : decode cX0_passOn 63 = .ok (.iload_n 3, 1) := by decide +kernel
theorem dX0_passOn_64 : decode cX0_passOn 64 = .ok (.isub, 1) := by decide +kernel
theorem dX0_passOn_65 : decode cX0_passOn 65 = .ok (.putfield 95, 3) := by decide +kernel
theorem dX0_passOn_68 : decode cX0_passOn 68 = .ok (.aload_n 0, 1) := by decide +kernel
theorem dX0_passOn_69 : decode cX0_passOn 69 = .ok (.dup, 1) := by decide +kernel
theorem dX0_passOn_70 : decode cX0_passOn 70 = .ok (.getfield 130, 3) := by decide +kernel
theorem dX0_passOn_73 : decode cX0_passOn 73 = .ok (.iload_n 3, 1) := by decide +kernel
theorem dX0_passOn_74 : decode cX0_passOn 74 = .ok (.iadd, 1) := by decide +kernel
theorem dX0_passOn_75 : decode cX0_passOn 75 = .ok (.putfield 130, 3) := by decide +kernel
theorem dX0_passOn_78 : decode cX0_passOn 78 = .ok (.aload_n 0, 1) := by decide +kernel
theorem dX0_passOn_79 : decode cX0_passOn 79 = .ok (.getfield 12, 3) := by decide +kernel
theorem dX0_passOn_82 : decode cX0_passOn 82 = .ok (.aload_n 0, 1) := by decide +kernel
theorem dX0_passOn_83 : decode cX0_passOn 83 = .ok (.getfield 28, 3) := by decide +kernel
theorem dX0_passOn_86 : decode cX0_passOn 86 = .ok (.getfield 107, 3) := by decide +kernel
theorem dX0_passOn_89 : decode cX0_passOn 89 = .ok (.iload_n 1, 1) := by decide +kernel
theorem dX0_passOn_90 : decode cX0_passOn 90 = .ok (.iaload, 1) := by decide +kernel
theorem dX0_passOn_91 : decode cX0_passOn 91 = .ok (.iload_n 3, 1) := by decide +kernel
theorem dX0_passOn_92 : decode cX0_passOn 92 = .ok (.invokevirtual 110, 3) := by decide +kernel
theorem dX0_passOn_95 : decode cX0_passOn 95 = .ok (.return_, 1) := by decide +kernel
theorem dX0_lose_0 : decode cX0_lose 0 = .ok (.aload_n 0, 1) := by decide +kernel
theorem dX0_lose_1 : decode cX0_lose 1 = .ok (.getfield 28, 3) := by decide +kernel
theorem dX0_lose_4 : decode cX0_lose 4 = .ok (.iload_n 1, 1) := by decide +kernel
theorem dX0_lose_5 : decode cX0_lose 5 = .ok (.invokevirtual 49, 3) := by decide +kernel
theorem dX0_lose_8 : decode cX0_lose 8 = .ok (.ifCond .ne 5, 3) := by decide +kernel
theorem dX0_lose_11 : decode cX0_lose 11 = .ok (.iconst (-1), 1) := by decide +kernel
theorem dX0_lose_12 : decode cX0_lose 12 = .ok (.ireturn, 1) := by decide +kernel
theorem dX0_lose_13 : decode cX0_lose 13 = .ok (.aload_n 0, 1) := by decide +kernel
theorem dX0_lose_14 : decode cX0_lose 14 = .ok (.getfield 28, 3) := by decide +kernel
theorem dX0_lose_17 : decode cX0_lose 17 = .ok (.getfield 89, 3) := by decide +kernel
theorem dX0_lose_20 : decode cX0_lose 20 = .ok (.iload_n 1, 1) := by decide +kernel
theorem dX0_lose_21 : decode cX0_lose 21 = .ok (.iaload, 1) := by decide +kernel
theorem dX0_lose_22 : decode cX0_lose 22 = .ok (.iconst 1, 1) := by decide +kernel
theorem dX0_lose_23 : decode cX0_lose 23 = .ok (.if_icmp .ne 7, 3) := by decide +kernel
theorem dX0_lose_26 : decode cX0_lose 26 = .ok (.iconst 1, 1) := by decide +kernel
theorem dX0_lose_27 : decode cX0_lose 27 = .ok (.goto 4, 3) := by decide +kernel
theorem dX0_lose_30 : decode cX0_lose 30 = .ok (.iconst 0, 1) := by decide +kernel
theorem dX0_lose_31 : decode cX0_lose 31 = .ok (.istore_n 2, 1) := by decide +kernel
theorem dX0_lose_32 : decode cX0_lose 32 = .ok (.aload_n 0, 1) := by decide +kernel
theorem dX0_lose_33 : decode cX0_lose 33 = .ok (.getfield 28, 3) := by decide +kernel
theorem dX0_lose_36 : decode cX0_lose 36 = .ok (.getfield 89, 3) := by decide +kernel
theorem dX0_lose_39 : decode cX0_lose 39 = .ok (.iload_n 1, 1) := by decide +kernel
theorem dX0_lose_40 : decode cX0_lose 40 = .ok (.iconst 3, 1) := by decide +kernel
theorem dX0_lose_41 : decode cX0_lose 41 = .ok (.iastore, 1) := by decide +kernel
theorem dX0_lose_42 : decode cX0_lose 42 = .ok (.aload_n 0, 1) := by decide +kernel
theorem dX0_lose_43 : decode cX0_lose 43 = .ok (.getfield 21, 3) := by decide +kernel
theorem dX0_lose_46 : decode cX0_lose 46 = .ok (.aload_n 0, 1) := by decide +kernel
theorem dX0_lose_47 : decode cX0_lose 47 = .ok (.getfield 28, 3) := by decide +kernel
theorem dX0_lose_50 : decode cX0_lose 50 = .ok (.getfield 72, 3) := by decide +kernel
theorem dX0_lose_53 : decode cX0_lose 53 = .ok (.iload_n 1, 1) := by decide +kernel
theorem dX0_lose_54 : decode cX0_lose 54 = .ok (.iaload, 1) := by decide +kernel
theorem dX0_lose_55 : decode cX0_lose 55 = .ok (.invokevirtual 133, 3) := by decide +kernel
theorem dX0_lose_58 : decode cX0_lose 58 = .ok (.aload_n 0, 1) := by decide +kernel
theorem dX0_lose_59 : decode cX0_lose 59 = .ok (.getfield 28, 3) := by decide +kernel
theorem dX0_lose_62 : decode cX0_lose 62 = .ok (.getfield 104, 3) := by decide +kernel
theorem dX0_lose_65 : decode cX0_lose 65 = .ok (.iload_n 1, 1) := by decide +kernel
theorem dX0_lose_66 : decode cX0_lose 66 = .ok (.iaload, 1) := by decide +kernel
theorem dX0_lose_67 : decode cX0_lose 67 = .ok (.aload_n 0, 1) := by decide +kernel
theorem dX0_lose_68 : decode cX0_lose 68 = .ok (.getfield 28, 3) := by decide +kernel
theorem dX0_lose_71 : decode cX0_lose 71 = .ok (.getfield 92, 3) := by decide +kernel
theorem dX0_lose_74 : decode cX0_lose 74 = .ok (.iload_n 1, 1) := by decide +kernel
theorem dX0_lose_75 : decode cX0_lose 75 = .ok (.iaload, 1) := by decide +kernel
theorem dX0_lose_76 : decode cX0_lose 76 = .ok (.isub, 1) := by decide +kernel
theorem dX0_lose_77 : decode cX0_lose 77 = .ok (.istore_n 3, 1) := by decide +kernel
theorem dX0_lose_78 : decode cX0_lose 78 = .ok (.iload_n 2, 1) := by decide +kernel
theorem dX0_lose_79 : decode cX0_lose 79 = .ok (.ifCond .eq 7, 3) := by decide +kernel
theorem dX0_lose_82 : decode cX0_lose 82 = .ok (.iload_n 3, 1) := by decide +kernel
theorem dX0_lose_83 : decode cX0_lose 83 = .ok (.ifCond .gt 5, 3) := by decide +kernel
theorem dX0_lose_86 : decode cX0_lose 86 = .ok (.iconst 0, 1) := by decide +kernel
theorem dX0_lose_87 : decode cX0_lose 87 = .ok (.ireturn, 1) := by decide +kernel
theorem dX0_lose_88 : decode cX0_lose 88 = .ok (.aload_n 0, 1) := by decide +kernel
theorem dX0_lose_89 : decode cX0_lose 89 = .ok (.iload_n 3, 1) := by decide +kernel
theorem dX0_lose_90 : decode cX0_lose 90 = .ok (.invokevirtual 136, 3) := by decide +kernel
theorem dX0_lose_93 : decode cX0_lose 93 = .ok (.iload_n 3, 1) := by decide +kernel
theorem dX0_lose_94 : decode cX0_lose 94 = .ok (.ireturn, 1) := by decide +kernel
theorem dX0_share_0 : decode cX0_share 0 = .ok (.aload_n 0, 1) := by decide +kernel
theorem dX0_share_1 : decode cX0_share 1 = .ok (.getfield 12, 3) := by decide +kernel
theorem dX0_share_4 : decode cX0_share 4 = .ok (.invokevirtual 139, 3) := by decide +kernel
theorem dX0_share_7 : decode cX0_share 7 = .ok (.istore_n 2, 1) := by decide +kernel
theorem dX0_share_8 : decode cX0_share 8 = .ok (.iload_n 2, 1) := by decide +kernel
theorem dX0_share_9 : decode cX0_share 9 = .ok (.ifCond .gt 4, 3) := by decide +kernel
theorem dX0_share_12 : decode cX0_share 12 = .ok (.return_, 1) := by decide +kernel
theorem dX0_share_13 : decode cX0_share 13 = .ok (.iload_n 1, 1) := by decide +kernel
theorem dX0_share_14 : decode cX0_share 14 = .ok (.istore_n 3, 1) := by decide +kernel
theorem dX0_share_15 : decode cX0_share 15 = .ok (.iconst 0, 1) := by decide +kernel
theorem dX0_share_16 : decode cX0_share 16 = .ok (.istore 4, 2) := by decide +kernel
theorem dX0_share_18 : decode cX0_share 18 = .ok (.iload 4, 2) := by decide +kernel
theorem dX0_share_20 : decode cX0_share 20 = .ok (.bipush 8, 2) := by decide +kernel
theorem dX0_share_22 : decode cX0_share 22 = .ok (.if_icmp .ge 60, 3) := by decide +kernel
theorem dX0_share_25 : decode cX0_share 25 = .ok (.aload_n 0, 1) := by decide +kernel
theorem dX0_share_26 : decode cX0_share 26 = .ok (.getfield 12, 3) := by decide +kernel
theorem dX0_share_29 : decode cX0_share 29 = .ok (.iload 4, 2) := by decide +kernel
theorem dX0_share_31 : decode cX0_share 31 = .ok (.invokevirtual 142, 3) := by decide +kernel
theorem dX0_share_34 : decode cX0_share 34 = .ok (.ifCond .ne 6, 3) := by decide +kernel
theorem dX0_share_37 : decode cX0_share 37 = .ok (.goto 45, 3) := by decide +kernel
theorem dX0_share_40 : decode cX0_share 40 = .ok (.iload_n 1, 1) := by decide +kernel
theorem dX0_share_41 : decode cX0_share 41 = .ok (.i2f, 1) := by decide +kernel
theorem dX0_share_42 : decode cX0_share 42 = .ok (.aload_n 0, 1) := by decide +kernel
theorem dX0_share_43 : decode cX0_share 43 = .ok (.getfield 12, 3) := by decide +kernel
theorem dX0_share_46 : decode cX0_share 46 = .ok (.getfield 143, 3) := by decide +kernel
theorem dX0_share_49 : decode cX0_share 49 = .ok (.iload 4, 2) := by decide +kernel
theorem dX0_share_51 : decode cX0_share 51 = .ok (.iaload, 1) := by decide +kernel
theorem dX0_share_52 : decode cX0_share 52 = .ok (.i2f, 1) := by decide +kernel
theorem dX0_share_53 : decode cX0_share 53 = .ok (.fmul, 1) := by decide +kernel
theorem dX0_share_54 : decode cX0_share 54 = .ok (.iload_n 2, 1) := by decide +kernel
theorem dX0_share_55 : decode cX0_share 55 = .ok (.i2f, 1) := by decide +kernel
theorem dX0_share_56 : decode cX0_share 56 = .ok (.fdiv, 1) := by decide +kernel
theorem dX0_share_57 : decode cX0_share 57 = .ok (.f2i, 1) := by decide +kernel
theorem dX0_share_58 : decode cX0_share 58 = .ok (.istore 5, 2) := by decide +kernel
theorem dX0_share_60 : decode cX0_share 60 = .ok (.aload_n 0, 1) := by decide +kernel
theorem dX0_share_61 : decode cX0_share 61 = .ok (.getfield 12, 3) := by decide +kernel
theorem dX0_share_64 : decode cX0_share 64 = .ok (.iload 4, 2) := by decide +kernel
theorem dX0_share_66 : decode cX0_share 66 = .ok (.iload 5, 2) := by decide +kernel
theorem dX0_share_68 : decode cX0_share 68 = .ok (.invokevirtual 146, 3) := by decide +kernel
theorem dX0_share_71 : decode cX0_share 71 = .ok (.iload_n 3, 1) := by decide +kernel
theorem dX0_share_72 : decode cX0_share 72 = .ok (.iload 5, 2) := by decide +kernel
theorem dX0_share_74 : decode cX0_share 74 = .ok (.isub, 1) := by decide +kernel
theorem dX0_share_75 : decode cX0_share 75 = .ok (.istore_n 3, 1) := by decide +kernel
theorem dX0_share_76 : decode cX0_share 76 = .ok (.iinc 4 1, 3) := by decide +kernel
theorem dX0_share_79 : decode cX0_share 79 = .ok (.goto (-61), 3) := by decide +kernel
theorem dX0_share_82 : decode cX0_share 82 = .ok (.iload_n 3, 1) := by decide +kernel
theorem dX0_share_83 : decode cX0_share 83 = .ok (.ifCond .ge 7, 3) := by decide +kernel
theorem dX0_share_86 : decode cX0_share 86 = .ok (.iconst (-1), 1) := by decide +kernel
theorem dX0_share_87 : decode cX0_share 87 = .ok (.goto 4, 3) := by decide +kernel
theorem dX0_share_90 : decode cX0_share 90 = .ok (.iconst 1, 1) := by decide +kernel
theorem dX0_share_91 : decode cX0_share 91 = .ok (.istore 4, 2) := by decide +kernel
theorem dX0_share_93 : decode cX0_share 93 = .ok (.iload_n 3, 1) := by decide +kernel
theorem dX0_share_94 : decode cX0_share 94 = .ok (.ifCond .ge 8, 3) := by decide +kernel
theorem dX0_share_97 : decode cX0_share 97 = .ok (.iload_n 3, 1) := by decide +kernel
theorem dX0_share_98 : decode cX0_share 98 = .ok (.ineg, 1) := by decide +kernel
theorem dX0_share_99 : decode cX0_share 99 = .ok (.goto 4, 3) := by decide +kernel
theorem dX0_share_102 : decode cX0_share 102 = .ok (.iload_n 3, 1) := by decide +kernel
theorem dX0_share_103 : decode cX0_share 103 = .ok (.istore 5, 2) := by decide +kernel
theorem dX0_share_105 : decode cX0_share 105 = .ok (.iconst 0, 1) := by decide +kernel
theorem dX0_share_106 : decode cX0_share 106 = .ok (.istore 6, 2) := by decide +kernel
theorem dX0_share_108 : decode cX0_share 108 = .ok (.iconst 0, 1) := by decide +kernel
theorem dX0_share_109 : decode cX0_share 109 = .ok (.istore 7, 2) := by decide +kernel
theorem dX0_share_111 : decode cX0_share 111 = .ok (.iload 7, 2) := by decide +kernel
theorem dX0_share_113 : decode cX0_share 113 = .ok (.iload 5, 2) := by decide +kernel
theorem dX0_share_115 : decode cX0_share 115 = .ok (.if_icmp .ge 44, 3) := by decide +kernel
theorem dX0_share_118 : decode cX0_share 118 = .ok (.aload_n 0, 1) := by decide +kernel
theorem dX0_share_119 : decode cX0_share 119 = .ok (.getfield 12, 3) := by decide +kernel
theorem dX0_share_122 : decode cX0_share 122 = .ok (.iload 6, 2) := by decide +kernel
theorem dX0_share_124 : decode cX0_share 124 = .ok (.iload 4, 2) := by decide +kernel
theorem dX0_share_126 : decode cX0_share 126 = .ok (.invokevirtual 146, 3) := by decide +kernel
theorem dX0_share_129 : decode cX0_share 129 = .ok (.aload_n 0, 1) := by decide +kernel
theorem dX0_share_130 : decode cX0_share 130 = .ok (.getfield 12, 3) := by decide +kernel
theorem dX0_share_133 : decode cX0_share 133 = .ok (.iload 6, 2) := by decide +kernel
theorem dX0_share_135 : decode cX0_share 135 = .ok (.iconst 1, 1) := by decide +kernel
theorem dX0_share_136 : decode cX0_share 136 = .ok (.iadd, 1) := by decide +kernel
theorem dX0_share_137 : decode cX0_share 137 = .ok (.invokevirtual 142, 3) := by decide +kernel
theorem dX0_share_140 : decode cX0_share 140 = .ok (.ifCond .eq 10, 3) := by decide +kernel
theorem dX0_share_143 : decode cX0_share 143 = .ok (.iload 6, 2) := by decide +kernel
theorem dX0_share_145 : decode cX0_share 145 = .ok (.iconst 1, 1) := by decide +kernel
theorem dX0_share_146 : decode cX0_share 146 = .ok (.iadd, 1) := by decide +kernel
theorem dX0_share_147 : decode cX0_share 147 = .ok (.goto 4, 3) := by decide +kernel
theorem dX0_share_150 : decode cX0_share 150 = .ok (.iconst 0, 1) := by decide +kernel
theorem dX0_share_151 : decode cX0_share 151 = .ok (.istore 6, 2) := by decide +kernel
theorem dX0_share_153 : decode cX0_share 153 = .ok (.iinc 7 1, 3) := by decide +kernel
theorem dX0_share_156 : decode cX0_share 156 = .ok (.goto (-45), 3) := by decide +kernel
theorem dX0_share_159 : decode cX0_share 159 = .ok (.aload_n 0, 1) := by decide +kernel
theorem dX0_share_160 : decode cX0_share 160 = .ok (.dup, 1) := by decide +kernel
theorem dX0_share_161 : decode cX0_share 161 = .ok (.getfield 95, 3) := by decide +kernel
theorem dX0_share_164 : decode cX0_share 164 = .ok (.iload_n 1, 1) := by decide +kernel
theorem dX0_share_165 : decode cX0_share 165 = .ok (.iadd, 1) := by decide +kernel
theorem dX0_share_166 : decode cX0_share 166 = .ok (.putfield 95, 3) := by decide +kernel
theorem dX0_share_169 : decode cX0_share 169 = .ok (.aload_n 0, 1) := by decide +kernel
theorem dX0_share_170 : decode cX0_share 170 = .ok (.dup, 1) := by decide +kernel
theorem dX0_share_171 : decode cX0_share 171 = .ok (.getfield 149, 3) := by decide +kernel
theorem dX0_share_174 : decode cX0_share 174 = .ok (.iload_n 1, 1) := by decide +kernel
theorem dX0_share_175 : decode cX0_share 175 = .ok (.iadd, 1) := by decide +kernel
theorem dX0_share_176 : decode cX0_share 176 = .ok (.putfield 149, 3) := by decide +kernel
theorem dX0_share_179 : decode cX0_share 179 = .ok (.return_, 1) := by decide +kernel
theorem dX0_copyFrom_0 : decode cX0_copyFrom 0 = .ok (.aload_n 0, 1) := by decide +kernel
theorem dX0_copyFrom_1 : decode cX0_copyFrom 1 = .ok (.getfield 12, 3) := by decide +kernel
theorem dX0_copyFrom_4 : decode cX0_copyFrom 4 = .ok (.aload_n 1, 1) := by decide +kernel
theorem dX0_copyFrom_5 : decode cX0_copyFrom 5 = .ok (.getfield 12, 3) := by decide +kernel
theorem dX0_copyFrom_8 : decode cX0_copyFrom 8 = .ok (.invokevirtual 152, 3) := by decide +kernel
theorem dX0_copyFrom_11 : decode cX0_copyFrom 11 = .ok (.aload_n 0, 1) := by decide +kernel
theorem dX0_copyFrom_12 : decode cX0_copyFrom 12 = .ok (.getfield 21, 3) := by decide +kernel
theorem dX0_copyFrom_15 : decode cX0_copyFrom 15 = .ok (.aload_n 1, 1) := by decide +kernel
theorem dX0_copyFrom_16 : decode cX0_copyFrom 16 = .ok (.getfield 21, 3) := by decide +kernel
theorem dX0_copyFrom_19 : decode cX0_copyFrom 19 = .ok (.invokevirtual 156, 3) := by decide +kernel
theorem dX0_copyFrom_22 : decode cX0_copyFrom 22 = .ok (.aload_n 0, 1) := by decide +kernel
theorem dX0_copyFrom_23 : decode cX0_copyFrom 23 = .ok (.getfield 28, 3) := by decide +kernel
theorem dX0_copyFrom_26 : decode cX0_copyFrom 26 = .ok (.aload_n 1, 1) := by decide +kernel
theorem dX0_copyFrom_27 : decode cX0_copyFrom 27 = .ok (.getfield 28, 3) := by decide +kernel
theorem dX0_copyFrom_30 : decode cX0_copyFrom 30 = .ok (.invokevirtual 159, 3) := by decide +kernel
theorem dX0_copyFrom_33 : decode cX0_copyFrom 33 = .ok (.iconst 0, 1) := by decide +kernel
theorem dX0_copyFrom_34 : decode cX0_copyFrom 34 = .ok (.istore_n 2, 1) := by decide +kernel
theorem dX0_copyFrom_35 : decode cX0_copyFrom 35 = .ok (.iload_n 2, 1) := by decide +kernel
theorem dX0_copyFrom_36 : decode cX0_copyFrom 36 = .ok (.iconst 3, 1) := by decide +kernel
theorem dX0_copyFrom_37 : decode cX0_copyFrom 37 = .ok (.if_icmp .ge 21, 3) := by decide +kernel
theorem dX0_copyFrom_40 : decode cX0_copyFrom 40 = .ok (.aload_n 0, 1) := by decide +kernel
theorem dX0_copyFrom_41 : decode cX0_copyFrom 41 = .ok (.getfield 32, 3) := by decide +kernel
theorem dX0_copyFrom_44 : decode cX0_copyFrom 44 = .ok (.iload_n 2, 1) := by decide +kernel
theorem dX0_copyFrom_45 : decode cX0_copyFrom 45 = .ok (.aload_n 1, 1) := by decide +kernel
theorem dX0_copyFrom_46 : decode cX0_copyFrom 46 = .ok (.getfield 32, 3) := by decide +kernel
theorem dX0_copyFrom_49 : decode cX0_copyFrom 49 = .ok (.iload_n 2, 1) := by decide +kernel
theorem dX0_copyFrom_50 : decode cX0_copyFrom 50 = .ok (.faload, 1) := by decide +kernel
theorem dX0_copyFrom_51 : decode cX0_copyFrom 51 = .ok (.fastore, 1) := by decide +kernel
theorem dX0_copyFrom_52 : decode cX0_copyFrom 52 = .ok (.iinc 2 1, 3) := by decide +kernel
theorem dX0_copyFrom_55 : decode cX0_copyFrom 55 = .ok (.goto (-20), 3) := by decide +kernel
theorem dX0_copyFrom_58 : decode cX0_copyFrom 58 = .ok (.aload_n 1, 1) := by decide +kernel
theorem dX0_copyFrom_59 : decode cX0_copyFrom 59 = .ok (.getfield 36, 3) := by decide +kernel
theorem dX0_copyFrom_62 : decode cX0_copyFrom 62 = .ok (.aload_n 0, 1) := by decide +kernel
theorem dX0_copyFrom_63 : decode cX0_copyFrom 63 = .ok (.getfield 36, 3) := by decide +kernel
theorem dX0_copyFrom_66 : decode cX0_copyFrom 66 = .ok (.invokestatic 162, 3) := by decide +kernel
theorem dX0_copyFrom_69 : decode cX0_copyFrom 69 = .ok (.aload_n 0, 1) := by decide +kernel
theorem dX0_copyFrom_70 : decode cX0_copyFrom 70 = .ok (.aload_n 1, 1) := by decide +kernel
theorem dX0_copyFrom_71 : decode cX0_copyFrom 71 = .ok (.getfield 53, 3) := by decide +kernel
theorem dX0_copyFrom_74 : decode cX0_copyFrom 74 = .ok (.putfield 53, 3) := by decide +kernel
theorem dX0_copyFrom_77 : decode cX0_copyFrom 77 = .ok (.aload_n 0, 1) := by decide +kernel
theorem dX0_copyFrom_78 : decode cX0_copyFrom 78 = .ok (.aload_n 1, 1) := by decide +kernel
theorem dX0_copyFrom_79 : decode cX0_copyFrom 79 = .ok (.getfield 95, 3) := by decide +kernel
theorem dX0_copyFrom_82 : decode cX0_copyFrom 82 = .ok (.putfield 95, 3) := by decide +kernel
theorem dX0_copyFrom_85 : decode cX0_copyFrom 85 = .ok (.aload_n 0, 1) := by decide +kernel
theorem dX0_copyFrom_86 : decode cX0_copyFrom 86 = .ok (.aload_n 1, 1) := by decide +kernel
theorem dX0_copyFrom_87 : decode cX0_copyFrom 87 = .ok (.getfield 114, 3) := by decide +kernel
theorem dX0_copyFrom_90 : decode cX0_copyFrom 90 = .ok (.putfield 114, 3) := by decide +kernel
theorem dX0_copyFrom_93 : decode cX0_copyFrom 93 = .ok (.aload_n 0, 1) := by decide +kernel
theorem dX0_copyFrom_94 : decode cX0_copyFrom 94 = .ok (.aload_n 1, 1) := by decide +kernel
theorem dX0_copyFrom_95 : decode cX0_copyFrom 95 = .ok (.getfield 117, 3) := by decide +kernel
theorem dX0_copyFrom_98 : decode cX0_copyFrom 98 = .ok (.putfield 117, 3) := by decide +kernel
theorem dX0_copyFrom_101 : decode cX0_copyFrom 101 = .ok (.aload_n 0, 1) := by decide +kernel
theorem dX0_copyFrom_102 : decode cX0_copyFrom 102 = .ok (.aload_n 1, 1) := by decide +kernel
theorem dX0_copyFrom_103 : decode cX0_copyFrom 103 = .ok (.getfield 130, 3) := by decide +kernel
theorem dX0_copyFrom_106 : decode cX0_copyFrom 106 = .ok (.putfield 130, 3) := by decide +kernel
theorem dX0_copyFrom_109 : decode cX0_copyFrom 109 = .ok (.aload_n 0, 1) := by decide +kernel
theorem dX0_copyFrom_110 : decode cX0_copyFrom 110 = .ok (.aload_n 1, 1) := by decide +kernel
theorem dX0_copyFrom_111 : decode cX0_copyFrom 111 = .ok (.getfield 149, 3) := by decide +kernel
theorem dX0_copyFrom_114 : decode cX0_copyFrom 114 = .ok (.putfield 149, 3) := by decide +kernel
theorem dX0_copyFrom_117 : decode cX0_copyFrom 117 = .ok (.return_, 1) := by decide +kernel
theorem dX1_init_0 : decode cX1_init 0 = .ok (.aload_n 0, 1) := by decide +kernel
theorem dX1_init_1 : decode cX1_init 1 = .ok (.invokespecial 3, 3) := by decide +kernel
theorem dX1_init_4 : decode cX1_init 4 = .ok (.aload_n 0, 1) := by decide +kernel
theorem dX1_init_5 : decode cX1_init 5 = .ok (.bipush 6, 2) := by decide +kernel
theorem dX1_init_7 : decode cX1_init 7 = .ok (.newarray .int, 2) := by decide +kernel
theorem dX1_init_9 : decode cX1_init 9 = .ok (.putfield 9, 3) := by decide +kernel
theorem dX1_init_12 : decode cX1_init 12 = .ok (.aload_n 0, 1) := by decide +kernel
theorem dX1_init_13 : decode cX1_init 13 = .ok (.bipush 6, 2) := by decide +kernel
theorem dX1_init_15 : decode cX1_init 15 = .ok (.newarray .int, 2) := by decide +kernel
theorem dX1_init_17 : decode cX1_init 17 = .ok (.putfield 15, 3) := by decide +kernel
theorem dX1_init_20 : decode cX1_init 20 = .ok (.aload_n 0, 1) := by decide +kernel
theorem dX1_init_21 : decode cX1_init 21 = .ok (.bipush 6, 2) := by decide +kernel
theorem dX1_init_23 : decode cX1_init 23 = .ok (.newarray .int, 2) := by decide +kernel
theorem dX1_init_25 : decode cX1_init 25 = .ok (.putfield 18, 3) := by decide +kernel
theorem dX1_init_28 : decode cX1_init 28 = .ok (.return_, 1) := by decide +kernel
theorem dX1_has_0 : decode cX1_has 0 = .ok (.iload_n 1, 1) := by decide +kernel
theorem dX1_has_1 : decode cX1_has 1 = .ok (.ifCond .lt 13, 3) := by decide +kernel
theorem dX1_has_4 : decode cX1_has 4 = .ok (.iload_n 1, 1) := by decide +kernel
theorem dX1_has_5 : decode cX1_has 5 = .ok (.bipush 6, 2) := by decide +kernel
theorem dX1_has_7 : decode cX1_has 7 = .ok (.if_icmp .ge 7, 3) := by decide +kernel
theorem dX1_has_10 : decode cX1_has 10 = .ok (.iconst 1, 1) := by decide +kernel
theorem dX1_has_11 : decode cX1_has 11 = .ok (.goto 4, 3) := by decide +kernel
theorem dX1_has_14 : decode cX1_has 14 = .ok (.iconst 0, 1) := by decide +kernel
theorem dX1_has_15 : decode cX1_has 15 = .ok (.ireturn, 1) := by decide +kernel
theorem dX1_riskOf_0 : decode cX1_riskOf 0 = .ok (.aload_n 0, 1) := by decide +kernel
theorem dX1_riskOf_1 : decode cX1_riskOf 1 = .ok (.iload_n 1, 1) := by decide +kernel
theorem dX1_riskOf_2 : decode cX1_riskOf 2 = .ok (.invokevirtual 21, 3) := by decide +kernel
theorem dX1_riskOf_5 : decode cX1_riskOf 5 = .ok (.ifCond .ne 7, 3) := by decide +kernel
theorem dX1_riskOf_8 : decode cX1_riskOf 8 = .ok (.invokestatic 25, 3) := by decide +kernel
theorem dX1_riskOf_11 : decode cX1_riskOf 11 = .ok (.freturn, 1) := by decide +kernel
theorem dX1_riskOf_12 : decode cX1_riskOf 12 = .ok (.aload_n 0, 1) := by decide +kernel
theorem dX1_riskOf_13 : decode cX1_riskOf 13 = .ok (.getfield 15, 3) := by decide +kernel
theorem dX1_riskOf_16 : decode cX1_riskOf 16 = .ok (.iload_n 1, 1) := by decide +kernel
theorem dX1_riskOf_17 : decode cX1_riskOf 17 = .ok (.iaload, 1) := by decide +kernel
theorem dX1_riskOf_18 : decode cX1_riskOf 18 = .ok (.iconst 1, 1) := by decide +kernel
theorem dX1_riskOf_19 : decode cX1_riskOf 19 = .ok (.iadd, 1) := by decide +kernel
theorem dX1_riskOf_20 : decode cX1_riskOf 20 = .ok (.i2f, 1) := by decide +kernel
theorem dX1_riskOf_21 : decode cX1_riskOf 21 = .ok (.aload_n 0, 1) := by decide +kernel
theorem dX1_riskOf_22 : decode cX1_riskOf 22 = .ok (.getfield 9, 3) := by decide +kernel
theorem dX1_riskOf_25 : decode cX1_riskOf 25 = .ok (.iload_n 1, 1) := by decide +kernel
theorem dX1_riskOf_26 : decode cX1_riskOf 26 = .ok (.iaload, 1) := by decide +kernel
theorem dX1_riskOf_27 : decode cX1_riskOf 27 = .ok (.aload_n 0, 1) := by decide +kernel
theorem dX1_riskOf_28 : decode cX1_riskOf 28 = .ok (.getfield 15, 3) := by decide +kernel
theorem dX1_riskOf_31 : decode cX1_riskOf 31 = .ok (.iload_n 1, 1) := by decide +kernel
theorem dX1_riskOf_32 : decode cX1_riskOf 32 = .ok (.iaload, 1) := by decide +kernel
theorem dX1_riskOf_33 : decode cX1_riskOf 33 = .ok (.iadd, 1) := by decide +kernel
theorem dX1_riskOf_34 : decode cX1_riskOf 34 = .ok (.iconst 2, 1) := by decide +kernel
theorem dX1_riskOf_35 : decode cX1_riskOf 35 = .ok (.iadd, 1) := by decide +kernel
theorem dX1_riskOf_36 : decode cX1_riskOf 36 = .ok (.i2f, 1) := by decide +kernel
theorem dX1_riskOf_37 : decode cX1_riskOf 37 = .ok (.fdiv, 1) := by decide +kernel
theorem dX1_riskOf_38 : decode cX1_riskOf 38 = .ok (.freturn, 1) := by decide +kernel
theorem dX1_latenessOf_0 : decode cX1_latenessOf 0 = .ok (.aload_n 0, 1) := by decide +kernel
theorem dX1_latenessOf_1 : decode cX1_latenessOf 1 = .ok (.iload_n 1, 1) := by decide +kernel
theorem dX1_latenessOf_2 : decode cX1_latenessOf 2 = .ok (.invokevirtual 21, 3) := by decide +kernel
theorem dX1_latenessOf_5 : decode cX1_latenessOf 5 = .ok (.ifCond .ne 7, 3) := by decide +kernel
theorem dX1_latenessOf_8 : decode cX1_latenessOf 8 = .ok (.invokestatic 25, 3) := by decide +kernel
theorem dX1_latenessOf_11 : decode cX1_latenessOf 11 = .ok (.freturn, 1) := by decide +kernel
theorem dX1_latenessOf_12 : decode cX1_latenessOf 12 = .ok (.aload_n 0, 1) := by decide +kernel
theorem dX1_latenessOf_13 : decode cX1_latenessOf 13 = .ok (.getfield 9, 3) := by decide +kernel
theorem dX1_latenessOf_16 : decode cX1_latenessOf 16 = .ok (.iload_n 1, 1) := by decide +kernel
theorem dX1_latenessOf_17 : decode cX1_latenessOf 17 = .ok (.iaload, 1) := by decide +kernel
theorem dX1_latenessOf_18 : decode cX1_latenessOf 18 = .ok (.ifCond .ne 5, 3) := by decide +kernel
theorem dX1_latenessOf_21 : decode cX1_latenessOf 21 = .ok (.fconst 0, 1) := by decide +kernel
theorem dX1_latenessOf_22 : decode cX1_latenessOf 22 = .ok (.freturn, 1) := by decide +kernel
theorem dX1_latenessOf_23 : decode cX1_latenessOf 23 = .ok (.aload_n 0, 1) := by decide +kernel
theorem dX1_latenessOf_24 : decode cX1_latenessOf 24 = .ok (.getfield 18, 3) := by decide +kernel
theorem dX1_latenessOf_27 : decode cX1_latenessOf 27 = .ok (.iload_n 1, 1) := by decide +kernel
theorem dX1_latenessOf_28 : decode cX1_latenessOf 28 = .ok (.iaload, 1) := by decide +kernel
theorem dX1_latenessOf_29 : decode cX1_latenessOf 29 = .ok (.i2f, 1) := by decide +kernel
theorem dX1_latenessOf_30 : decode cX1_latenessOf 30 = .ok (.aload_n 0, 1) := by decide +kernel
theorem dX1_latenessOf_31 : decode cX1_latenessOf 31 = .ok (.getfield 9, 3) := by decide +kernel
theorem dX1_latenessOf_34 : decode cX1_latenessOf 34 = .ok (.iload_n 1, 1) := by decide +kernel
theorem dX1_latenessOf_35 : decode cX1_latenessOf 35 = .ok (.iaload, 1) := by decide +kernel
theorem dX1_latenessOf_36 : decode cX1_latenessOf 36 = .ok (.i2f, 1) := by decide +kernel
theorem dX1_latenessOf_37 : decode cX1_latenessOf 37 = .ok (.fdiv, 1) := by decide +kernel
theorem dX1_latenessOf_38 : decode cX1_latenessOf 38 = .ok (.freturn, 1) := by decide +kernel
theorem dX1_addSettled_0 : decode cX1_addSettled 0 = .ok (.aload_n 0, 1) := by decide +kernel
theorem dX1_addSettled_1 : decode cX1_addSettled 1 = .ok (.iload_n 1, 1) := by decide +kernel
theorem dX1_addSettled_2 : decode cX1_addSettled 2 = .ok (.invokevirtual 21, 3) := by decide +kernel
theorem dX1_addSettled_5 : decode cX1_addSettled 5 = .ok (.ifCond .ne 4, 3) := by decide +kernel
theorem dX1_addSettled_8 : decode cX1_addSettled 8 = .ok (.return_, 1) := by decide +kernel
theorem dX1_addSettled_9 : decode cX1_addSettled 9 = .ok (.aload_n 0, 1) := by decide +kernel
theorem dX1_addSettled_10 : decode cX1_addSettled 10 = .ok (.getfield 9, 3) := by decide +kernel
theorem dX1_addSettled_13 : decode cX1_addSettled 13 = .ok (.iload_n 1, 1) := by decide +kernel
theorem dX1_addSettled_14 : decode cX1_addSettled 14 = .ok (.dup2, 1) := by decide +kernel
theorem dX1_addSettled_15 : decode cX1_addSettled 15 = .ok (.iaload, 1) := by decide +kernel
theorem dX1_addSettled_16 : decode cX1_addSettled 16 = .ok (.iconst 1, 1) := by decide +kernel
theorem dX1_addSettled_17 : decode cX1_addSettled 17 = .ok (.iadd, 1) := by decide +kernel
theorem dX1_addSettled_18 : decode cX1_addSettled 18 = .ok (.iastore, 1) := by decide +kernel
theorem dX1_addSettled_19 : decode cX1_addSettled 19 = .ok (.aload_n 0, 1) := by decide +kernel
theorem dX1_addSettled_20 : decode cX1_addSettled 20 = .ok (.getfield 18, 3) := by decide +kernel
theorem dX1_addSettled_23 : decode cX1_addSettled 23 = .ok (.iload_n 1, 1) := by decide +kernel
theorem dX1_addSettled_24 : decode cX1_addSettled 24 = .ok (.dup2, 1) := by decide +kernel
theorem dX1_addSettled_25 : decode cX1_addSettled 25 = .ok (.iaload, 1) := by decide +kernel
theorem dX1_addSettled_26 : decode cX1_addSettled 26 = .ok (.iload_n 2, 1) := by decide +kernel
theorem dX1_addSettled_27 : decode cX1_addSettled 27 = .ok (.iadd, 1) := by decide +kernel
theorem dX1_addSettled_28 : decode cX1_addSettled 28 = .ok (.iastore, 1) := by decide +kernel
theorem dX1_addSettled_29 : decode cX1_addSettled 29 = .ok (.return_, 1) := by decide +kernel
theorem dX1_addLost_0 : decode cX1_addLost 0 = .ok (.aload_n 0, 1) := by decide +kernel
theorem dX1_addLost_1 : decode cX1_addLost 1 = .ok (.iload_n 1, 1) := by decide +kernel
theorem dX1_addLost_2 : decode cX1_addLost 2 = .ok (.invokevirtual 21, 3) := by decide +kernel
theorem dX1_addLost_5 : decode cX1_addLost 5 = .ok (.ifCond .eq 13, 3) := by decide +kernel
theorem dX1_addLost_8 : decode cX1_addLost 8 = .ok (.aload_n 0, 1) := by decide +kernel
theorem dX1_addLost_9 : decode cX1_addLost 9 = .ok (.getfield 15, 3) := by decide +kernel
theorem dX1_addLost_12 : decode cX1_addLost 12 = .ok (.iload_n 1, 1) := by decide +kernel
theorem dX1_addLost_13 : decode cX1_addLost 13 = .ok (.dup2, 1) := by decide +kernel
theorem dX1_addLost_14 : decode cX1_addLost 14 = .ok (.iaload, 1) := by decide +kernel
theorem dX1_addLost_15 : decode cX1_addLost 15 = .ok (.iconst 1, 1) := by decide +kernel
theorem dX1_addLost_16 : decode cX1_addLost 16 = .ok (.iadd, 1) := by decide +kernel
theorem dX1_addLost_17 : decode cX1_addLost 17 = .ok (.iastore, 1) := by decide +kernel
theorem dX1_addLost_18 : decode cX1_addLost 18 = .ok (.return_, 1) := by decide +kernel
theorem dX1_copyFrom_0 : decode cX1_copyFrom 0 = .ok (.aload_n 1, 1) := by decide +kernel
theorem dX1_copyFrom_1 : decode cX1_copyFrom 1 = .ok (.getfield 9, 3) := by decide +kernel
theorem dX1_copyFrom_4 : decode cX1_copyFrom 4 = .ok (.aload_n 0, 1) := by decide +kernel
theorem dX1_copyFrom_5 : decode cX1_copyFrom 5 = .ok (.getfield 9, 3) := by decide +kernel
theorem dX1_copyFrom_8 : decode cX1_copyFrom 8 = .ok (.invokestatic 29, 3) := by decide +kernel
theorem dX1_copyFrom_11 : decode cX1_copyFrom 11 = .ok (.aload_n 1, 1) := by decide +kernel
theorem dX1_copyFrom_12 : decode cX1_copyFrom 12 = .ok (.getfield 15, 3) := by decide +kernel
theorem dX1_copyFrom_15 : decode cX1_copyFrom 15 = .ok (.aload_n 0, 1) := by decide +kernel
theorem dX1_copyFrom_16 : decode cX1_copyFrom 16 = .ok (.getfield 15, 3) := by decide +kernel
theorem dX1_copyFrom_19 : decode cX1_copyFrom 19 = .ok (.invokestatic 29, 3) := by decide +kernel
theorem dX1_copyFrom_22 : decode cX1_copyFrom 22 = .ok (.aload_n 1, 1) := by decide +kernel
theorem dX1_copyFrom_23 : decode cX1_copyFrom 23 = .ok (.getfield 18, 3) := by decide +kernel
theorem dX1_copyFrom_26 : decode cX1_copyFrom 26 = .ok (.aload_n 0, 1) := by decide +kernel
theorem dX1_copyFrom_27 : decode cX1_copyFrom 27 = .ok (.getfield 18, 3) := by decide +kernel
theorem dX1_copyFrom_30 : decode cX1_copyFrom 30 = .ok (.invokestatic 29, 3) := by decide +kernel
theorem dX1_copyFrom_33 : decode cX1_copyFrom 33 = .ok (.return_, 1) := by decide +kernel
theorem dX2_init_0 : decode cX2_init 0 = .ok (.aload_n 0, 1) := by decide +kernel
theorem dX2_init_1 : decode cX2_init 1 = .ok (.invokespecial 3, 3) := by decide +kernel
theorem dX2_init_4 : decode cX2_init 4 = .ok (.aload_n 0, 1) := by decide +kernel
theorem dX2_init_5 : decode cX2_init 5 = .ok (.iconst 4, 1) := by decide +kernel
theorem dX2_init_6 : decode cX2_init 6 = .ok (.anewarray 9, 3) := by decide +kernel
theorem dX2_init_9 : decode cX2_init 9 = .ok (.putfield 11, 3) := by decide +kernel
theorem dX2_init_12 : decode cX2_init 12 = .ok (.iconst 0, 1) := by decide +kernel
theorem dX2_init_13 : decode cX2_init 13 = .ok (.istore_n 1, 1) := by decide +kernel
theorem dX2_init_14 : decode cX2_init 14 = .ok (.iload_n 1, 1) := by decide +kernel
theorem dX2_init_15 : decode cX2_init 15 = .ok (.iconst 4, 1) := by decide +kernel
theorem dX2_init_16 : decode cX2_init 16 = .ok (.if_icmp .ge 22, 3) := by decide +kernel
theorem dX2_init_19 : decode cX2_init 19 = .ok (.aload_n 0, 1) := by decide +kernel
theorem dX2_init_20 : decode cX2_init 20 = .ok (.getfield 11, 3) := by decide +kernel
theorem dX2_init_23 : decode cX2_init 23 = .ok (.iload_n 1, 1) := by decide +kernel
theorem dX2_init_24 : decode cX2_init 24 = .ok (.new 9, 3) := by decide +kernel
theorem dX2_init_27 : decode cX2_init 27 = .ok (.dup, 1) := by decide +kernel
theorem dX2_init_28 : decode cX2_init 28 = .ok (.invokespecial 17, 3) := by decide +kernel
theorem dX2_init_31 : decode cX2_init 31 = .ok (.aastore, 1) := by decide +kernel
theorem dX2_init_32 : decode cX2_init 32 = .ok (.iinc 1 1, 3) := by decide +kernel
theorem dX2_init_35 : decode cX2_init 35 = .ok (.goto (-21), 3) := by decide +kernel
theorem dX2_init_38 : decode cX2_init 38 = .ok (.return_, 1) := by decide +kernel
theorem dX2_push_0 : decode cX2_push 0 = .ok (.aload_n 1, 1) := by decide +kernel
theorem dX2_push_1 : decode cX2_push 1 = .ok (.aload_n 0, 1) := by decide +kernel
theorem dX2_push_2 : decode cX2_push 2 = .ok (.aload_n 0, 1) := by decide +kernel
theorem dX2_push_3 : decode cX2_push 3 = .ok (.getfield 18, 3) := by decide +kernel
theorem dX2_push_6 : decode cX2_push 6 = .ok (.invokevirtual 22, 3) := by decide +kernel
theorem dX2_push_9 : decode cX2_push 9 = .ok (.invokestatic 26, 3) := by decide +kernel
theorem dX2_push_12 : decode cX2_push 12 = .ok (.aload_n 0, 1) := by decide +kernel
theorem dX2_push_13 : decode cX2_push 13 = .ok (.aload_n 0, 1) := by decide +kernel
theorem dX2_push_14 : decode cX2_push 14 = .ok (.getfield 18, 3) := by decide +kernel
theorem dX2_push_17 : decode cX2_push 17 = .ok (.iconst 1, 1) := by decide +kernel
theorem dX2_push_18 : decode cX2_push 18 = .ok (.iadd, 1) := by decide +kernel
theorem dX2_push_19 : decode cX2_push 19 = .ok (.iconst 4, 1) := by decide +kernel
theorem dX2_push_20 : decode cX2_push 20 = .ok (.if_icmp .ge 12, 3) := by decide +kernel
theorem dX2_push_23 : decode cX2_push 23 = .ok (.aload_n 0, 1) := by decide +kernel
theorem dX2_push_24 : decode cX2_push 24 = .ok (.getfield 18, 3) := by decide +kernel
theorem dX2_push_27 : decode cX2_push 27 = .ok (.iconst 1, 1) := by decide +kernel
theorem dX2_push_28 : decode cX2_push 28 = .ok (.iadd, 1) := by decide +kernel
theorem dX2_push_29 : decode cX2_push 29 = .ok (.goto 4, 3) := by decide +kernel
theorem dX2_push_32 : decode cX2_push 32 = .ok (.iconst 0, 1) := by decide +kernel
theorem dX2_push_33 : decode cX2_push 33 = .ok (.putfield 18, 3) := by decide +kernel
theorem dX2_push_36 : decode cX2_push 36 = .ok (.aload_n 0, 1) := by decide +kernel
theorem dX2_push_37 : decode cX2_push 37 = .ok (.getfield 30, 3) := by decide +kernel
theorem dX2_push_40 : decode cX2_push 40 = .ok (.iconst 4, 1) := by decide +kernel
theorem dX2_push_41 : decode cX2_push 41 = .ok (.if_icmp .ge 13, 3) := by decide +kernel
theorem dX2_push_44 : decode cX2_push 44 = .ok (.aload_n 0, 1) := by decide +kernel
theorem dX2_push_45 : decode cX2_push 45 = .ok (.dup, 1) := by decide +kernel
theorem dX2_push_46 : decode cX2_push 46 = .ok (.getfield 30, 3) := by decide +kernel
theorem dX2_push_49 : decode cX2_push 49 = .ok (.iconst 1, 1) := by decide +kernel
theorem dX2_push_50 : decode cX2_push 50 = .ok (.iadd, 1) := by decide +kernel
theorem dX2_push_51 : decode cX2_push 51 = .ok (.putfield 30, 3) := by decide +kernel
theorem dX2_push_54 : decode cX2_push 54 = .ok (.return_, 1) := by decide +kernel
theorem dX2_popInto_0 : decode cX2_popInto 0 = .ok (.aload_n 0, 1) := by decide +kernel
theorem dX2_popInto_1 : decode cX2_popInto 1 = .ok (.getfield 30, 3) := by decide +kernel
theorem dX2_popInto_4 : decode cX2_popInto 4 = .ok (.ifCond .ne 4, 3) := by decide +kernel
theorem dX2_popInto_7 : decode cX2_popInto 7 = .ok (.return_, 1) := by decide +kernel
theorem dX2_popInto_8 : decode cX2_popInto 8 = .ok (.aload_n 0, 1) := by decide +kernel
theorem dX2_popInto_9 : decode cX2_popInto 9 = .ok (.aload_n 0, 1) := by decide +kernel
theorem dX2_popInto_10 : decode cX2_popInto 10 = .ok (.getfield 18, 3) := by decide +kernel
theorem dX2_popInto_13 : decode cX2_popInto 13 = .ok (.ifCond .le 12, 3) := by decide +kernel
theorem dX2_popInto_16 : decode cX2_popInto 16 = .ok (.aload_n 0, 1) := by decide +kernel
theorem dX2_popInto_17 : decode cX2_popInto 17 = .ok (.getfield 18, 3) := by decide +kernel
theorem dX2_popInto_20 : decode cX2_popInto 20 = .ok (.iconst 1, 1) := by decide +kernel
theorem dX2_popInto_21 : decode cX2_popInto 21 = .ok (.isub, 1) := by decide +kernel
theorem dX2_popInto_22 : decode cX2_popInto 22 = .ok (.goto 4, 3) := by decide +kernel
theorem dX2_popInto_25 : decode cX2_popInto 25 = .ok (.iconst 3, 1) := by decide +kernel
theorem dX2_popInto_26 : decode cX2_popInto 26 = .ok (.putfield 18, 3) := by decide +kernel
theorem dX2_popInto_29 : decode cX2_popInto 29 = .ok (.aload_n 0, 1) := by decide +kernel
theorem dX2_popInto_30 : decode cX2_popInto 30 = .ok (.dup, 1) := by decide +kernel
theorem dX2_popInto_31 : decode cX2_popInto 31 = .ok (.getfield 30, 3) := by decide +kernel
theorem dX2_popInto_34 : decode cX2_popInto 34 = .ok (.iconst 1, 1) := by decide +kernel
theorem dX2_popInto_35 : decode cX2_popInto 35 = .ok (.isub, 1) := by decide +kernel
theorem dX2_popInto_36 : decode cX2_popInto 36 = .ok (.putfield 30, 3) := by decide +kernel
theorem dX2_popInto_39 : decode cX2_popInto 39 = .ok (.aload_n 0, 1) := by decide +kernel
theorem dX2_popInto_40 : decode cX2_popInto 40 = .ok (.aload_n 0, 1) := by decide +kernel
theorem dX2_popInto_41 : decode cX2_popInto 41 = .ok (.getfield 18, 3) := by decide +kernel
theorem dX2_popInto_44 : decode cX2_popInto 44 = .ok (.invokevirtual 22, 3) := by decide +kernel
theorem dX2_popInto_47 : decode cX2_popInto 47 = .ok (.aload_n 1, 1) := by decide +kernel
theorem dX2_popInto_48 : decode cX2_popInto 48 = .ok (.invokestatic 26, 3) := by decide +kernel
theorem dX2_popInto_51 : decode cX2_popInto 51 = .ok (.return_, 1) := by decide +kernel
theorem dX2_stateAt_0 : decode cX2_stateAt 0 = .ok (.iload_n 1, 1) := by decide +kernel
theorem dX2_stateAt_1 : decode cX2_stateAt 1 = .ok (.ifCond .lt 8, 3) := by decide +kernel
theorem dX2_stateAt_4 : decode cX2_stateAt 4 = .ok (.iload_n 1, 1) := by decide +kernel
theorem dX2_stateAt_5 : decode cX2_stateAt 5 = .ok (.iconst 4, 1) := by decide +kernel
theorem dX2_stateAt_6 : decode cX2_stateAt 6 = .ok (.if_icmp .lt 7, 3) := by decide +kernel
theorem dX2_stateAt_9 : decode cX2_stateAt 9 = .ok (.aconst_null, 1) := by decide +kernel
theorem dX2_stateAt_10 : decode cX2_stateAt 10 = .ok (.goto 9, 3) := by decide +kernel
theorem dX2_stateAt_13 : decode cX2_stateAt 13 = .ok (.aload_n 0, 1) := by decide +kernel
theorem dX2_stateAt_14 : decode cX2_stateAt 14 = .ok (.getfield 11, 3) := by decide +kernel
theorem dX2_stateAt_17 : decode cX2_stateAt 17 = .ok (.iload_n 1, 1) := by decide +kernel
theorem dX2_stateAt_18 : decode cX2_stateAt 18 = .ok (.aaload, 1) := by decide +kernel
theorem dX2_stateAt_19 : decode cX2_stateAt 19 = .ok (.areturn, 1) := by decide +kernel
theorem dX2_copy_0 : decode cX2_copy 0 = .ok (.aload_n 0, 1) := by decide +kernel
theorem dX2_copy_1 : decode cX2_copy 1 = .ok (.ifnull 12, 3) := by decide +kernel
theorem dX2_copy_4 : decode cX2_copy 4 = .ok (.aload_n 1, 1) := by decide +kernel
theorem dX2_copy_5 : decode cX2_copy 5 = .ok (.ifnull 8, 3) := by decide +kernel
theorem dX2_copy_8 : decode cX2_copy 8 = .ok (.aload_n 1, 1) := by decide +kernel
theorem dX2_copy_9 : decode cX2_copy 9 = .ok (.aload_n 0, 1) := by decide +kernel
theorem dX2_copy_10 : decode cX2_copy 10 = .ok (.invokevirtual 33, 3) := by decide +kernel
theorem dX2_copy_13 : decode cX2_copy 13 = .ok (.return_, 1) := by decide +kernel
theorem dX3_init_0 : decode cX3_init 0 = .ok (.aload_n 0, 1) := by decide +kernel
theorem dX3_init_1 : decode cX3_init 1 = .ok (.invokespecial 3, 3) := by decide +kernel
theorem dX3_init_4 : decode cX3_init 4 = .ok (.aload_n 0, 1) := by decide +kernel
theorem dX3_init_5 : decode cX3_init 5 = .ok (.bipush 20, 2) := by decide +kernel
theorem dX3_init_7 : decode cX3_init 7 = .ok (.newarray .int, 2) := by decide +kernel
theorem dX3_init_9 : decode cX3_init 9 = .ok (.putfield 9, 3) := by decide +kernel
theorem dX3_init_12 : decode cX3_init 12 = .ok (.aload_n 0, 1) := by decide +kernel
theorem dX3_init_13 : decode cX3_init 13 = .ok (.bipush 20, 2) := by decide +kernel
theorem dX3_init_15 : decode cX3_init 15 = .ok (.newarray .int, 2) := by decide +kernel
theorem dX3_init_17 : decode cX3_init 17 = .ok (.putfield 15, 3) := by decide +kernel
theorem dX3_init_20 : decode cX3_init 20 = .ok (.aload_n 0, 1) := by decide +kernel
theorem dX3_init_21 : decode cX3_init 21 = .ok (.bipush 20, 2) := by decide +kernel
theorem dX3_init_23 : decode cX3_init 23 = .ok (.newarray .int, 2) := by decide +kernel
theorem dX3_init_25 : decode cX3_init 25 = .ok (.putfield 18, 3) := by decide +kernel
theorem dX3_init_28 : decode cX3_init 28 = .ok (.aload_n 0, 1) := by decide +kernel
theorem dX3_init_29 : decode cX3_init 29 = .ok (.bipush 20, 2) := by decide +kernel
theorem dX3_init_31 : decode cX3_init 31 = .ok (.newarray .int, 2) := by decide +kernel
theorem dX3_init_33 : decode cX3_init 33 = .ok (.putfield 21, 3) := by decide +kernel
theorem dX3_init_36 : decode cX3_init 36 = .ok (.aload_n 0, 1) := by decide +kernel
theorem dX3_init_37 : decode cX3_init 37 = .ok (.bipush 20, 2) := by decide +kernel
theorem dX3_init_39 : decode cX3_init 39 = .ok (.newarray .int, 2) := by decide +kernel
theorem dX3_init_41 : decode cX3_init 41 = .ok (.putfield 24, 3) := by decide +kernel
theorem dX3_init_44 : decode cX3_init 44 = .ok (.aload_n 0, 1) := by decide +kernel
theorem dX3_init_45 : decode cX3_init 45 = .ok (.bipush 20, 2) := by decide +kernel
theorem dX3_init_47 : decode cX3_init 47 = .ok (.newarray .int, 2) := by decide +kernel
theorem dX3_init_49 : decode cX3_init 49 = .ok (.putfield 27, 3) := by decide +kernel
theorem dX3_init_52 : decode cX3_init 52 = .ok (.aload_n 0, 1) := by decide +kernel
theorem dX3_init_53 : decode cX3_init 53 = .ok (.bipush 20, 2) := by decide +kernel
theorem dX3_init_55 : decode cX3_init 55 = .ok (.newarray .int, 2) := by decide +kernel
theorem dX3_init_57 : decode cX3_init 57 = .ok (.putfield 30, 3) := by decide +kernel
theorem dX3_init_60 : decode cX3_init 60 = .ok (.return_, 1) := by decide +kernel
theorem dX3_has_0 : decode cX3_has 0 = .ok (.iload_n 1, 1) := by decide +kernel
theorem dX3_has_1 : decode cX3_has 1 = .ok (.ifCond .lt 21, 3) := by decide +kernel
theorem dX3_has_4 : decode cX3_has 4 = .ok (.iload_n 1, 1) := by decide +kernel
theorem dX3_has_5 : decode cX3_has 5 = .ok (.aload_n 0, 1) := by decide +kernel
theorem dX3_has_6 : decode cX3_has 6 = .ok (.getfield 33, 3) := by decide +kernel
theorem dX3_has_9 : decode cX3_has 9 = .ok (.if_icmp .ge 13, 3) := by decide +kernel
theorem dX3_has_12 : decode cX3_has 12 = .ok (.iload_n 1, 1) := by decide +kernel
theorem dX3_has_13 : decode cX3_has 13 = .ok (.bipush 20, 2) := by decide +kernel
theorem dX3_has_15 : decode cX3_has 15 = .ok (.if_icmp .ge 7, 3) := by decide +kernel
theorem dX3_has_18 : decode cX3_has 18 = .ok (.iconst 1, 1) := by decide +kernel
theorem dX3_has_19 : decode cX3_has 19 = .ok (.goto 4, 3) := by decide +kernel
theorem dX3_has_22 : decode cX3_has 22 = .ok (.iconst 0, 1) := by decide +kernel
theorem dX3_has_23 : decode cX3_has 23 = .ok (.ireturn, 1) := by decide +kernel
theorem dX3_append_0 : decode cX3_append 0 = .ok (.aload_n 0, 1) := by decide +kernel
theorem dX3_append_1 : decode cX3_append 1 = .ok (.getfield 33, 3) := by decide +kernel
theorem dX3_append_4 : decode cX3_append 4 = .ok (.ifCond .lt 12, 3) := by decide +kernel
theorem dX3_append_7 : decode cX3_append 7 = .ok (.aload_n 0, 1) := by decide +kernel
theorem dX3_append_8 : decode cX3_append 8 = .ok (.getfield 33, 3) := by decide +kernel
theorem dX3_append_11 : decode cX3_append 11 = .ok (.bipush 20, 2) := by decide +kernel
theorem dX3_append_13 : decode cX3_append 13 = .ok (.if_icmp .lt 6, 3) := by decide +kernel
theorem dX3_append_16 : decode cX3_append 16 = .ok (.bipush (-3), 2) := by decide +kernel
theorem dX3_append_18 : decode cX3_append 18 = .ok (.ireturn, 1) := by decide +kernel
theorem dX3_append_19 : decode cX3_append 19 = .ok (.aload_n 0, 1) := by decide +kernel
theorem dX3_append_20 : decode cX3_append 20 = .ok (.getfield 9, 3) := by decide +kernel
theorem dX3_append_23 : decode cX3_append 23 = .ok (.aload_n 0, 1) := by decide +kernel
theorem dX3_append_24 : decode cX3_append 24 = .ok (.getfield 33, 3) := by decide +kernel
theorem dX3_append_27 : decode cX3_append 27 = .ok (.iload_n 1, 1) := by decide +kernel
theorem dX3_append_28 : decode cX3_append 28 = .ok (.iastore, 1) := by decide +kernel
theorem dX3_append_29 : decode cX3_append 29 = .ok (.aload_n 0, 1) := by decide +kernel
theorem dX3_append_30 : decode cX3_append 30 = .ok (.getfield 15, 3) := by decide +kernel
theorem dX3_append_33 : decode cX3_append 33 = .ok (.aload_n 0, 1) := by decide +kernel
theorem dX3_append_34 : decode cX3_append 34 = .ok (.getfield 33, 3) := by decide +kernel
theorem dX3_append_37 : decode cX3_append 37 = .ok (.iload_n 2, 1) := by decide +kernel
theorem dX3_append_38 : decode cX3_append 38 = .ok (.iastore, 1) := by decide +kernel
theorem dX3_append_39 : decode cX3_append 39 = .ok (.aload_n 0, 1) := by decide +kernel
theorem dX3_append_40 : decode cX3_append 40 = .ok (.getfield 18, 3) := by decide +kernel
theorem dX3_append_43 : decode cX3_append 43 = .ok (.aload_n 0, 1) := by decide +kernel
theorem dX3_append_44 : decode cX3_append 44 = .ok (.getfield 33, 3) := by decide +kernel
theorem dX3_append_47 : decode cX3_append 47 = .ok (.iload_n 3, 1) := by decide +kernel
theorem dX3_append_48 : decode cX3_append 48 = .ok (.iastore, 1) := by decide +kernel
theorem dX3_append_49 : decode cX3_append 49 = .ok (.aload_n 0, 1) := by decide +kernel
theorem dX3_append_50 : decode cX3_append 50 = .ok (.getfield 21, 3) := by decide +kernel
theorem dX3_append_53 : decode cX3_append 53 = .ok (.aload_n 0, 1) := by decide +kernel
theorem dX3_append_54 : decode cX3_append 54 = .ok (.getfield 33, 3) := by decide +kernel
theorem dX3_append_57 : decode cX3_append 57 = .ok (.iload 4, 2) := by decide +kernel
theorem dX3_append_59 : decode cX3_append 59 = .ok (.iastore, 1) := by decide +kernel
theorem dX3_append_60 : decode cX3_append 60 = .ok (.aload_n 0, 1) := by decide +kernel
theorem dX3_append_61 : decode cX3_append 61 = .ok (.getfield 24, 3) := by decide +kernel
theorem dX3_append_64 : decode cX3_append 64 = .ok (.aload_n 0, 1) := by decide +kernel
theorem dX3_append_65 : decode cX3_append 65 = .ok (.getfield 33, 3) := by decide +kernel
theorem dX3_append_68 : decode cX3_append 68 = .ok (.iconst 0, 1) := by decide +kernel
theorem dX3_append_69 : decode cX3_append 69 = .ok (.iastore, 1) := by decide +kernel
theorem dX3_append_70 : decode cX3_append 70 = .ok (.aload_n 0, 1) := by decide +kernel
theorem dX3_append_71 : decode cX3_append 71 = .ok (.getfield 27, 3) := by decide +kernel
theorem dX3_append_74 : decode cX3_append 74 = .ok (.aload_n 0, 1) := by decide +kernel
theorem dX3_append_75 : decode cX3_append 75 = .ok (.getfield 33, 3) := by decide +kernel
theorem dX3_append_78 : decode cX3_append 78 = .ok (.iconst 0, 1) := by decide +kernel
theorem dX3_append_79 : decode cX3_append 79 = .ok (.iastore, 1) := by decide +kernel
theorem dX3_append_80 : decode cX3_append 80 = .ok (.aload_n 0, 1) := by decide +kernel
theorem dX3_append_81 : decode cX3_append 81 = .ok (.getfield 30, 3) := by decide +kernel
theorem dX3_append_84 : decode cX3_append 84 = .ok (.aload_n 0, 1) := by decide +kernel
theorem dX3_append_85 : decode cX3_append 85 = .ok (.getfield 33, 3) := by decide +kernel
theorem dX3_append_88 : decode cX3_append 88 = .ok (.iconst 0, 1) := by decide +kernel
theorem dX3_append_89 : decode cX3_append 89 = .ok (.iastore, 1) := by decide +kernel
theorem dX3_append_90 : decode cX3_append 90 = .ok (.aload_n 0, 1) := by decide +kernel
theorem dX3_append_91 : decode cX3_append 91 = .ok (.dup, 1) := by decide +kernel
theorem dX3_append_92 : decode cX3_append 92 = .ok (.getfield 33, 3) := by decide +kernel
theorem dX3_append_95 : decode cX3_append 95 = .ok (.iconst 1, 1) := by decide +kernel
theorem dX3_append_96 : decode cX3_append 96 = .ok (.iadd, 1) := by decide +kernel
theorem dX3_append_97 : decode cX3_append 97 = .ok (.putfield 33, 3) := by decide +kernel
theorem dX3_append_100 : decode cX3_append 100 = .ok (.aload_n 0, 1) := by decide +kernel
theorem dX3_append_101 : decode cX3_append 101 = .ok (.getfield 33, 3) := by decide +kernel
theorem dX3_append_104 : decode cX3_append 104 = .ok (.iconst 1, 1) := by decide +kernel
theorem dX3_append_105 : decode cX3_append 105 = .ok (.isub, 1) := by decide +kernel
theorem dX3_append_106 : decode cX3_append 106 = .ok (.ireturn, 1) := by decide +kernel
theorem dX3_isUnsettled_0 : decode cX3_isUnsettled 0 = .ok (.aload_n 0, 1) := by decide +kernel
theorem dX3_isUnsettled_1 : decode cX3_isUnsettled 1 = .ok (.iload_n 1, 1) := by decide +kernel
theorem dX3_isUnsettled_2 : decode cX3_isUnsettled 2 = .ok (.invokevirtual 37, 3) := by decide +kernel
theorem dX3_isUnsettled_5 : decode cX3_isUnsettled 5 = .ok (.ifCond .eq 26, 3) := by decide +kernel
theorem dX3_isUnsettled_8 : decode cX3_isUnsettled 8 = .ok (.aload_n 0, 1) := by decide +kernel
theorem dX3_isUnsettled_9 : decode cX3_isUnsettled 9 = .ok (.getfield 24, 3) := by decide +kernel
theorem dX3_isUnsettled_12 : decode cX3_isUnsettled 12 = .ok (.iload_n 1, 1) := by decide +kernel
theorem dX3_isUnsettled_13 : decode cX3_isUnsettled 13 = .ok (.iaload, 1) := by decide +kernel
theorem dX3_isUnsettled_14 : decode cX3_isUnsettled 14 = .ok (.ifCond .eq 13, 3) := by decide +kernel
theorem dX3_isUnsettled_17 : decode cX3_isUnsettled 17 = .ok (.aload_n 0, 1) := by decide +kernel
theorem dX3_isUnsettled_18 : decode cX3_isUnsettled 18 = .ok (.getfield 24, 3) := by decide +kernel
theorem dX3_isUnsettled_21 : decode cX3_isUnsettled 21 = .ok (.iload_n 1, 1) := by decide +kernel
theorem dX3_isUnsettled_22 : decode cX3_isUnsettled 22 = .ok (.iaload, 1) := by decide +kernel
theorem dX3_isUnsettled_23 : decode cX3_isUnsettled 23 = .ok (.iconst 1, 1) := by decide +kernel
theorem dX3_isUnsettled_24 : decode cX3_isUnsettled 24 = .ok (.if_icmp .ne 7, 3) := by decide +kernel
theorem dX3_isUnsettled_27 : decode cX3_isUnsettled 27 = .ok (.iconst 1, 1) := by decide +kernel
theorem dX3_isUnsettled_28 : decode cX3_isUnsettled 28 = .ok (.goto 4, 3) := by decide +kernel
theorem dX3_isUnsettled_31 : decode cX3_isUnsettled 31 = .ok (.iconst 0, 1) := by decide +kernel
theorem dX3_isUnsettled_32 : decode cX3_isUnsettled 32 = .ok (.ireturn, 1) := by decide +kernel
theorem dX3_countOfMember_0 : decode cX3_countOfMember 0 = .ok (.iconst 0, 1) := by decide +kernel
theorem dX3_countOfMember_1 : decode cX3_countOfMember 1 = .ok (.istore_n 2, 1) := by decide +kernel
theorem dX3_countOfMember_2 : decode cX3_countOfMember 2 = .ok (.iconst 0, 1) := by decide +kernel
theorem dX3_countOfMember_3 : decode cX3_countOfMember 3 = .ok (.istore_n 3, 1) := by decide +kernel
theorem dX3_countOfMember_4 : decode cX3_countOfMember 4 = .ok (.iload_n 3, 1) := by decide +kernel
theorem dX3_countOfMember_5 : decode cX3_countOfMember 5 = .ok (.bipush 20, 2) := by decide +kernel
theorem dX3_countOfMember_7 : decode cX3_countOfMember 7 = .ok (.if_icmp .ge 30, 3) := by decide +kernel
theorem dX3_countOfMember_10 : decode cX3_countOfMember 10 = .ok (.aload_n 0, 1) := by decide +kernel
theorem dX3_countOfMember_11 : decode cX3_countOfMember 11 = .ok (.iload_n 3, 1) := by decide +kernel
theorem dX3_countOfMember_12 : decode cX3_countOfMember 12 = .ok (.invokevirtual 37, 3) := by decide +kernel
theorem dX3_countOfMember_15 : decode cX3_countOfMember 15 = .ok (.ifCond .eq 16, 3) := by decide +kernel
theorem dX3_countOfMember_18 : decode cX3_countOfMember 18 = .ok (.aload_n 0, 1) := by decide +kernel
theorem dX3_countOfMember_19 : decode cX3_countOfMember 19 = .ok (.getfield 9, 3) := by decide +kernel
theorem dX3_countOfMember_22 : decode cX3_countOfMember 22 = .ok (.iload_n 3, 1) := by decide +kernel
theorem dX3_countOfMember_23 : decode cX3_countOfMember 23 = .ok (.iaload, 1) := by decide +kernel
theorem dX3_countOfMember_24 : decode cX3_countOfMember 24 = .ok (.iload_n 1, 1) := by decide +kernel
theorem dX3_countOfMember_25 : decode cX3_countOfMember 25 = .ok (.if_icmp .ne 6, 3) := by decide +kernel
theorem dX3_countOfMember_28 : decode cX3_countOfMember 28 = .ok (.iinc 2 1, 3) := by decide +kernel
theorem dX3_countOfMember_31 : decode cX3_countOfMember 31 = .ok (.iinc 3 1, 3) := by decide +kernel
theorem dX3_countOfMember_34 : decode cX3_countOfMember 34 = .ok (.goto (-30), 3) := by decide +kernel
theorem dX3_countOfMember_37 : decode cX3_countOfMember 37 = .ok (.iload_n 2, 1) := by decide +kernel
theorem dX3_countOfMember_38 : decode cX3_countOfMember 38 = .ok (.ireturn, 1) := by decide +kernel
theorem dX3_countOfMemberAhead_0 : decode cX3_countOfMemberAhead 0 = .ok (.iconst 0, 1) := by decide +kernel
theorem dX3_countOfMemberAhead_1 : decode cX3_countOfMemberAhead 1 = .ok (.istore_n 2, 1) := by decide +kernel
theorem dX3_countOfMemberAhead_2 : decode cX3_countOfMemberAhead 2 = .ok (.iconst 0, 1) := by decide +kernel
theorem dX3_countOfMemberAhead_3 : decode cX3_countOfMemberAhead 3 = .ok (.istore_n 3, 1) := by decide +kernel
theorem dX3_countOfMemberAhead_4 : decode cX3_countOfMemberAhead 4 = .ok (.iload_n 3, 1) := by decide +kernel
theorem dX3_countOfMemberAhead_5 : decode cX3_countOfMemberAhead 5 = .ok (.bipush 20, 2) := by decide +kernel
theorem dX3_countOfMemberAhead_7 : decode cX3_countOfMemberAhead 7 = .ok (.if_icmp .ge 40, 3) := by decide +kernel
theorem dX3_countOfMemberAhead_10 : decode cX3_countOfMemberAhead 10 = .ok (.aload_n 0, 1) := by decide +kernel
theorem dX3_countOfMemberAhead_11 : decode cX3_countOfMemberAhead 11 = .ok (.iload_n 3, 1) := by decide +kernel
theorem dX3_countOfMemberAhead_12 : decode cX3_countOfMemberAhead 12 = .ok (.invokevirtual 37, 3) := by decide +kernel
theorem dX3_countOfMemberAhead_15 : decode cX3_countOfMemberAhead 15 = .ok (.ifCond .eq 26, 3) := by decide +kernel
theorem dX3_countOfMemberAhead_18 : decode cX3_countOfMemberAhead 18 = .ok (.aload_n 0, 1) := by decide +kernel
theorem dX3_countOfMemberAhead_19 : decode cX3_countOfMemberAhead 19 = .ok (.getfield 9, 3) := by decide +kernel
theorem dX3_countOfMemberAhead_22 : decode cX3_countOfMemberAhead 22 = .ok (.iload_n 3, 1) := by decide +kernel
theorem dX3_countOfMemberAhead_23 : decode cX3_countOfMemberAhead 23 = .ok (.iaload, 1) := by decide +kernel
theorem dX3_countOfMemberAhead_24 : decode cX3_countOfMemberAhead 24 = .ok (.iload_n 1, 1) := by decide +kernel
theorem dX3_countOfMemberAhead_25 : decode cX3_countOfMemberAhead 25 = .ok (.if_icmp .ne 16, 3) := by decide +kernel
theorem dX3_countOfMemberAhead_28 : decode cX3_countOfMemberAhead 28 = .ok (.aload_n 0, 1) := by decide +kernel
theorem dX3_countOfMemberAhead_29 : decode cX3_countOfMemberAhead 29 = .ok (.getfield 24, 3) := by decide +kernel
theorem dX3_countOfMemberAhead_32 : decode cX3_countOfMemberAhead 32 = .ok (.iload_n 3, 1) := by decide +kernel
theorem dX3_countOfMemberAhead_33 : decode cX3_countOfMemberAhead 33 = .ok (.iaload, 1) := by decide +kernel
theorem dX3_countOfMemberAhead_34 : decode cX3_countOfMemberAhead 34 = .ok (.iconst 1, 1) := by decide +kernel
theorem dX3_countOfMemberAhead_35 : decode cX3_countOfMemberAhead 35 = .ok (.if_icmp .ne 6, 3) := by decide +kernel
theorem dX3_countOfMemberAhead_38 : decode cX3_countOfMemberAhead 38 = .ok (.iinc 2 1, 3) := by decide +kernel
theorem dX3_countOfMemberAhead_41 : decode cX3_countOfMemberAhead 41 = .ok (.iinc 3 1, 3) := by decide +kernel
theorem dX3_countOfMemberAhead_44 : decode cX3_countOfMemberAhead 44 = .ok (.goto (-40), 3) := by decide +kernel
theorem dX3_countOfMemberAhead_47 : decode cX3_countOfMemberAhead 47 = .ok (.iload_n 2, 1) := by decide +kernel
theorem dX3_countOfMemberAhead_48 : decode cX3_countOfMemberAhead 48 = .ok (.ireturn, 1) := by decide +kernel
theorem dX3_countOfClientUnsettled_0 : decode cX3_countOfClientUnsettled 0 = .ok (.iconst 0, 1) := by decide +kernel
theorem dX3_countOfClientUnsettled_1 : decode cX3_countOfClientUnsettled 1 = .ok (.istore_n 2, 1) := by decide +kernel
theorem dX3_countOfClientUnsettled_2 : decode cX3_countOfClientUnsettled 2 = .ok (.iconst 0, 1) := by decide +kernel
theorem dX3_countOfClientUnsettled_3 : decode cX3_countOfClientUnsettled 3 = .ok (.istore_n 3, 1) := by decide +kernel
theorem dX3_countOfClientUnsettled_4 : decode cX3_countOfClientUnsettled 4 = .ok (.iload_n 3, 1) := by decide +kernel
theorem dX3_countOfClientUnsettled_5 : decode cX3_countOfClientUnsettled 5 = .ok (.bipush 20, 2) := by decide +kernel
theorem dX3_countOfClientUnsettled_7 : decode cX3_countOfClientUnsettled 7 = .ok (.if_icmp .ge 30, 3) := by decide +kernel
theorem dX3_countOfClientUnsettled_10 : decode cX3_countOfClientUnsettled 10 = .ok (.aload_n 0, 1) := by decide +kernel
theorem dX3_countOfClientUnsettled_11 : decode cX3_countOfClientUnsettled 11 = .ok (.iload_n 3, 1) := by decide +kernel
theorem dX3_countOfClientUnsettled_12 : decode cX3_countOfClientUnsettled 12 = .ok (.invokevirtual 41, 3) := by decide +kernel
theorem dX3_countOfClientUnsettled_15 : decode cX3_countOfClientUnsettled 15 = .ok (.ifCond .eq 16, 3) := by decide +kernel
theorem dX3_countOfClientUnsettled_18 : decode cX3_countOfClientUnsettled 18 = .ok (.aload_n 0, 1) := by decide +kernel
theorem dX3_countOfClientUnsettled_19 : decode cX3_countOfClientUnsettled 19 = .ok (.getfield 15, 3) := by decide +kernel
theorem dX3_countOfClientUnsettled_22 : decode cX3_countOfClientUnsettled 22 = .ok (.iload_n 3, 1) := by decide +kernel
theorem dX3_countOfClientUnsettled_23 : decode cX3_countOfClientUnsettled 23 = .ok (.iaload, 1) := by decide +kernel
theorem dX3_countOfClientUnsettled_24 : decode cX3_countOfClientUnsettled 24 = .ok (.iload_n 1, 1) := by decide +kernel
theorem dX3_countOfClientUnsettled_25 : decode cX3_countOfClientUnsettled 25 = .ok (.if_icmp .ne 6, 3) := by decide +kernel
theorem dX3_countOfClientUnsettled_28 : decode cX3_countOfClientUnsettled 28 = .ok (.iinc 2 1, 3) := by decide +kernel
theorem dX3_countOfClientUnsettled_31 : decode cX3_countOfClientUnsettled 31 = .ok (.iinc 3 1, 3) := by decide +kernel
theorem dX3_countOfClientUnsettled_34 : decode cX3_countOfClientUnsettled 34 = .ok (.goto (-30), 3) := by decide +kernel
theorem dX3_countOfClientUnsettled_37 : decode cX3_countOfClientUnsettled 37 = .ok (.iload_n 2, 1) := by decide +kernel
theorem dX3_countOfClientUnsettled_38 : decode cX3_countOfClientUnsettled 38 = .ok (.ireturn, 1) := by decide +kernel
theorem dX3_countOfState_0 : decode cX3_countOfState 0 = .ok (.iconst 0, 1) := by decide +kernel
theorem dX3_countOfState_1 : decode cX3_countOfState 1 = .ok (.istore_n 2, 1) := by decide +kernel
theorem dX3_countOfState_2 : decode cX3_countOfState 2 = .ok (.iconst 0, 1) := by decide +kernel
theorem dX3_countOfState_3 : decode cX3_countOfState 3 = .ok (.istore_n 3, 1) := by decide +kernel
theorem dX3_countOfState_4 : decode cX3_countOfState 4 = .ok (.iload_n 3, 1) := by decide +kernel
theorem dX3_countOfState_5 : decode cX3_countOfState 5 = .ok (.bipush 20, 2) := by decide +kernel
theorem dX3_countOfState_7 : decode cX3_countOfState 7 = .ok (.if_icmp .ge 30, 3) := by decide +kernel
theorem dX3_countOfState_10 : decode cX3_countOfState 10 = .ok (.aload_n 0, 1) := by decide +kernel
theorem dX3_countOfState_11 : decode cX3_countOfState 11 = .ok (.iload_n 3, 1) := by decide +kernel
theorem dX3_countOfState_12 : decode cX3_countOfState 12 = .ok (.invokevirtual 37, 3) := by decide +kernel
theorem dX3_countOfState_15 : decode cX3_countOfState 15 = .ok (.ifCond .eq 16, 3) := by decide +kernel
theorem dX3_countOfState_18 : decode cX3_countOfState 18 = .ok (.aload_n 0, 1) := by decide +kernel
theorem dX3_countOfState_19 : decode cX3_countOfState 19 = .ok (.getfield 24, 3) := by decide +kernel
theorem dX3_countOfState_22 : decode cX3_countOfState 22 = .ok (.iload_n 3, 1) := by decide +kernel
theorem dX3_countOfState_23 : decode cX3_countOfState 23 = .ok (.iaload, 1) := by decide +kernel
theorem dX3_countOfState_24 : decode cX3_countOfState 24 = .ok (.iload_n 1, 1) := by decide +kernel
theorem dX3_countOfState_25 : decode cX3_countOfState 25 = .ok (.if_icmp .ne 6, 3) := by decide +kernel
theorem dX3_countOfState_28 : decode cX3_countOfState 28 = .ok (.iinc 2 1, 3) := by decide +kernel
theorem dX3_countOfState_31 : decode cX3_countOfState 31 = .ok (.iinc 3 1, 3) := by decide +kernel
theorem dX3_countOfState_34 : decode cX3_countOfState 34 = .ok (.goto (-30), 3) := by decide +kernel
theorem dX3_countOfState_37 : decode cX3_countOfState 37 = .ok (.iload_n 2, 1) := by decide +kernel
theorem dX3_countOfState_38 : decode cX3_countOfState 38 = .ok (.ireturn, 1) := by decide +kernel
theorem dX3_advancesOut_0 : decode cX3_advancesOut 0 = .ok (.iconst 0, 1) := by decide +kernel
theorem dX3_advancesOut_1 : decode cX3_advancesOut 1 = .ok (.istore_n 1, 1) := by decide +kernel
theorem dX3_advancesOut_2 : decode cX3_advancesOut 2 = .ok (.iconst 0, 1) := by decide +kernel
theorem dX3_advancesOut_3 : decode cX3_advancesOut 3 = .ok (.istore_n 2, 1) := by decide +kernel
theorem dX3_advancesOut_4 : decode cX3_advancesOut 4 = .ok (.iload_n 2, 1) := by decide +kernel
theorem dX3_advancesOut_5 : decode cX3_advancesOut 5 = .ok (.bipush 20, 2) := by decide +kernel
theorem dX3_advancesOut_7 : decode cX3_advancesOut 7 = .ok (.if_icmp .ge 36, 3) := by decide +kernel
theorem dX3_advancesOut_10 : decode cX3_advancesOut 10 = .ok (.aload_n 0, 1) := by decide +kernel
theorem dX3_advancesOut_11 : decode cX3_advancesOut 11 = .ok (.iload_n 2, 1) := by decide +kernel
theorem dX3_advancesOut_12 : decode cX3_advancesOut 12 = .ok (.invokevirtual 37, 3) := by decide +kernel
theorem dX3_advancesOut_15 : decode cX3_advancesOut 15 = .ok (.ifCond .eq 22, 3) := by decide +kernel
theorem dX3_advancesOut_18 : decode cX3_advancesOut 18 = .ok (.aload_n 0, 1) := by decide +kernel
theorem dX3_advancesOut_19 : decode cX3_advancesOut 19 = .ok (.getfield 24, 3) := by decide +kernel
theorem dX3_advancesOut_22 : decode cX3_advancesOut 22 = .ok (.iload_n 2, 1) := by decide +kernel
theorem dX3_advancesOut_23 : decode cX3_advancesOut 23 = .ok (.iaload, 1) := by decide +kernel
theorem dX3_advancesOut_24 : decode cX3_advancesOut 24 = .ok (.iconst 1, 1) := by decide +kernel
theorem dX3_advancesOut_25 : decode cX3_advancesOut 25 = .ok (.if_icmp .ne 12, 3) := by decide +kernel
theorem dX3_advancesOut_28 : decode cX3_advancesOut 28 = .ok (.iload_n 1, 1) := by decide +kernel
theorem dX3_advancesOut_29 : decode cX3_advancesOut 29 = .ok (.aload_n 0, 1) := by decide +kernel
theorem dX3_advancesOut_30 : decode cX3_advancesOut 30 = .ok (.getfield 30, 3) := by decide +kernel
theorem dX3_advancesOut_33 : decode cX3_advancesOut 33 = .ok (.iload_n 2, 1) := by decide +kernel
theorem dX3_advancesOut_34 : decode cX3_advancesOut 34 = .ok (.iaload, 1) := by decide +kernel
theorem dX3_advancesOut_35 : decode cX3_advancesOut 35 = .ok (.iadd, 1) := by decide +kernel
theorem dX3_advancesOut_36 : decode cX3_advancesOut 36 = .ok (.istore_n 1, 1) := by decide +kernel
theorem dX3_advancesOut_37 : decode cX3_advancesOut 37 = .ok (.iinc 2 1, 3) := by decide +kernel
theorem dX3_advancesOut_40 : decode cX3_advancesOut 40 = .ok (.goto (-36), 3) := by decide +kernel
theorem dX3_advancesOut_43 : decode cX3_advancesOut 43 = .ok (.iload_n 1, 1) := by decide +kernel
theorem dX3_advancesOut_44 : decode cX3_advancesOut 44 = .ok (.ireturn, 1) := by decide +kernel
theorem dX3_copyFrom_0 : decode cX3_copyFrom 0 = .ok (.aload_n 1, 1) := by decide +kernel
theorem dX3_copyFrom_1 : decode cX3_copyFrom 1 = .ok (.getfield 9, 3) := by decide +kernel
theorem dX3_copyFrom_4 : decode cX3_copyFrom 4 = .ok (.aload_n 0, 1) := by decide +kernel
theorem dX3_copyFrom_5 : decode cX3_copyFrom 5 = .ok (.getfield 9, 3) := by decide +kernel
theorem dX3_copyFrom_8 : decode cX3_copyFrom 8 = .ok (.invokestatic 44, 3) := by decide +kernel
theorem dX3_copyFrom_11 : decode cX3_copyFrom 11 = .ok (.aload_n 1, 1) := by decide +kernel
theorem dX3_copyFrom_12 : decode cX3_copyFrom 12 = .ok (.getfield 15, 3) := by decide +kernel
theorem dX3_copyFrom_15 : decode cX3_copyFrom 15 = .ok (.aload_n 0, 1) := by decide +kernel
theorem dX3_copyFrom_16 : decode cX3_copyFrom 16 = .ok (.getfield 15, 3) := by decide +kernel
theorem dX3_copyFrom_19 : decode cX3_copyFrom 19 = .ok (.invokestatic 44, 3) := by decide +kernel
theorem dX3_copyFrom_22 : decode cX3_copyFrom 22 = .ok (.aload_n 1, 1) := by decide +kernel
theorem dX3_copyFrom_23 : decode cX3_copyFrom 23 = .ok (.getfield 18, 3) := by decide +kernel
theorem dX3_copyFrom_26 : decode cX3_copyFrom 26 = .ok (.aload_n 0, 1) := by decide +kernel
theorem dX3_copyFrom_27 : decode cX3_copyFrom 27 = .ok (.getfield 18, 3) := by decide +kernel
theorem dX3_copyFrom_30 : decode cX3_copyFrom 30 = .ok (.invokestatic 44, 3) := by decide +kernel
theorem dX3_copyFrom_33 : decode cX3_copyFrom 33 = .ok (.aload_n 1, 1) := by decide +kernel
theorem dX3_copyFrom_34 : decode cX3_copyFrom 34 = .ok (.getfield 21, 3) := by decide +kernel
theorem dX3_copyFrom_37 : decode cX3_copyFrom 37 = .ok (.aload_n 0, 1) := by decide +kernel
theorem dX3_copyFrom_38 : decode cX3_copyFrom 38 = .ok (.getfield 21, 3) := by decide +kernel
theorem dX3_copyFrom_41 : decode cX3_copyFrom 41 = .ok (.invokestatic 44, 3) := by decide +kernel
theorem dX3_copyFrom_44 : decode cX3_copyFrom 44 = .ok (.aload_n 1, 1) := by decide +kernel
theorem dX3_copyFrom_45 : decode cX3_copyFrom 45 = .ok (.getfield 24, 3) := by decide +kernel
theorem dX3_copyFrom_48 : decode cX3_copyFrom 48 = .ok (.aload_n 0, 1) := by decide +kernel
theorem dX3_copyFrom_49 : decode cX3_copyFrom 49 = .ok (.getfield 24, 3) := by decide +kernel
theorem dX3_copyFrom_52 : decode cX3_copyFrom 52 = .ok (.invokestatic 44, 3) := by decide +kernel
theorem dX3_copyFrom_55 : decode cX3_copyFrom 55 = .ok (.aload_n 1, 1) := by decide +kernel
theorem dX3_copyFrom_56 : decode cX3_copyFrom 56 = .ok (.getfield 27, 3) := by decide +kernel
theorem dX3_copyFrom_59 : decode cX3_copyFrom 59 = .ok (.aload_n 0, 1) := by decide +kernel
theorem dX3_copyFrom_60 : decode cX3_copyFrom 60 = .ok (.getfield 27, 3) := by decide +kernel
theorem dX3_copyFrom_63 : decode cX3_copyFrom 63 = .ok (.invokestatic 44, 3) := by decide +kernel
theorem dX3_copyFrom_66 : decode cX3_copyFrom 66 = .ok (.aload_n 1, 1) := by decide +kernel
theorem dX3_copyFrom_67 : decode cX3_copyFrom 67 = .ok (.getfield 30, 3) := by decide +kernel
theorem dX3_copyFrom_70 : decode cX3_copyFrom 70 = .ok (.aload_n 0, 1) := by decide +kernel
theorem dX3_copyFrom_71 : decode cX3_copyFrom 71 = .ok (.getfield 30, 3) := by decide +kernel
theorem dX3_copyFrom_74 : decode cX3_copyFrom 74 = .ok (.invokestatic 44, 3) := by decide +kernel
theorem dX3_copyFrom_77 : decode cX3_copyFrom 77 = .ok (.aload_n 0, 1) := by decide +kernel
theorem dX3_copyFrom_78 : decode cX3_copyFrom 78 = .ok (.aload_n 1, 1) := by decide +kernel
theorem dX3_copyFrom_79 : decode cX3_copyFrom 79 = .ok (.getfield 33, 3) := by decide +kernel
theorem dX3_copyFrom_82 : decode cX3_copyFrom 82 = .ok (.putfield 33, 3) := by decide +kernel
theorem dX3_copyFrom_85 : decode cX3_copyFrom 85 = .ok (.return_, 1) := by decide +kernel
theorem dX4_init_0 : decode cX4_init 0 = .ok (.aload_n 0, 1) := by decide +kernel
theorem dX4_init_1 : decode cX4_init 1 = .ok (.invokespecial 3, 3) := by decide +kernel
theorem dX4_init_4 : decode cX4_init 4 = .ok (.aload_n 0, 1) := by decide +kernel
theorem dX4_init_5 : decode cX4_init 5 = .ok (.bipush 8, 2) := by decide +kernel
theorem dX4_init_7 : decode cX4_init 7 = .ok (.newarray .int, 2) := by decide +kernel
theorem dX4_init_9 : decode cX4_init 9 = .ok (.putfield 9, 3) := by decide +kernel
theorem dX4_init_12 : decode cX4_init 12 = .ok (.aload_n 0, 1) := by decide +kernel
theorem dX4_init_13 : decode cX4_init 13 = .ok (.bipush 8, 2) := by decide +kernel
theorem dX4_init_15 : decode cX4_init 15 = .ok (.newarray .int, 2) := by decide +kernel
theorem dX4_init_17 : decode cX4_init 17 = .ok (.putfield 15, 3) := by decide +kernel
theorem dX4_init_20 : decode cX4_init 20 = .ok (.aload_n 0, 1) := by decide +kernel
theorem dX4_init_21 : decode cX4_init 21 = .ok (.bipush 8, 2) := by decide +kernel
theorem dX4_init_23 : decode cX4_init 23 = .ok (.newarray .int, 2) := by decide +kernel
theorem dX4_init_25 : decode cX4_init 25 = .ok (.putfield 18, 3) := by decide +kernel
theorem dX4_init_28 : decode cX4_init 28 = .ok (.aload_n 0, 1) := by decide +kernel
theorem dX4_init_29 : decode cX4_init 29 = .ok (.bipush 8, 2) := by decide +kernel
theorem dX4_init_31 : decode cX4_init 31 = .ok (.newarray .int, 2) := by decide +kernel
theorem dX4_init_33 : decode cX4_init 33 = .ok (.putfield 21, 3) := by decide +kernel
theorem dX4_init_36 : decode cX4_init 36 = .ok (.return_, 1) := by decide +kernel
theorem dX4_has_0 : decode cX4_has 0 = .ok (.iload_n 1, 1) := by decide +kernel
theorem dX4_has_1 : decode cX4_has 1 = .ok (.ifCond .lt 21, 3) := by decide +kernel
theorem dX4_has_4 : decode cX4_has 4 = .ok (.iload_n 1, 1) := by decide +kernel
theorem dX4_has_5 : decode cX4_has 5 = .ok (.aload_n 0, 1) := by decide +kernel
theorem dX4_has_6 : decode cX4_has 6 = .ok (.getfield 24, 3) := by decide +kernel
theorem dX4_has_9 : decode cX4_has 9 = .ok (.if_icmp .ge 13, 3) := by decide +kernel
theorem dX4_has_12 : decode cX4_has 12 = .ok (.iload_n 1, 1) := by decide +kernel
theorem dX4_has_13 : decode cX4_has 13 = .ok (.bipush 8, 2) := by decide +kernel
theorem dX4_has_15 : decode cX4_has 15 = .ok (.if_icmp .ge 7, 3) := by decide +kernel
theorem dX4_has_18 : decode cX4_has 18 = .ok (.iconst 1, 1) := by decide +kernel
theorem dX4_has_19 : decode cX4_has 19 = .ok (.goto 4, 3) := by decide +kernel
theorem dX4_has_22 : decode cX4_has 22 = .ok (.iconst 0, 1) := by decide +kernel
theorem dX4_has_23 : decode cX4_has 23 = .ok (.ireturn, 1) := by decide +kernel
theorem dX4_append_0 : decode cX4_append 0 = .ok (.aload_n 0, 1) := by decide +kernel
theorem dX4_append_1 : decode cX4_append 1 = .ok (.getfield 24, 3) := by decide +kernel
theorem dX4_append_4 : decode cX4_append 4 = .ok (.ifCond .lt 12, 3) := by decide +kernel
theorem dX4_append_7 : decode cX4_append 7 = .ok (.aload_n 0, 1) := by decide +kernel
theorem dX4_append_8 : decode cX4_append 8 = .ok (.getfield 24, 3) := by decide +kernel
theorem dX4_append_11 : decode cX4_append 11 = .ok (.bipush 8, 2) := by decide +kernel
theorem dX4_append_13 : decode cX4_append 13 = .ok (.if_icmp .lt 6, 3) := by decide +kernel
theorem dX4_append_16 : decode cX4_append 16 = .ok (.bipush (-3), 2) := by decide +kernel
theorem dX4_append_18 : decode cX4_append 18 = .ok (.ireturn, 1) := by decide +kernel
theorem dX4_append_19 : decode cX4_append 19 = .ok (.aload_n 0, 1) := by decide +kernel
theorem dX4_append_20 : decode cX4_append 20 = .ok (.getfield 9, 3) := by decide +kernel
theorem dX4_append_23 : decode cX4_append 23 = .ok (.aload_n 0, 1) := by decide +kernel
theorem dX4_append_24 : decode cX4_append 24 = .ok (.getfield 24, 3) := by decide +kernel
theorem dX4_append_27 : decode cX4_append 27 = .ok (.iload_n 1, 1) := by decide +kernel
theorem dX4_append_28 : decode cX4_append 28 = .ok (.iastore, 1) := by decide +kernel
theorem dX4_append_29 : decode cX4_append 29 = .ok (.aload_n 0, 1) := by decide +kernel
theorem dX4_append_30 : decode cX4_append 30 = .ok (.getfield 15, 3) := by decide +kernel
theorem dX4_append_33 : decode cX4_append 33 = .ok (.aload_n 0, 1) := by decide +kernel
theorem dX4_append_34 : decode cX4_append 34 = .ok (.getfield 24, 3) := by decide +kernel
theorem dX4_append_37 : decode cX4_append 37 = .ok (.iconst 0, 1) := by decide +kernel
theorem dX4_append_38 : decode cX4_append 38 = .ok (.iastore, 1) := by decide +kernel
theorem dX4_append_39 : decode cX4_append 39 = .ok (.aload_n 0, 1) := by decide +kernel
theorem dX4_append_40 : decode cX4_append 40 = .ok (.getfield 18, 3) := by decide +kernel
theorem dX4_append_43 : decode cX4_append 43 = .ok (.aload_n 0, 1) := by decide +kernel
theorem dX4_append_44 : decode cX4_append 44 = .ok (.getfield 24, 3) := by decide +kernel
theorem dX4_append_47 : decode cX4_append 47 = .ok (.iconst 0, 1) := by decide +kernel
theorem dX4_append_48 : decode cX4_append 48 = .ok (.iastore, 1) := by decide +kernel
theorem dX4_append_49 : decode cX4_append 49 = .ok (.aload_n 0, 1) := by decide +kernel
theorem dX4_append_50 : decode cX4_append 50 = .ok (.getfield 21, 3) := by decide +kernel
theorem dX4_append_53 : decode cX4_append 53 = .ok (.aload_n 0, 1) := by decide +kernel
theorem dX4_append_54 : decode cX4_append 54 = .ok (.getfield 24, 3) := by decide +kernel
theorem dX4_append_57 : decode cX4_append 57 = .ok (.iconst 0, 1) := by decide +kernel
theorem dX4_append_58 : decode cX4_append 58 = .ok (.iastore, 1) := by decide +kernel
theorem dX4_append_59 : decode cX4_append 59 = .ok (.aload_n 0, 1) := by decide +kernel
theorem dX4_append_60 : decode cX4_append 60 = .ok (.dup, 1) := by decide +kernel
theorem dX4_append_61 : decode cX4_append 61 = .ok (.getfield 24, 3) := by decide +kernel
theorem dX4_append_64 : decode cX4_append 64 = .ok (.iconst 1, 1) := by decide +kernel
theorem dX4_append_65 : decode cX4_append 65 = .ok (.iadd, 1) := by decide +kernel
theorem dX4_append_66 : decode cX4_append 66 = .ok (.putfield 24, 3) := by decide +kernel
theorem dX4_append_69 : decode cX4_append 69 = .ok (.aload_n 0, 1) := by decide +kernel
theorem dX4_append_70 : decode cX4_append 70 = .ok (.getfield 24, 3) := by decide +kernel
theorem dX4_append_73 : decode cX4_append 73 = .ok (.iconst 1, 1) := by decide +kernel
theorem dX4_append_74 : decode cX4_append 74 = .ok (.isub, 1) := by decide +kernel
theorem dX4_append_75 : decode cX4_append 75 = .ok (.ireturn, 1) := by decide +kernel
theorem dX4_intoPurse_0 : decode cX4_intoPurse 0 = .ok (.aload_n 0, 1) := by decide +kernel
theorem dX4_intoPurse_1 : decode cX4_intoPurse 1 = .ok (.iload_n 1, 1) := by decide +kernel
theorem dX4_intoPurse_2 : decode cX4_intoPurse 2 = .ok (.invokevirtual 28, 3) := by decide +kernel
theorem dX4_intoPurse_5 : decode cX4_intoPurse 5 = .ok (.ifCond .eq 13, 3) := by decide +kernel
theorem dX4_intoPurse_8 : decode cX4_intoPurse 8 = .ok (.aload_n 0, 1) := by decide +kernel
theorem dX4_intoPurse_9 : decode cX4_intoPurse 9 = .ok (.getfield 18, 3) := by decide +kernel
theorem dX4_intoPurse_12 : decode cX4_intoPurse 12 = .ok (.iload_n 1, 1) := by decide +kernel
theorem dX4_intoPurse_13 : decode cX4_intoPurse 13 = .ok (.dup2, 1) := by decide +kernel
theorem dX4_intoPurse_14 : decode cX4_intoPurse 14 = .ok (.iaload, 1) := by decide +kernel
theorem dX4_intoPurse_15 : decode cX4_intoPurse 15 = .ok (.iload_n 2, 1) := by decide +kernel
theorem dX4_intoPurse_16 : decode cX4_intoPurse 16 = .ok (.iadd, 1) := by decide +kernel
theorem dX4_intoPurse_17 : decode cX4_intoPurse 17 = .ok (.iastore, 1) := by decide +kernel
theorem dX4_intoPurse_18 : decode cX4_intoPurse 18 = .ok (.return_, 1) := by decide +kernel
theorem dX4_bear_0 : decode cX4_bear 0 = .ok (.aload_n 0, 1) := by decide +kernel
theorem dX4_bear_1 : decode cX4_bear 1 = .ok (.iload_n 1, 1) := by decide +kernel
theorem dX4_bear_2 : decode cX4_bear 2 = .ok (.invokevirtual 28, 3) := by decide +kernel
theorem dX4_bear_5 : decode cX4_bear 5 = .ok (.ifCond .ne 4, 3) := by decide +kernel
theorem dX4_bear_8 : decode cX4_bear 8 = .ok (.return_, 1) := by decide +kernel
theorem dX4_bear_9 : decode cX4_bear 9 = .ok (.aload_n 0, 1) := by decide +kernel
theorem dX4_bear_10 : decode cX4_bear 10 = .ok (.getfield 18, 3) := by decide +kernel
theorem dX4_bear_13 : decode cX4_bear 13 = .ok (.iload_n 1, 1) := by decide +kernel
theorem dX4_bear_14 : decode cX4_bear 14 = .ok (.dup2, 1) := by decide +kernel
theorem dX4_bear_15 : decode cX4_bear 15 = .ok (.iaload, 1) := by decide +kernel
theorem dX4_bear_16 : decode cX4_bear 16 = .ok (.iload_n 2, 1) := by decide +kernel
theorem dX4_bear_17 : decode cX4_bear 17 = .ok (.isub, 1) := by decide +kernel
theorem dX4_bear_18 : decode cX4_bear 18 = .ok (.iastore, 1) := by decide +kernel
theorem dX4_bear_19 : decode cX4_bear 19 = .ok (.aload_n 0, 1) := by decide +kernel
theorem dX4_bear_20 : decode cX4_bear 20 = .ok (.getfield 21, 3) := by decide +kernel
theorem dX4_bear_23 : decode cX4_bear 23 = .ok (.iload_n 1, 1) := by decide +kernel
theorem dX4_bear_24 : decode cX4_bear 24 = .ok (.dup2, 1) := by decide +kernel
theorem dX4_bear_25 : decode cX4_bear 25 = .ok (.iaload, 1) := by decide +kernel
theorem dX4_bear_26 : decode cX4_bear 26 = .ok (.iload_n 2, 1) := by decide +kernel
theorem dX4_bear_27 : decode cX4_bear 27 = .ok (.iadd, 1) := by decide +kernel
theorem dX4_bear_28 : decode cX4_bear 28 = .ok (.iastore, 1) := by decide +kernel
theorem dX4_bear_29 : decode cX4_bear 29 = .ok (.return_, 1) := by decide +kernel
theorem dX4_allDues_0 : decode cX4_allDues 0 = .ok (.iconst 0, 1) := by decide +kernel
theorem dX4_allDues_1 : decode cX4_allDues 1 = .ok (.istore_n 1, 1) := by decide +kernel
theorem dX4_allDues_2 : decode cX4_allDues 2 = .ok (.iconst 0, 1) := by decide +kernel
theorem dX4_allDues_3 : decode cX4_allDues 3 = .ok (.istore_n 2, 1) := by decide +kernel
theorem dX4_allDues_4 : decode cX4_allDues 4 = .ok (.iload_n 2, 1) := by decide +kernel
theorem dX4_allDues_5 : decode cX4_allDues 5 = .ok (.bipush 8, 2) := by decide +kernel
theorem dX4_allDues_7 : decode cX4_allDues 7 = .ok (.if_icmp .ge 26, 3) := by decide +kernel
theorem dX4_allDues_10 : decode cX4_allDues 10 = .ok (.aload_n 0, 1) := by decide +kernel
theorem dX4_allDues_11 : decode cX4_allDues 11 = .ok (.iload_n 2, 1) := by decide +kernel
theorem dX4_allDues_12 : decode cX4_allDues 12 = .ok (.invokevirtual 28, 3) := by decide +kernel
theorem dX4_allDues_15 : decode cX4_allDues 15 = .ok (.ifCond .eq 12, 3) := by decide +kernel
theorem dX4_allDues_18 : decode cX4_allDues 18 = .ok (.iload_n 1, 1) := by decide +kernel
theorem dX4_allDues_19 : decode cX4_allDues 19 = .ok (.aload_n 0, 1) := by decide +kernel
theorem dX4_allDues_20 : decode cX4_allDues 20 = .ok (.getfield 15, 3) := by decide +kernel
theorem dX4_allDues_23 : decode cX4_allDues 23 = .ok (.iload_n 2, 1) := by decide +kernel
theorem dX4_allDues_24 : decode cX4_allDues 24 = .ok (.iaload, 1) := by decide +kernel
theorem dX4_allDues_25 : decode cX4_allDues 25 = .ok (.iadd, 1) := by decide +kernel
theorem dX4_allDues_26 : decode cX4_allDues 26 = .ok (.istore_n 1, 1) := by decide +kernel
theorem dX4_allDues_27 : decode cX4_allDues 27 = .ok (.iinc 2 1, 3) := by decide +kernel
theorem dX4_allDues_30 : decode cX4_allDues 30 = .ok (.goto (-26), 3) := by decide +kernel
theorem dX4_allDues_33 : decode cX4_allDues 33 = .ok (.iload_n 1, 1) := by decide +kernel
theorem dX4_allDues_34 : decode cX4_allDues 34 = .ok (.ireturn, 1) := by decide +kernel
theorem dX4_allWeights_0 : decode cX4_allWeights 0 = .ok (.iconst 0, 1) := by decide +kernel
theorem dX4_allWeights_1 : decode cX4_allWeights 1 = .ok (.istore_n 1, 1) := by decide +kernel
theorem dX4_allWeights_2 : decode cX4_allWeights 2 = .ok (.iconst 0, 1) := by decide +kernel
theorem dX4_allWeights_3 : decode cX4_allWeights 3 = .ok (.istore_n 2, 1) := by decide +kernel
theorem dX4_allWeights_4 : decode cX4_allWeights 4 = .ok (.iload_n 2, 1) := by decide +kernel
theorem dX4_allWeights_5 : decode cX4_allWeights 5 = .ok (.bipush 8, 2) := by decide +kernel
theorem dX4_allWeights_7 : decode cX4_allWeights 7 = .ok (.if_icmp .ge 26, 3) := by decide +kernel
theorem dX4_allWeights_10 : decode cX4_allWeights 10 = .ok (.aload_n 0, 1) := by decide +kernel
theorem dX4_allWeights_11 : decode cX4_allWeights 11 = .ok (.iload_n 2, 1) := by decide +kernel
theorem dX4_allWeights_12 : decode cX4_allWeights 12 = .ok (.invokevirtual 28, 3) := by decide +kernel
theorem dX4_allWeights_15 : decode cX4_allWeights 15 = .ok (.ifCond .eq 12, 3) := by decide +kernel
theorem dX4_allWeights_18 : decode cX4_allWeights 18 = .ok (.iload_n 1, 1) := by decide +kernel
theorem dX4_allWeights_19 : decode cX4_allWeights 19 = .ok (.aload_n 0, 1) := by decide +kernel
theorem dX4_allWeights_20 : decode cX4_allWeights 20 = .ok (.getfield 9, 3) := by decide +kernel
theorem dX4_allWeights_23 : decode cX4_allWeights 23 = .ok (.iload_n 2, 1) := by decide +kernel
theorem dX4_allWeights_24 : decode cX4_allWeights 24 = .ok (.iaload, 1) := by decide +kernel
theorem dX4_allWeights_25 : decode cX4_allWeights 25 = .ok (.iadd, 1) := by decide +kernel
theorem dX4_allWeights_26 : decode cX4_allWeights 26 = .ok (.istore_n 1, 1) := by decide +kernel
theorem dX4_allWeights_27 : decode cX4_allWeights 27 = .ok (.iinc 2 1, 3) := by decide +kernel
theorem dX4_allWeights_30 : decode cX4_allWeights 30 = .ok (.goto (-26), 3) := by decide +kernel
theorem dX4_allWeights_33 : decode cX4_allWeights 33 = .ok (.iload_n 1, 1) := by decide +kernel
theorem dX4_allWeights_34 : decode cX4_allWeights 34 = .ok (.ireturn, 1) := by decide +kernel
theorem dX4_copyFrom_0 : decode cX4_copyFrom 0 = .ok (.aload_n 1, 1) := by decide +kernel
theorem dX4_copyFrom_1 : decode cX4_copyFrom 1 = .ok (.getfield 9, 3) := by decide +kernel
theorem dX4_copyFrom_4 : decode cX4_copyFrom 4 = .ok (.aload_n 0, 1) := by decide +kernel
theorem dX4_copyFrom_5 : decode cX4_copyFrom 5 = .ok (.getfield 9, 3) := by decide +kernel
theorem dX4_copyFrom_8 : decode cX4_copyFrom 8 = .ok (.invokestatic 32, 3) := by decide +kernel
theorem dX4_copyFrom_11 : decode cX4_copyFrom 11 = .ok (.aload_n 1, 1) := by decide +kernel
theorem dX4_copyFrom_12 : decode cX4_copyFrom 12 = .ok (.getfield 15, 3) := by decide +kernel
theorem dX4_copyFrom_15 : decode cX4_copyFrom 15 = .ok (.aload_n 0, 1) := by decide +kernel
theorem dX4_copyFrom_16 : decode cX4_copyFrom 16 = .ok (.getfield 15, 3) := by decide +kernel
theorem dX4_copyFrom_19 : decode cX4_copyFrom 19 = .ok (.invokestatic 32, 3) := by decide +kernel
theorem dX4_copyFrom_22 : decode cX4_copyFrom 22 = .ok (.aload_n 1, 1) := by decide +kernel
theorem dX4_copyFrom_23 : decode cX4_copyFrom 23 = .ok (.getfield 18, 3) := by decide +kernel
theorem dX4_copyFrom_26 : decode cX4_copyFrom 26 = .ok (.aload_n 0, 1) := by decide +kernel
theorem dX4_copyFrom_27 : decode cX4_copyFrom 27 = .ok (.getfield 18, 3) := by decide +kernel
theorem dX4_copyFrom_30 : decode cX4_copyFrom 30 = .ok (.invokestatic 32, 3) := by decide +kernel
theorem dX4_copyFrom_33 : decode cX4_copyFrom 33 = .ok (.aload_n 1, 1) := by decide +kernel
theorem dX4_copyFrom_34 : decode cX4_copyFrom 34 = .ok (.getfield 21, 3) := by decide +kernel
theorem dX4_copyFrom_37 : decode cX4_copyFrom 37 = .ok (.aload_n 0, 1) := by decide +kernel
theorem dX4_copyFrom_38 : decode cX4_copyFrom 38 = .ok (.getfield 21, 3) := by decide +kernel
theorem dX4_copyFrom_41 : decode cX4_copyFrom 41 = .ok (.invokestatic 32, 3) := by decide +kernel
theorem dX4_copyFrom_44 : decode cX4_copyFrom 44 = .ok (.aload_n 0, 1) := by decide +kernel
theorem dX4_copyFrom_45 : decode cX4_copyFrom 45 = .ok (.aload_n 1, 1) := by decide +kernel
theorem dX4_copyFrom_46 : decode cX4_copyFrom 46 = .ok (.getfield 24, 3) := by decide +kernel
theorem dX4_copyFrom_49 : decode cX4_copyFrom 49 = .ok (.putfield 24, 3) := by decide +kernel
theorem dX4_copyFrom_52 : decode cX4_copyFrom 52 = .ok (.return_, 1) := by decide +kernel
theorem dX5_init_0 : decode cX5_init 0 = .ok (.aload_n 0, 1) := by decide +kernel
theorem dX5_init_1 : decode cX5_init 1 = .ok (.invokespecial 3, 3) := by decide +kernel
theorem dX5_init_4 : decode cX5_init 4 = .ok (.aload_n 0, 1) := by decide +kernel
theorem dX5_init_5 : decode cX5_init 5 = .ok (.bipush 20, 2) := by decide +kernel
theorem dX5_init_7 : decode cX5_init 7 = .ok (.newarray .int, 2) := by decide +kernel
theorem dX5_init_9 : decode cX5_init 9 = .ok (.putfield 9, 3) := by decide +kernel
theorem dX5_init_12 : decode cX5_init 12 = .ok (.aload_n 0, 1) := by decide +kernel
theorem dX5_init_13 : decode cX5_init 13 = .ok (.bipush 20, 2) := by decide +kernel
theorem dX5_init_15 : decode cX5_init 15 = .ok (.newarray .float, 2) := by decide +kernel
theorem dX5_init_17 : decode cX5_init 17 = .ok (.putfield 15, 3) := by decide +kernel
theorem dX5_init_20 : decode cX5_init 20 = .ok (.return_, 1) := by decide +kernel
theorem dX5_insert_0 : decode cX5_insert 0 = .ok (.aload_n 0, 1) := by decide +kernel
theorem dX5_insert_1 : decode cX5_insert 1 = .ok (.getfield 19, 3) := by decide +kernel
theorem dX5_insert_4 : decode cX5_insert 4 = .ok (.ifCond .lt 12, 3) := by decide +kernel
theorem dX5_insert_7 : decode cX5_insert 7 = .ok (.aload_n 0, 1) := by decide +kernel
theorem dX5_insert_8 : decode cX5_insert 8 = .ok (.getfield 19, 3) := by decide +kernel
theorem dX5_insert_11 : decode cX5_insert 11 = .ok (.bipush 20, 2) := by decide +kernel
theorem dX5_insert_13 : decode cX5_insert 13 = .ok (.if_icmp .lt 4, 3) := by decide +kernel
theorem dX5_insert_16 : decode cX5_insert 16 = .ok (.return_, 1) := by decide +kernel
theorem dX5_insert_17 : decode cX5_insert 17 = .ok (.aload_n 0, 1) := by decide +kernel
theorem dX5_insert_18 : decode cX5_insert 18 = .ok (.getfield 19, 3) := by decide +kernel
theorem dX5_insert_21 : decode cX5_insert 21 = .ok (.istore_n 3, 1) := by decide +kernel
theorem dX5_insert_22 : decode cX5_insert 22 = .ok (.iload_n 3, 1) := by decide +kernel
theorem dX5_insert_23 : decode cX5_insert 23 = .ok (.ifCond .le 50, 3) := by decide +kernel
theorem dX5_insert_26 : decode cX5_insert 26 = .ok (.aload_n 0, 1) := by decide +kernel
theorem dX5_insert_27 : decode cX5_insert 27 = .ok (.getfield 15, 3) := by decide +kernel
theorem dX5_insert_30 : decode cX5_insert 30 = .ok (.iload_n 3, 1) := by decide +kernel
theorem dX5_insert_31 : decode cX5_insert 31 = .ok (.iconst 1, 1) := by decide +kernel
theorem dX5_insert_32 : decode cX5_insert 32 = .ok (.isub, 1) := by decide +kernel
theorem dX5_insert_33 : decode cX5_insert 33 = .ok (.faload, 1) := by decide +kernel
theorem dX5_insert_34 : decode cX5_insert 34 = .ok (.fload_n 2, 1) := by decide +kernel
theorem dX5_insert_35 : decode cX5_insert 35 = .ok (.fcmp .g, 1) := by decide +kernel
theorem dX5_insert_36 : decode cX5_insert 36 = .ok (.ifCond .ge 37, 3) := by decide +kernel
theorem dX5_insert_39 : decode cX5_insert 39 = .ok (.aload_n 0, 1) := by decide +kernel
theorem dX5_insert_40 : decode cX5_insert 40 = .ok (.getfield 9, 3) := by decide +kernel
theorem dX5_insert_43 : decode cX5_insert 43 = .ok (.iload_n 3, 1) := by decide +kernel
theorem dX5_insert_44 : decode cX5_insert 44 = .ok (.aload_n 0, 1) := by decide +kernel
theorem dX5_insert_45 : decode cX5_insert 45 = .ok (.getfield 9, 3) := by decide +kernel
theorem dX5_insert_48 : decode cX5_insert 48 = .ok (.iload_n 3, 1) := by decide +kernel
theorem dX5_insert_49 : decode cX5_insert 49 = .ok (.iconst 1, 1) := by decide +kernel
theorem dX5_insert_50 : decode cX5_insert 50 = .ok (.isub, 1) := by decide +kernel
theorem dX5_insert_51 : decode cX5_insert 51 = .ok (.iaload, 1) := by decide +kernel
theorem dX5_insert_52 : decode cX5_insert 52 = .ok (.iastore, 1) := by decide +kernel
theorem dX5_insert_53 : decode cX5_insert 53 = .ok (.aload_n 0, 1) := by decide +kernel
theorem dX5_insert_54 : decode cX5_insert 54 = .ok (.getfield 15, 3) := by decide +kernel
theorem dX5_insert_57 : decode cX5_insert 57 = .ok (.iload_n 3, 1) := by decide +kernel
theorem dX5_insert_58 : decode cX5_insert 58 = .ok (.aload_n 0, 1) := by decide +kernel
theorem dX5_insert_59 : decode cX5_insert 59 = .ok (.getfield 15, 3) := by decide +kernel
theorem dX5_insert_62 : decode cX5_insert 62 = .ok (.iload_n 3, 1) := by decide +kernel
theorem dX5_insert_63 : decode cX5_insert 63 = .ok (.iconst 1, 1) := by decide +kernel
theorem dX5_insert_64 : decode cX5_insert 64 = .ok (.isub, 1) := by decide +kernel
theorem dX5_insert_65 : decode cX5_insert 65 = .ok (.faload, 1) := by decide +kernel
theorem dX5_insert_66 : decode cX5_insert 66 = .ok (.fastore, 1) := by decide +kernel
theorem dX5_insert_67 : decode cX5_insert 67 = .ok (.iinc 3 (-1), 3) := by decide +kernel
theorem dX5_insert_70 : decode cX5_insert 70 = .ok (.goto (-48), 3) := by decide +kernel
theorem dX5_insert_73 : decode cX5_insert 73 = .ok (.aload_n 0, 1) := by decide +kernel
theorem dX5_insert_74 : decode cX5_insert 74 = .ok (.getfield 9, 3) := by decide +kernel
theorem dX5_insert_77 : decode cX5_insert 77 = .ok (.iload_n 3, 1) := by decide +kernel
theorem dX5_insert_78 : decode cX5_insert 78 = .ok (.iload_n 1, 1) := by decide +kernel
theorem dX5_insert_79 : decode cX5_insert 79 = .ok (.iastore, 1) := by decide +kernel
theorem dX5_insert_80 : decode cX5_insert 80 = .ok (.aload_n 0, 1) := by decide +kernel
theorem dX5_insert_81 : decode cX5_insert 81 = .ok (.getfield 15, 3) := by decide +kernel
theorem dX5_insert_84 : decode cX5_insert 84 = .ok (.iload_n 3, 1) := by decide +kernel
theorem dX5_insert_85 : decode cX5_insert 85 = .ok (.fload_n 2, 1) := by decide +kernel
theorem dX5_insert_86 : decode cX5_insert 86 = .ok (.fastore, 1) := by decide +kernel
theorem dX5_insert_87 : decode cX5_insert 87 = .ok (.aload_n 0, 1) := by decide +kernel
theorem dX5_insert_88 : decode cX5_insert 88 = .ok (.dup, 1) := by decide +kernel
theorem dX5_insert_89 : decode cX5_insert 89 = .ok (.getfield 19, 3) := by decide +kernel
theorem dX5_insert_92 : decode cX5_insert 92 = .ok (.iconst 1, 1) := by decide +kernel
theorem dX5_insert_93 : decode cX5_insert 93 = .ok (.iadd, 1) := by decide +kernel
theorem dX5_insert_94 : decode cX5_insert 94 = .ok (.putfield 19, 3) := by decide +kernel
theorem dX5_insert_97 : decode cX5_insert 97 = .ok (.return_, 1) := by decide +kernel
theorem dX5_invoiceAt_0 : decode cX5_invoiceAt 0 = .ok (.iload_n 1, 1) := by decide +kernel
theorem dX5_invoiceAt_1 : decode cX5_invoiceAt 1 = .ok (.ifCond .lt 9, 3) := by decide +kernel
theorem dX5_invoiceAt_4 : decode cX5_invoiceAt 4 = .ok (.iload_n 1, 1) := by decide +kernel
theorem dX5_invoiceAt_5 : decode cX5_invoiceAt 5 = .ok (.bipush 20, 2) := by decide +kernel
theorem dX5_invoiceAt_7 : decode cX5_invoiceAt 7 = .ok (.if_icmp .lt 8, 3) := by decide +kernel
theorem dX5_invoiceAt_10 : decode cX5_invoiceAt 10 = .ok (.bipush (-5), 2) := by decide +kernel
theorem dX5_invoiceAt_12 : decode cX5_invoiceAt 12 = .ok (.goto 9, 3) := by decide +kernel
theorem dX5_invoiceAt_15 : decode cX5_invoiceAt 15 = .ok (.aload_n 0, 1) := by decide +kernel
theorem dX5_invoiceAt_16 : decode cX5_invoiceAt 16 = .ok (.getfield 9, 3) := by decide +kernel
theorem dX5_invoiceAt_19 : decode cX5_invoiceAt 19 = .ok (.iload_n 1, 1) := by decide +kernel
theorem dX5_invoiceAt_20 : decode cX5_invoiceAt 20 = .ok (.iaload, 1) := by decide +kernel
theorem dX5_invoiceAt_21 : decode cX5_invoiceAt 21 = .ok (.ireturn, 1) := by decide +kernel
theorem dX6_init_0 : decode cX6_init 0 = .ok (.aload_n 0, 1) := by decide +kernel
theorem dX6_init_1 : decode cX6_init 1 = .ok (.invokespecial 3, 3) := by decide +kernel
theorem dX6_init_4 : decode cX6_init 4 = .ok (.aload_n 0, 1) := by decide +kernel
theorem dX6_init_5 : decode cX6_init 5 = .ok (.bipush 60, 2) := by decide +kernel
theorem dX6_init_7 : decode cX6_init 7 = .ok (.newarray .char, 2) := by decide +kernel
theorem dX6_init_9 : decode cX6_init 9 = .ok (.putfield 9, 3) := by decide +kernel
theorem dX6_init_12 : decode cX6_init 12 = .ok (.aload_n 0, 1) := by decide +kernel
theorem dX6_init_13 : decode cX6_init 13 = .ok (.bipush 60, 2) := by decide +kernel
theorem dX6_init_15 : decode cX6_init 15 = .ok (.newarray .int, 2) := by decide +kernel
theorem dX6_init_17 : decode cX6_init 17 = .ok (.putfield 15, 3) := by decide +kernel
theorem dX6_init_20 : decode cX6_init 20 = .ok (.aload_n 0, 1) := by decide +kernel
theorem dX6_init_21 : decode cX6_init 21 = .ok (.bipush 60, 2) := by decide +kernel
theorem dX6_init_23 : decode cX6_init 23 = .ok (.newarray .int, 2) := by decide +kernel
theorem dX6_init_25 : decode cX6_init 25 = .ok (.putfield 19, 3) := by decide +kernel
theorem dX6_init_28 : decode cX6_init 28 = .ok (.return_, 1) := by decide +kernel
theorem dX6_append_0 : decode cX6_append 0 = .ok (.aload_n 0, 1) := by decide +kernel
theorem dX6_append_1 : decode cX6_append 1 = .ok (.getfield 22, 3) := by decide +kernel
theorem dX6_append_4 : decode cX6_append 4 = .ok (.ifCond .lt 12, 3) := by decide +kernel
theorem dX6_append_7 : decode cX6_append 7 = .ok (.aload_n 0, 1) := by decide +kernel
theorem dX6_append_8 : decode cX6_append 8 = .ok (.getfield 22, 3) := by decide +kernel
theorem dX6_append_11 : decode cX6_append 11 = .ok (.bipush 60, 2) := by decide +kernel
theorem dX6_append_13 : decode cX6_append 13 = .ok (.if_icmp .lt 6, 3) := by decide +kernel
theorem dX6_append_16 : decode cX6_append 16 = .ok (.bipush (-3), 2) := by decide +kernel
theorem dX6_append_18 : decode cX6_append 18 = .ok (.ireturn, 1) := by decide +kernel
theorem dX6_append_19 : decode cX6_append 19 = .ok (.aload_n 0, 1) := by decide +kernel
theorem dX6_append_20 : decode cX6_append 20 = .ok (.getfield 9, 3) := by decide +kernel
theorem dX6_append_23 : decode cX6_append 23 = .ok (.aload_n 0, 1) := by decide +kernel
theorem dX6_append_24 : decode cX6_append 24 = .ok (.getfield 22, 3) := by decide +kernel
theorem dX6_append_27 : decode cX6_append 27 = .ok (.iload_n 1, 1) := by decide +kernel
theorem dX6_append_28 : decode cX6_append 28 = .ok (.castore, 1) := by decide +kernel
theorem dX6_append_29 : decode cX6_append 29 = .ok (.aload_n 0, 1) := by decide +kernel
theorem dX6_append_30 : decode cX6_append 30 = .ok (.dup, 1) := by decide +kernel
theorem dX6_append_31 : decode cX6_append 31 = .ok (.getfield 22, 3) := by decide +kernel
theorem dX6_append_34 : decode cX6_append 34 = .ok (.iconst 1, 1) := by decide +kernel
theorem dX6_append_35 : decode cX6_append 35 = .ok (.iadd, 1) := by decide +kernel
theorem dX6_append_36 : decode cX6_append 36 = .ok (.putfield 22, 3) := by decide +kernel
theorem dX6_append_39 : decode cX6_append 39 = .ok (.aload_n 0, 1) := by decide +kernel
theorem dX6_append_40 : decode cX6_append 40 = .ok (.getfield 22, 3) := by decide +kernel
theorem dX6_append_43 : decode cX6_append 43 = .ok (.ireturn, 1) := by decide +kernel
theorem dX6_invoiceOf_0 : decode cX6_invoiceOf 0 = .ok (.iload_n 1, 1) := by decide +kernel
theorem dX6_invoiceOf_1 : decode cX6_invoiceOf 1 = .ok (.ifCond .lt 9, 3) := by decide +kernel
theorem dX6_invoiceOf_4 : decode cX6_invoiceOf 4 = .ok (.iload_n 1, 1) := by decide +kernel
theorem dX6_invoiceOf_5 : decode cX6_invoiceOf 5 = .ok (.bipush 60, 2) := by decide +kernel
theorem dX6_invoiceOf_7 : decode cX6_invoiceOf 7 = .ok (.if_icmp .lt 7, 3) := by decide +kernel
theorem dX6_invoiceOf_10 : decode cX6_invoiceOf 10 = .ok (.iconst (-1), 1) := by decide +kernel
theorem dX6_invoiceOf_11 : decode cX6_invoiceOf 11 = .ok (.goto 9, 3) := by decide +kernel
theorem dX6_invoiceOf_14 : decode cX6_invoiceOf 14 = .ok (.aload_n 0, 1) := by decide +kernel
theorem dX6_invoiceOf_15 : decode cX6_invoiceOf 15 = .ok (.getfield 15, 3) := by decide +kernel
theorem dX6_invoiceOf_18 : decode cX6_invoiceOf 18 = .ok (.iload_n 1, 1) := by decide +kernel
theorem dX6_invoiceOf_19 : decode cX6_invoiceOf 19 = .ok (.iaload, 1) := by decide +kernel
theorem dX6_invoiceOf_20 : decode cX6_invoiceOf 20 = .ok (.ireturn, 1) := by decide +kernel
theorem dX6_centsOf_0 : decode cX6_centsOf 0 = .ok (.iload_n 1, 1) := by decide +kernel
theorem dX6_centsOf_1 : decode cX6_centsOf 1 = .ok (.ifCond .lt 9, 3) := by decide +kernel
theorem dX6_centsOf_4 : decode cX6_centsOf 4 = .ok (.iload_n 1, 1) := by decide +kernel
theorem dX6_centsOf_5 : decode cX6_centsOf 5 = .ok (.bipush 60, 2) := by decide +kernel
theorem dX6_centsOf_7 : decode cX6_centsOf 7 = .ok (.if_icmp .lt 7, 3) := by decide +kernel
theorem dX6_centsOf_10 : decode cX6_centsOf 10 = .ok (.iconst 0, 1) := by decide +kernel
theorem dX6_centsOf_11 : decode cX6_centsOf 11 = .ok (.goto 9, 3) := by decide +kernel
theorem dX6_centsOf_14 : decode cX6_centsOf 14 = .ok (.aload_n 0, 1) := by decide +kernel
theorem dX6_centsOf_15 : decode cX6_centsOf 15 = .ok (.getfield 19, 3) := by decide +kernel
theorem dX6_centsOf_18 : decode cX6_centsOf 18 = .ok (.iload_n 1, 1) := by decide +kernel
theorem dX6_centsOf_19 : decode cX6_centsOf 19 = .ok (.iaload, 1) := by decide +kernel
theorem dX6_centsOf_20 : decode cX6_centsOf 20 = .ok (.ireturn, 1) := by decide +kernel
theorem dX6_read_0 : decode cX6_read 0 = .ok (.aload_n 0, 1) := by decide +kernel
theorem dX6_read_1 : decode cX6_read 1 = .ok (.iconst 0, 1) := by decide +kernel
theorem dX6_read_2 : decode cX6_read 2 = .ok (.putfield 26, 3) := by decide +kernel
theorem dX6_read_5 : decode cX6_read 5 = .ok (.iconst 0, 1) := by decide +kernel
theorem dX6_read_6 : decode cX6_read 6 = .ok (.istore_n 1, 1) := by decide +kernel
theorem dX6_read_7 : decode cX6_read 7 = .ok (.iconst 0, 1) := by decide +kernel
theorem dX6_read_8 : decode cX6_read 8 = .ok (.istore_n 2, 1) := by decide +kernel
theorem dX6_read_9 : decode cX6_read 9 = .ok (.iload_n 2, 1) := by decide +kernel
theorem dX6_read_10 : decode cX6_read 10 = .ok (.aload_n 0, 1) := by decide +kernel
theorem dX6_read_11 : decode cX6_read 11 = .ok (.getfield 22, 3) := by decide +kernel
theorem dX6_read_14 : decode cX6_read 14 = .ok (.if_icmp .ge 33, 3) := by decide +kernel
theorem dX6_read_17 : decode cX6_read 17 = .ok (.iload_n 2, 1) := by decide +kernel
theorem dX6_read_18 : decode cX6_read 18 = .ok (.bipush 60, 2) := by decide +kernel
theorem dX6_read_20 : decode cX6_read 20 = .ok (.if_icmp .ge 27, 3) := by decide +kernel
theorem dX6_read_23 : decode cX6_read 23 = .ok (.iload_n 1, 1) := by decide +kernel
theorem dX6_read_24 : decode cX6_read 24 = .ok (.aload_n 0, 1) := by decide +kernel
theorem dX6_read_25 : decode cX6_read 25 = .ok (.getfield 9, 3) := by decide +kernel
theorem dX6_read_28 : decode cX6_read 28 = .ok (.iload_n 2, 1) := by decide +kernel
theorem dX6_read_29 : decode cX6_read 29 = .ok (.caload, 1) := by decide +kernel
theorem dX6_read_30 : decode cX6_read 30 = .ok (.invokestatic 29, 3) := by decide +kernel
theorem dX6_read_33 : decode cX6_read 33 = .ok (.istore_n 1, 1) := by decide +kernel
theorem dX6_read_34 : decode cX6_read 34 = .ok (.iload_n 1, 1) := by decide +kernel
theorem dX6_read_35 : decode cX6_read 35 = .ok (.iconst (-1), 1) := by decide +kernel
theorem dX6_read_36 : decode cX6_read 36 = .ok (.if_icmp .ne 5, 3) := by decide +kernel
theorem dX6_read_39 : decode cX6_read 39 = .ok (.iload_n 2, 1) := by decide +kernel
theorem dX6_read_40 : decode cX6_read 40 = .ok (.ireturn, 1) := by decide +kernel
theorem dX6_read_41 : decode cX6_read 41 = .ok (.iinc 2 1, 3) := by decide +kernel
theorem dX6_read_44 : decode cX6_read 44 = .ok (.goto (-35), 3) := by decide +kernel
theorem dX6_read_47 : decode cX6_read 47 = .ok (.iload_n 1, 1) := by decide +kernel
theorem dX6_read_48 : decode cX6_read 48 = .ok (.iconst 3, 1) := by decide +kernel
theorem dX6_read_49 : decode cX6_read 49 = .ok (.if_icmp .gt 8, 3) := by decide +kernel
theorem dX6_read_52 : decode cX6_read 52 = .ok (.aload_n 0, 1) := by decide +kernel
theorem dX6_read_53 : decode cX6_read 53 = .ok (.getfield 22, 3) := by decide +kernel
theorem dX6_read_56 : decode cX6_read 56 = .ok (.ireturn, 1) := by decide +kernel
theorem dX6_read_57 : decode cX6_read 57 = .ok (.aload_n 0, 1) := by decide +kernel
theorem dX6_read_58 : decode cX6_read 58 = .ok (.invokevirtual 33, 3) := by decide +kernel
theorem dX6_read_61 : decode cX6_read 61 = .ok (.iconst (-1), 1) := by decide +kernel
theorem dX6_read_62 : decode cX6_read 62 = .ok (.ireturn, 1) := by decide +kernel
theorem dX6_placeBehind_0 : decode cX6_placeBehind 0 = .ok (.iload_n 1, 1) := by decide +kernel
theorem dX6_placeBehind_1 : decode cX6_placeBehind 1 = .ok (.bipush 48, 2) := by decide +kernel
theorem dX6_placeBehind_3 : decode cX6_placeBehind 3 = .ok (.if_icmp .lt 13, 3) := by decide +kernel
theorem dX6_placeBehind_6 : decode cX6_placeBehind 6 = .ok (.iload_n 1, 1) := by decide +kernel
theorem dX6_placeBehind_7 : decode cX6_placeBehind 7 = .ok (.bipush 57, 2) := by decide +kernel
theorem dX6_placeBehind_9 : decode cX6_placeBehind 9 = .ok (.if_icmp .gt 7, 3) := by decide +kernel
theorem dX6_placeBehind_12 : decode cX6_placeBehind 12 = .ok (.iconst 1, 1) := by decide +kernel
theorem dX6_placeBehind_13 : decode cX6_placeBehind 13 = .ok (.goto 4, 3) := by decide +kernel
theorem dX6_placeBehind_16 : decode cX6_placeBehind 16 = .ok (.iconst 0, 1) := by decide +kernel
theorem dX6_placeBehind_17 : decode cX6_placeBehind 17 = .ok (.istore_n 2, 1) := by decide +kernel
theorem dX6_placeBehind_18 : decode cX6_placeBehind 18 = .ok (.iload_n 0, 1) := by decide +kernel
theorem dX6_placeBehind_19 : decode cX6_placeBehind 19 = .ok (.tableswitch 93 0 3 #[29, 47, 65, 77], 29) := by decide +kernel
theorem dX6_placeBehind_48 : decode cX6_placeBehind 48 = .ok (.iload_n 1, 1) := by decide +kernel
theorem dX6_placeBehind_49 : decode cX6_placeBehind 49 = .ok (.bipush 48, 2) := by decide +kernel
theorem dX6_placeBehind_51 : decode cX6_placeBehind 51 = .ok (.if_icmp .ne 5, 3) := by decide +kernel
theorem dX6_placeBehind_54 : decode cX6_placeBehind 54 = .ok (.iconst 2, 1) := by decide +kernel
theorem dX6_placeBehind_55 : decode cX6_placeBehind 55 = .ok (.ireturn, 1) := by decide +kernel
theorem dX6_placeBehind_56 : decode cX6_placeBehind 56 = .ok (.iload_n 2, 1) := by decide +kernel
theorem dX6_placeBehind_57 : decode cX6_placeBehind 57 = .ok (.ifCond .eq 7, 3) := by decide +kernel
theorem dX6_placeBehind_60 : decode cX6_placeBehind 60 = .ok (.iconst 1, 1) := by decide +kernel
theorem dX6_placeBehind_61 : decode cX6_placeBehind 61 = .ok (.goto 4, 3) := by decide +kernel
theorem dX6_placeBehind_64 : decode cX6_placeBehind 64 = .ok (.iconst (-1), 1) := by decide +kernel
theorem dX6_placeBehind_65 : decode cX6_placeBehind 65 = .ok (.ireturn, 1) := by decide +kernel
theorem dX6_placeBehind_66 : decode cX6_placeBehind 66 = .ok (.iload_n 1, 1) := by decide +kernel
theorem dX6_placeBehind_67 : decode cX6_placeBehind 67 = .ok (.bipush 61, 2) := by decide +kernel
theorem dX6_placeBehind_69 : decode cX6_placeBehind 69 = .ok (.if_icmp .ne 5, 3) := by decide +kernel
theorem dX6_placeBehind_72 : decode cX6_placeBehind 72 = .ok (.iconst 3, 1) := by decide +kernel
theorem dX6_placeBehind_73 : decode cX6_placeBehind 73 = .ok (.ireturn, 1) := by decide +kernel
theorem dX6_placeBehind_74 : decode cX6_placeBehind 74 = .ok (.iload_n 2, 1) := by decide +kernel
theorem dX6_placeBehind_75 : decode cX6_placeBehind 75 = .ok (.ifCond .eq 7, 3) := by decide +kernel
theorem dX6_placeBehind_78 : decode cX6_placeBehind 78 = .ok (.iconst 2, 1) := by decide +kernel
theorem dX6_placeBehind_79 : decode cX6_placeBehind 79 = .ok (.goto 4, 3) := by decide +kernel
theorem dX6_placeBehind_82 : decode cX6_placeBehind 82 = .ok (.iconst (-1), 1) := by decide +kernel
theorem dX6_placeBehind_83 : decode cX6_placeBehind 83 = .ok (.ireturn, 1) := by decide +kernel
theorem dX6_placeBehind_84 : decode cX6_placeBehind 84 = .ok (.iload_n 1, 1) := by decide +kernel
theorem dX6_placeBehind_85 : decode cX6_placeBehind 85 = .ok (.bipush 61, 2) := by decide +kernel
theorem dX6_placeBehind_87 : decode cX6_placeBehind 87 = .ok (.if_icmp .ne 7, 3) := by decide +kernel
theorem dX6_placeBehind_90 : decode cX6_placeBehind 90 = .ok (.iconst 3, 1) := by decide +kernel
theorem dX6_placeBehind_91 : decode cX6_placeBehind 91 = .ok (.goto 4, 3) := by decide +kernel
theorem dX6_placeBehind_94 : decode cX6_placeBehind 94 = .ok (.iconst (-1), 1) := by decide +kernel
theorem dX6_placeBehind_95 : decode cX6_placeBehind 95 = .ok (.ireturn, 1) := by decide +kernel
theorem dX6_placeBehind_96 : decode cX6_placeBehind 96 = .ok (.iload_n 2, 1) := by decide +kernel
theorem dX6_placeBehind_97 : decode cX6_placeBehind 97 = .ok (.ifCond .eq 13, 3) := by decide +kernel
theorem dX6_placeBehind_100 : decode cX6_placeBehind 100 = .ok (.iload_n 1, 1) := by decide +kernel
theorem dX6_placeBehind_101 : decode cX6_placeBehind 101 = .ok (.bipush 48, 2) := by decide +kernel
theorem dX6_placeBehind_103 : decode cX6_placeBehind 103 = .ok (.if_icmp .eq 7, 3) := by decide +kernel
theorem dX6_placeBehind_106 : decode cX6_placeBehind 106 = .ok (.iconst 4, 1) := by decide +kernel
theorem dX6_placeBehind_107 : decode cX6_placeBehind 107 = .ok (.goto 4, 3) := by decide +kernel
theorem dX6_placeBehind_110 : decode cX6_placeBehind 110 = .ok (.iconst (-1), 1) := by decide +kernel
theorem dX6_placeBehind_111 : decode cX6_placeBehind 111 = .ok (.ireturn, 1) := by decide +kernel
theorem dX6_placeBehind_112 : decode cX6_placeBehind 112 = .ok (.iload_n 1, 1) := by decide +kernel
theorem dX6_placeBehind_113 : decode cX6_placeBehind 113 = .ok (.bipush 44, 2) := by decide +kernel
theorem dX6_placeBehind_115 : decode cX6_placeBehind 115 = .ok (.if_icmp .ne 5, 3) := by decide +kernel
theorem dX6_placeBehind_118 : decode cX6_placeBehind 118 = .ok (.iconst 0, 1) := by decide +kernel
theorem dX6_placeBehind_119 : decode cX6_placeBehind 119 = .ok (.ireturn, 1) := by decide +kernel
theorem dX6_placeBehind_120 : decode cX6_placeBehind 120 = .ok (.iload_n 2, 1) := by decide +kernel
theorem dX6_placeBehind_121 : decode cX6_placeBehind 121 = .ok (.ifCond .eq 15, 3) := by decide +kernel
theorem dX6_placeBehind_124 : decode cX6_placeBehind 124 = .ok (.iload_n 0, 1) := by decide +kernel
theorem dX6_placeBehind_125 : decode cX6_placeBehind 125 = .ok (.bipush 10, 2) := by decide +kernel
theorem dX6_placeBehind_127 : decode cX6_placeBehind 127 = .ok (.if_icmp .ge 9, 3) := by decide +kernel
theorem dX6_placeBehind_130 : decode cX6_placeBehind 130 = .ok (.iload_n 0, 1) := by decide +kernel
theorem dX6_placeBehind_131 : decode cX6_placeBehind 131 = .ok (.iconst 1, 1) := by decide +kernel
theorem dX6_placeBehind_132 : decode cX6_placeBehind 132 = .ok (.iadd, 1) := by decide +kernel
theorem dX6_placeBehind_133 : decode cX6_placeBehind 133 = .ok (.goto 4, 3) := by decide +kernel
theorem dX6_placeBehind_136 : decode cX6_placeBehind 136 = .ok (.iconst (-1), 1) := by decide +kernel
theorem dX6_placeBehind_137 : decode cX6_placeBehind 137 = .ok (.ireturn, 1) := by decide +kernel
theorem dX6_readNumbers_0 : decode cX6_readNumbers 0 = .ok (.iconst 0, 1) := by decide +kernel
theorem dX6_readNumbers_1 : decode cX6_readNumbers 1 = .ok (.istore_n 1, 1) := by decide +kernel
theorem dX6_readNumbers_2 : decode cX6_readNumbers 2 = .ok (.iconst 0, 1) := by decide +kernel
theorem dX6_readNumbers_3 : decode cX6_readNumbers 3 = .ok (.istore_n 2, 1) := by decide +kernel
theorem dX6_readNumbers_4 : decode cX6_readNumbers 4 = .ok (.iconst 0, 1) := by decide +kernel
theorem dX6_readNumbers_5 : decode cX6_readNumbers 5 = .ok (.istore_n 3, 1) := by decide +kernel
theorem dX6_readNumbers_6 : decode cX6_readNumbers 6 = .ok (.iload_n 3, 1) := by decide +kernel
theorem dX6_readNumbers_7 : decode cX6_readNumbers 7 = .ok (.aload_n 0, 1) := by decide +kernel
theorem dX6_readNumbers_8 : decode cX6_readNumbers 8 = .ok (.getfield 22, 3) := by decide +kernel
theorem dX6_readNumbers_11 : decode cX6_readNumbers 11 = .ok (.if_icmp .ge 88, 3) := by decide +kernel
theorem dX6_readNumbers_14 : decode cX6_readNumbers 14 = .ok (.iload_n 3, 1) := by decide +kernel
theorem dX6_readNumbers_15 : decode cX6_readNumbers 15 = .ok (.bipush 60, 2) := by decide +kernel
theorem dX6_readNumbers_17 : decode cX6_readNumbers 17 = .ok (.if_icmp .ge 82, 3) := by decide +kernel
theorem dX6_readNumbers_20 : decode cX6_readNumbers 20 = .ok (.aload_n 0, 1) := by decide +kernel
theorem dX6_readNumbers_21 : decode cX6_readNumbers 21 = .ok (.getfield 9, 3) := by decide +kernel
theorem dX6_readNumbers_24 : decode cX6_readNumbers 24 = .ok (.iload_n 3, 1) := by decide +kernel
theorem dX6_readNumbers_25 : decode cX6_readNumbers 25 = .ok (.caload, 1) := by decide +kernel
theorem dX6_readNumbers_26 : decode cX6_readNumbers 26 = .ok (.istore 4, 2) := by decide +kernel
theorem dX6_readNumbers_28 : decode cX6_readNumbers 28 = .ok (.iload 4, 2) := by decide +kernel
theorem dX6_readNumbers_30 : decode cX6_readNumbers 30 = .ok (.bipush 61, 2) := by decide +kernel
theorem dX6_readNumbers_32 : decode cX6_readNumbers 32 = .ok (.if_icmp .ne 15, 3) := by decide +kernel
theorem dX6_readNumbers_35 : decode cX6_readNumbers 35 = .ok (.aload_n 0, 1) := by decide +kernel
theorem dX6_readNumbers_36 : decode cX6_readNumbers 36 = .ok (.getfield 15, 3) := by decide +kernel
theorem dX6_readNumbers_39 : decode cX6_readNumbers 39 = .ok (.iload_n 2, 1) := by decide +kernel
theorem dX6_readNumbers_40 : decode cX6_readNumbers 40 = .ok (.iload_n 1, 1) := by decide +kernel
theorem dX6_readNumbers_41 : decode cX6_readNumbers 41 = .ok (.iastore, 1) := by decide +kernel
theorem dX6_readNumbers_42 : decode cX6_readNumbers 42 = .ok (.iconst 0, 1) := by decide +kernel
theorem dX6_readNumbers_43 : decode cX6_readNumbers 43 = .ok (.istore_n 1, 1) := by decide +kernel
theorem dX6_readNumbers_44 : decode cX6_readNumbers 44 = .ok (.goto 49, 3) := by decide +kernel
theorem dX6_readNumbers_47 : decode cX6_readNumbers 47 = .ok (.iload 4, 2) := by decide +kernel
theorem dX6_readNumbers_49 : decode cX6_readNumbers 49 = .ok (.bipush 44, 2) := by decide +kernel
theorem dX6_readNumbers_51 : decode cX6_readNumbers 51 = .ok (.if_icmp .ne 24, 3) := by decide +kernel
theorem dX6_readNumbers_54 : decode cX6_readNumbers 54 = .ok (.iload_n 2, 1) := by decide +kernel
theorem dX6_readNumbers_55 : decode cX6_readNumbers 55 = .ok (.iconst 1, 1) := by decide +kernel
theorem dX6_readNumbers_56 : decode cX6_readNumbers 56 = .ok (.iadd, 1) := by decide +kernel
theorem dX6_readNumbers_57 : decode cX6_readNumbers 57 = .ok (.bipush 60, 2) := by decide +kernel
theorem dX6_readNumbers_59 : decode cX6_readNumbers 59 = .ok (.if_icmp .ge 9, 3) := by decide +kernel
theorem dX6_readNumbers_62 : decode cX6_readNumbers 62 = .ok (.iload_n 2, 1) := by decide +kernel
theorem dX6_readNumbers_63 : decode cX6_readNumbers 63 = .ok (.iconst 1, 1) := by decide +kernel
theorem dX6_readNumbers_64 : decode cX6_readNumbers 64 = .ok (.iadd, 1) := by decide +kernel
theorem dX6_readNumbers_65 : decode cX6_readNumbers 65 = .ok (.goto 4, 3) := by decide +kernel
theorem dX6_readNumbers_68 : decode cX6_readNumbers 68 = .ok (.iload_n 2, 1) := by decide +kernel
theorem dX6_readNumbers_69 : decode cX6_readNumbers 69 = .ok (.istore_n 2, 1) := by decide +kernel
theorem dX6_readNumbers_70 : decode cX6_readNumbers 70 = .ok (.iconst 0, 1) := by decide +kernel
theorem dX6_readNumbers_71 : decode cX6_readNumbers 71 = .ok (.istore_n 1, 1) := by decide +kernel
theorem dX6_readNumbers_72 : decode cX6_readNumbers 72 = .ok (.goto 21, 3) := by decide +kernel
theorem dX6_readNumbers_75 : decode cX6_readNumbers 75 = .ok (.iload_n 1, 1) := by decide +kernel
theorem dX6_readNumbers_76 : decode cX6_readNumbers 76 = .ok (.bipush 10, 2) := by decide +kernel
theorem dX6_readNumbers_78 : decode cX6_readNumbers 78 = .ok (.imul, 1) := by decide +kernel
theorem dX6_readNumbers_79 : decode cX6_readNumbers 79 = .ok (.iload 4, 2) := by decide +kernel
theorem dX6_readNumbers_81 : decode cX6_readNumbers 81 = .ok (.bipush 48, 2) := by decide +kernel
theorem dX6_readNumbers_83 : decode cX6_readNumbers 83 = .ok (.isub, 1) := by decide +kernel
theorem dX6_readNumbers_84 : decode cX6_readNumbers 84 = .ok (.iadd, 1) := by decide +kernel
theorem dX6_readNumbers_85 : decode cX6_readNumbers 85 = .ok (.istore_n 1, 1) := by decide +kernel
theorem dX6_readNumbers_86 : decode cX6_readNumbers 86 = .ok (.aload_n 0, 1) := by decide +kernel
theorem dX6_readNumbers_87 : decode cX6_readNumbers 87 = .ok (.getfield 19, 3) := by decide +kernel
theorem dX6_readNumbers_90 : decode cX6_readNumbers 90 = .ok (.iload_n 2, 1) := by decide +kernel
theorem dX6_readNumbers_91 : decode cX6_readNumbers 91 = .ok (.iload_n 1, 1) := by decide +kernel
theorem dX6_readNumbers_92 : decode cX6_readNumbers 92 = .ok (.iastore, 1) := by decide +kernel
theorem dX6_readNumbers_93 : decode cX6_readNumbers 93 = .ok (.iinc 3 1, 3) := by decide +kernel
theorem dX6_readNumbers_96 : decode cX6_readNumbers 96 = .ok (.goto (-90), 3) := by decide +kernel
theorem dX6_readNumbers_99 : decode cX6_readNumbers 99 = .ok (.aload_n 0, 1) := by decide +kernel
theorem dX6_readNumbers_100 : decode cX6_readNumbers 100 = .ok (.iload_n 2, 1) := by decide +kernel
theorem dX6_readNumbers_101 : decode cX6_readNumbers 101 = .ok (.iconst 1, 1) := by decide +kernel
theorem dX6_readNumbers_102 : decode cX6_readNumbers 102 = .ok (.iadd, 1) := by decide +kernel
theorem dX6_readNumbers_103 : decode cX6_readNumbers 103 = .ok (.putfield 26, 3) := by decide +kernel
theorem dX6_readNumbers_106 : decode cX6_readNumbers 106 = .ok (.return_, 1) := by decide +kernel
theorem dX7_init_0 : decode cX7_init 0 = .ok (.aload_n 0, 1) := by decide +kernel
theorem dX7_init_1 : decode cX7_init 1 = .ok (.invokespecial 1, 3) := by decide +kernel
theorem dX7_init_4 : decode cX7_init 4 = .ok (.aload_n 0, 1) := by decide +kernel
theorem dX7_init_5 : decode cX7_init 5 = .ok (.new 7, 3) := by decide +kernel
theorem dX7_init_8 : decode cX7_init 8 = .ok (.dup, 1) := by decide +kernel
theorem dX7_init_9 : decode cX7_init 9 = .ok (.invokespecial 9, 3) := by decide +kernel
theorem dX7_init_12 : decode cX7_init 12 = .ok (.putfield 10, 3) := by decide +kernel
theorem dX7_init_15 : decode cX7_init 15 = .ok (.aload_n 0, 1) := by decide +kernel
theorem dX7_init_16 : decode cX7_init 16 = .ok (.new 7, 3) := by decide +kernel
theorem dX7_init_19 : decode cX7_init 19 = .ok (.dup, 1) := by decide +kernel
theorem dX7_init_20 : decode cX7_init 20 = .ok (.invokespecial 9, 3) := by decide +kernel
theorem dX7_init_23 : decode cX7_init 23 = .ok (.putfield 16, 3) := by decide +kernel
theorem dX7_init_26 : decode cX7_init 26 = .ok (.aload_n 0, 1) := by decide +kernel
theorem dX7_init_27 : decode cX7_init 27 = .ok (.new 7, 3) := by decide +kernel
theorem dX7_init_30 : decode cX7_init 30 = .ok (.dup, 1) := by decide +kernel
theorem dX7_init_31 : decode cX7_init 31 = .ok (.invokespecial 9, 3) := by decide +kernel
theorem dX7_init_34 : decode cX7_init 34 = .ok (.putfield 19, 3) := by decide +kernel
theorem dX7_init_37 : decode cX7_init 37 = .ok (.aload_n 0, 1) := by decide +kernel
theorem dX7_init_38 : decode cX7_init 38 = .ok (.new 22, 3) := by decide +kernel
theorem dX7_init_41 : decode cX7_init 41 = .ok (.dup, 1) := by decide +kernel
theorem dX7_init_42 : decode cX7_init 42 = .ok (.invokespecial 24, 3) := by decide +kernel
theorem dX7_init_45 : decode cX7_init 45 = .ok (.putfield 25, 3) := by decide +kernel
theorem dX7_init_48 : decode cX7_init 48 = .ok (.aload_n 0, 1) := by decide +kernel
theorem dX7_init_49 : decode cX7_init 49 = .ok (.new 29, 3) := by decide +kernel
theorem dX7_init_52 : decode cX7_init 52 = .ok (.dup, 1) := by decide +kernel
theorem dX7_init_53 : decode cX7_init 53 = .ok (.invokespecial 31, 3) := by decide +kernel
theorem dX7_init_56 : decode cX7_init 56 = .ok (.putfield 32, 3) := by decide +kernel
theorem dX7_init_59 : decode cX7_init 59 = .ok (.aload_n 0, 1) := by decide +kernel
theorem dX7_init_60 : decode cX7_init 60 = .ok (.new 36, 3) := by decide +kernel
theorem dX7_init_63 : decode cX7_init 63 = .ok (.dup, 1) := by decide +kernel
theorem dX7_init_64 : decode cX7_init 64 = .ok (.invokespecial 38, 3) := by decide +kernel
theorem dX7_init_67 : decode cX7_init 67 = .ok (.putfield 39, 3) := by decide +kernel
theorem dX7_init_70 : decode cX7_init 70 = .ok (.aload_n 0, 1) := by decide +kernel
theorem dX7_init_71 : decode cX7_init 71 = .ok (.iconst 0, 1) := by decide +kernel
theorem dX7_init_72 : decode cX7_init 72 = .ok (.putfield 43, 3) := by decide +kernel
theorem dX7_init_75 : decode cX7_init 75 = .ok (.return_, 1) := by decide +kernel
theorem dX7_setRate_0 : decode cX7_setRate 0 = .ok (.iload_n 1, 1) := by decide +kernel
theorem dX7_setRate_1 : decode cX7_setRate 1 = .ok (.ifCond .lt 8, 3) := by decide +kernel
theorem dX7_setRate_4 : decode cX7_setRate 4 = .ok (.iload_n 1, 1) := by decide +kernel
theorem dX7_setRate_5 : decode cX7_setRate 5 = .ok (.iconst 3, 1) := by decide +kernel
theorem dX7_setRate_6 : decode cX7_setRate 6 = .ok (.if_icmp .lt 5, 3) := by decide +kernel
theorem dX7_setRate_9 : decode cX7_setRate 9 = .ok (.iconst (-1), 1) := by decide +kernel
theorem dX7_setRate_10 : decode cX7_setRate 10 = .ok (.ireturn, 1) := by decide +kernel
theorem dX7_setRate_11 : decode cX7_setRate 11 = .ok (.iload_n 2, 1) := by decide +kernel
theorem dX7_setRate_12 : decode cX7_setRate 12 = .ok (.getstatic 47, 3) := by decide +kernel
theorem dX7_setRate_15 : decode cX7_setRate 15 = .ok (.iload_n 1, 1) := by decide +kernel
theorem dX7_setRate_16 : decode cX7_setRate 16 = .ok (.iaload, 1) := by decide +kernel
theorem dX7_setRate_17 : decode cX7_setRate 17 = .ok (.if_icmp .lt 12, 3) := by decide +kernel
theorem dX7_setRate_20 : decode cX7_setRate 20 = .ok (.iload_n 2, 1) := by decide +kernel
theorem dX7_setRate_21 : decode cX7_setRate 21 = .ok (.getstatic 51, 3) := by decide +kernel
theorem dX7_setRate_24 : decode cX7_setRate 24 = .ok (.iload_n 1, 1) := by decide +kernel
theorem dX7_setRate_25 : decode cX7_setRate 25 = .ok (.iaload, 1) := by decide +kernel
theorem dX7_setRate_26 : decode cX7_setRate 26 = .ok (.if_icmp .le 6, 3) := by decide +kernel
theorem dX7_setRate_29 : decode cX7_setRate 29 = .ok (.bipush (-2), 2) := by decide +kernel
theorem dX7_setRate_31 : decode cX7_setRate 31 = .ok (.ireturn, 1) := by decide +kernel
theorem dX7_setRate_32 : decode cX7_setRate 32 = .ok (.iload_n 2, 1) := by decide +kernel
theorem dX7_setRate_33 : decode cX7_setRate 33 = .ok (.invokestatic 54, 3) := by decide +kernel
theorem dX7_setRate_36 : decode cX7_setRate 36 = .ok (.fstore_n 3, 1) := by decide +kernel
theorem dX7_setRate_37 : decode cX7_setRate 37 = .ok (.aload_n 0, 1) := by decide +kernel
theorem dX7_setRate_38 : decode cX7_setRate 38 = .ok (.getfield 10, 3) := by decide +kernel
theorem dX7_setRate_41 : decode cX7_setRate 41 = .ok (.getfield 58, 3) := by decide +kernel
theorem dX7_setRate_44 : decode cX7_setRate 44 = .ok (.iload_n 1, 1) := by decide +kernel
theorem dX7_setRate_45 : decode cX7_setRate 45 = .ok (.faload, 1) := by decide +kernel
theorem dX7_setRate_46 : decode cX7_setRate 46 = .ok (.fload_n 3, 1) := by decide +kernel
theorem dX7_setRate_47 : decode cX7_setRate 47 = .ok (.fcmp .l, 1) := by decide +kernel
theorem dX7_setRate_48 : decode cX7_setRate 48 = .ok (.ifCond .ne 6, 3) := by decide +kernel
theorem dX7_setRate_51 : decode cX7_setRate 51 = .ok (.bipush (-5), 2) := by decide +kernel
theorem dX7_setRate_53 : decode cX7_setRate 53 = .ok (.ireturn, 1) := by decide +kernel
theorem dX7_setRate_54 : decode cX7_setRate 54 = .ok (.aload_n 0, 1) := by decide +kernel
theorem dX7_setRate_55 : decode cX7_setRate 55 = .ok (.getfield 25, 3) := by decide +kernel
theorem dX7_setRate_58 : decode cX7_setRate 58 = .ok (.aload_n 0, 1) := by decide +kernel
theorem dX7_setRate_59 : decode cX7_setRate 59 = .ok (.getfield 10, 3) := by decide +kernel
theorem dX7_setRate_62 : decode cX7_setRate 62 = .ok (.invokevirtual 62, 3) := by decide +kernel
theorem dX7_setRate_65 : decode cX7_setRate 65 = .ok (.aload_n 0, 1) := by decide +kernel
theorem dX7_setRate_66 : decode cX7_setRate 66 = .ok (.getfield 10, 3) := by decide +kernel
theorem dX7_setRate_69 : decode cX7_setRate 69 = .ok (.getfield 58, 3) := by decide +kernel
theorem dX7_setRate_72 : decode cX7_setRate 72 = .ok (.iload_n 1, 1) := by decide +kernel
theorem dX7_setRate_73 : decode cX7_setRate 73 = .ok (.fload_n 3, 1) := by decide +kernel
theorem dX7_setRate_74 : decode cX7_setRate 74 = .ok (.fastore, 1) := by decide +kernel
theorem dX7_setRate_75 : decode cX7_setRate 75 = .ok (.iconst 1, 1) := by decide +kernel
theorem dX7_setRate_76 : decode cX7_setRate 76 = .ok (.ireturn, 1) := by decide +kernel
theorem dX7_setNumber_0 : decode cX7_setNumber 0 = .ok (.iload_n 1, 1) := by decide +kernel
theorem dX7_setNumber_1 : decode cX7_setNumber 1 = .ok (.ifCond .lt 8, 3) := by decide +kernel
theorem dX7_setNumber_4 : decode cX7_setNumber 4 = .ok (.iload_n 1, 1) := by decide +kernel
theorem dX7_setNumber_5 : decode cX7_setNumber 5 = .ok (.iconst 3, 1) := by decide +kernel
theorem dX7_setNumber_6 : decode cX7_setNumber 6 = .ok (.if_icmp .lt 5, 3) := by decide +kernel
theorem dX7_setNumber_9 : decode cX7_setNumber 9 = .ok (.iconst (-1), 1) := by decide +kernel
theorem dX7_setNumber_10 : decode cX7_setNumber 10 = .ok (.ireturn, 1) := by decide +kernel
theorem dX7_setNumber_11 : decode cX7_setNumber 11 = .ok (.iload_n 2, 1) := by decide +kernel
theorem dX7_setNumber_12 : decode cX7_setNumber 12 = .ok (.getstatic 66, 3) := by decide +kernel
theorem dX7_setNumber_15 : decode cX7_setNumber 15 = .ok (.iload_n 1, 1) := by decide +kernel
theorem dX7_setNumber_16 : decode cX7_setNumber 16 = .ok (.iaload, 1) := by decide +kernel
theorem dX7_setNumber_17 : decode cX7_setNumber 17 = .ok (.if_icmp .lt 12, 3) := by decide +kernel
theorem dX7_setNumber_20 : decode cX7_setNumber 20 = .ok (.iload_n 2, 1) := by decide +kernel
theorem dX7_setNumber_21 : decode cX7_setNumber 21 = .ok (.getstatic 69, 3) := by decide +kernel
theorem dX7_setNumber_24 : decode cX7_setNumber 24 = .ok (.iload_n 1, 1) := by decide +kernel
theorem dX7_setNumber_25 : decode cX7_setNumber 25 = .ok (.iaload, 1) := by decide +kernel
theorem dX7_setNumber_26 : decode cX7_setNumber 26 = .ok (.if_icmp .le 6, 3) := by decide +kernel
theorem dX7_setNumber_29 : decode cX7_setNumber 29 = .ok (.bipush (-2), 2) := by decide +kernel
theorem dX7_setNumber_31 : decode cX7_setNumber 31 = .ok (.ireturn, 1) := by decide +kernel
theorem dX7_setNumber_32 : decode cX7_setNumber 32 = .ok (.aload_n 0, 1) := by decide +kernel
theorem dX7_setNumber_33 : decode cX7_setNumber 33 = .ok (.getfield 10, 3) := by decide +kernel
theorem dX7_setNumber_36 : decode cX7_setNumber 36 = .ok (.getfield 72, 3) := by decide +kernel
theorem dX7_setNumber_39 : decode cX7_setNumber 39 = .ok (.iload_n 1, 1) := by decide +kernel
theorem dX7_setNumber_40 : decode cX7_setNumber 40 = .ok (.iaload, 1) := by decide +kernel
theorem dX7_setNumber_41 : decode cX7_setNumber 41 = .ok (.istore_n 3, 1) := by decide +kernel
theorem dX7_setNumber_42 : decode cX7_setNumber 42 = .ok (.iload_n 3, 1) := by decide +kernel
theorem dX7_setNumber_43 : decode cX7_setNumber 43 = .ok (.iload_n 2, 1) := by decide +kernel
theorem dX7_setNumber_44 : decode cX7_setNumber 44 = .ok (.if_icmp .ne 6, 3) := by decide +kernel
theorem dX7_setNumber_47 : decode cX7_setNumber 47 = .ok (.bipush (-5), 2) := by decide +kernel
theorem dX7_setNumber_49 : decode cX7_setNumber 49 = .ok (.ireturn, 1) := by decide +kernel
theorem dX7_setNumber_50 : decode cX7_setNumber 50 = .ok (.aload_n 0, 1) := by decide +kernel
theorem dX7_setNumber_51 : decode cX7_setNumber 51 = .ok (.getfield 25, 3) := by decide +kernel
theorem dX7_setNumber_54 : decode cX7_setNumber 54 = .ok (.aload_n 0, 1) := by decide +kernel
theorem dX7_setNumber_55 : decode cX7_setNumber 55 = .ok (.getfield 10, 3) := by decide +kernel
theorem dX7_setNumber_58 : decode cX7_setNumber 58 = .ok (.invokevirtual 62, 3) := by decide +kernel
theorem dX7_setNumber_61 : decode cX7_setNumber 61 = .ok (.aload_n 0, 1) := by decide +kernel
theorem dX7_setNumber_62 : decode cX7_setNumber 62 = .ok (.getfield 10, 3) := by decide +kernel
theorem dX7_setNumber_65 : decode cX7_setNumber 65 = .ok (.getfield 72, 3) := by decide +kernel
theorem dX7_setNumber_68 : decode cX7_setNumber 68 = .ok (.iload_n 1, 1) := by decide +kernel
theorem dX7_setNumber_69 : decode cX7_setNumber 69 = .ok (.iload_n 2, 1) := by decide +kernel
theorem dX7_setNumber_70 : decode cX7_setNumber 70 = .ok (.iastore, 1) := by decide +kernel
theorem dX7_setNumber_71 : decode cX7_setNumber 71 = .ok (.iload_n 3, 1) := by decide +kernel
theorem dX7_setNumber_72 : decode cX7_setNumber 72 = .ok (.ireturn, 1) := by decide +kernel
theorem dX7_addMember_0 : decode cX7_addMember 0 = .ok (.iload_n 1, 1) := by decide +kernel
theorem dX7_addMember_1 : decode cX7_addMember 1 = .ok (.iconst 1, 1) := by decide +kernel
theorem dX7_addMember_2 : decode cX7_addMember 2 = .ok (.if_icmp .lt 9, 3) := by decide +kernel
theorem dX7_addMember_5 : decode cX7_addMember 5 = .ok (.iload_n 1, 1) := by decide +kernel
theorem dX7_addMember_6 : decode cX7_addMember 6 = .ok (.bipush 9, 2) := by decide +kernel
theorem dX7_addMember_8 : decode cX7_addMember 8 = .ok (.if_icmp .le 6, 3) := by decide +kernel
theorem dX7_addMember_11 : decode cX7_addMember 11 = .ok (.bipush (-2), 2) := by decide +kernel
theorem dX7_addMember_13 : decode cX7_addMember 13 = .ok (.ireturn, 1) := by decide +kernel
theorem dX7_addMember_14 : decode cX7_addMember 14 = .ok (.aload_n 0, 1) := by decide +kernel
theorem dX7_addMember_15 : decode cX7_addMember 15 = .ok (.getfield 10, 3) := by decide +kernel
theorem dX7_addMember_18 : decode cX7_addMember 18 = .ok (.getfield 75, 3) := by decide +kernel
theorem dX7_addMember_21 : decode cX7_addMember 21 = .ok (.getfield 79, 3) := by decide +kernel
theorem dX7_addMember_24 : decode cX7_addMember 24 = .ok (.bipush 8, 2) := by decide +kernel
theorem dX7_addMember_26 : decode cX7_addMember 26 = .ok (.if_icmp .lt 6, 3) := by decide +kernel
theorem dX7_addMember_29 : decode cX7_addMember 29 = .ok (.bipush (-3), 2) := by decide +kernel
theorem dX7_addMember_31 : decode cX7_addMember 31 = .ok (.ireturn, 1) := by decide +kernel
theorem dX7_addMember_32 : decode cX7_addMember 32 = .ok (.aload_n 0, 1) := by decide +kernel
theorem dX7_addMember_33 : decode cX7_addMember 33 = .ok (.getfield 25, 3) := by decide +kernel
theorem dX7_addMember_36 : decode cX7_addMember 36 = .ok (.aload_n 0, 1) := by decide +kernel
theorem dX7_addMember_37 : decode cX7_addMember 37 = .ok (.getfield 10, 3) := by decide +kernel
theorem dX7_addMember_40 : decode cX7_addMember 40 = .ok (.invokevirtual 62, 3) := by decide +kernel
theorem dX7_addMember_43 : decode cX7_addMember 43 = .ok (.aload_n 0, 1) := by decide +kernel
theorem dX7_addMember_44 : decode cX7_addMember 44 = .ok (.getfield 10, 3) := by decide +kernel
theorem dX7_addMember_47 : decode cX7_addMember 47 = .ok (.getfield 75, 3) := by decide +kernel
theorem dX7_addMember_50 : decode cX7_addMember 50 = .ok (.iload_n 1, 1) := by decide +kernel
theorem dX7_addMember_51 : decode cX7_addMember 51 = .ok (.invokevirtual 84, 3) := by decide +kernel
theorem dX7_addMember_54 : decode cX7_addMember 54 = .ok (.ireturn, 1) := by decide +kernel
theorem dX7_payDues_0 : decode cX7_payDues 0 = .ok (.aload_n 0, 1) := by decide +kernel
theorem dX7_payDues_1 : decode cX7_payDues 1 = .ok (.getfield 10, 3) := by decide +kernel
theorem dX7_payDues_4 : decode cX7_payDues 4 = .ok (.getfield 75, 3) := by decide +kernel
theorem dX7_payDues_7 : decode cX7_payDues 7 = .ok (.astore_n 3, 1) := by decide +kernel
theorem dX7_payDues_8 : decode cX7_payDues 8 = .ok (.aload_n 3, 1) := by decide +kernel
theorem dX7_payDues_9 : decode cX7_payDues 9 = .ok (.iload_n 1, 1) := by decide +kernel
theorem dX7_payDues_10 : decode cX7_payDues 10 = .ok (.invokevirtual 88, 3) := by decide +kernel
theorem dX7_payDues_13 : decode cX7_payDues 13 = .ok (.ifCond .ne 5, 3) := by decide +kernel
theorem dX7_payDues_16 : decode cX7_payDues 16 = .ok (.iconst (-1), 1) := by decide +kernel
theorem dX7_payDues_17 : decode cX7_payDues 17 = .ok (.ireturn, 1) := by decide +kernel
theorem dX7_payDues_18 : decode cX7_payDues 18 = .ok (.iload_n 2, 1) := by decide +kernel
theorem dX7_payDues_19 : decode cX7_payDues 19 = .ok (.iconst 1, 1) := by decide +kernel
theorem dX7_payDues_20 : decode cX7_payDues 20 = .ok (.if_icmp .lt 9, 3) := by decide +kernel
theorem dX7_payDues_23 : decode cX7_payDues 23 = .ok (.iload_n 2, 1) := by decide +kernel
theorem dX7_payDues_24 : decode cX7_payDues 24 = .ok (.ldc 92, 2) := by decide +kernel
theorem dX7_payDues_26 : decode cX7_payDues 26 = .ok (.if_icmp .le 6, 3) := by decide +kernel
theorem dX7_payDues_29 : decode cX7_payDues 29 = .ok (.bipush (-2), 2) := by decide +kernel
theorem dX7_payDues_31 : decode cX7_payDues 31 = .ok (.ireturn, 1) := by decide +kernel
theorem dX7_payDues_32 : decode cX7_payDues 32 = .ok (.aload_n 3, 1) := by decide +kernel
theorem dX7_payDues_33 : decode cX7_payDues 33 = .ok (.getfield 93, 3) := by decide +kernel
theorem dX7_payDues_36 : decode cX7_payDues 36 = .ok (.iload_n 1, 1) := by decide +kernel
theorem dX7_payDues_37 : decode cX7_payDues 37 = .ok (.iaload, 1) := by decide +kernel
theorem dX7_payDues_38 : decode cX7_payDues 38 = .ok (.iload_n 2, 1) := by decide +kernel
theorem dX7_payDues_39 : decode cX7_payDues 39 = .ok (.iadd, 1) := by decide +kernel
theorem dX7_payDues_40 : decode cX7_payDues 40 = .ok (.ldc 96, 2) := by decide +kernel
theorem dX7_payDues_42 : decode cX7_payDues 42 = .ok (.if_icmp .le 6, 3) := by decide +kernel
theorem dX7_payDues_45 : decode cX7_payDues 45 = .ok (.bipush (-3), 2) := by decide +kernel
theorem dX7_payDues_47 : decode cX7_payDues 47 = .ok (.ireturn, 1) := by decide +kernel
theorem dX7_payDues_48 : decode cX7_payDues 48 = .ok (.aload_n 0, 1) := by decide +kernel
theorem dX7_payDues_49 : decode cX7_payDues 49 = .ok (.getfield 25, 3) := by decide +kernel
theorem dX7_payDues_52 : decode cX7_payDues 52 = .ok (.aload_n 0, 1) := by decide +kernel
theorem dX7_payDues_53 : decode cX7_payDues 53 = .ok (.getfield 10, 3) := by decide +kernel
theorem dX7_payDues_56 : decode cX7_payDues 56 = .ok (.invokevirtual 62, 3) := by decide +kernel
theorem dX7_payDues_59 : decode cX7_payDues 59 = .ok (.aload_n 3, 1) := by decide +kernel
theorem dX7_payDues_60 : decode cX7_payDues 60 = .ok (.getfield 93, 3) := by decide +kernel
theorem dX7_payDues_63 : decode cX7_payDues 63 = .ok (.iload_n 1, 1) := by decide +kernel
theorem dX7_payDues_64 : decode cX7_payDues 64 = .ok (.dup2, 1) := by decide +kernel
theorem dX7_payDues_65 : decode cX7_payDues 65 = .ok (.iaload, 1) := by decide +kernel
theorem dX7_payDues_66 : decode cX7_payDues 66 = .ok (.iload_n 2, 1) := by decide +kernel
theorem dX7_payDues_67 : decode cX7_payDues 67 = .ok (.iadd, 1) := by decide +kernel
theorem dX7_payDues_68 : decode cX7_payDues 68 = .ok (.iastore, 1) := by decide +kernel
theorem dX7_payDues_69 : decode cX7_payDues 69 = .ok (.aload_n 0, 1) := by decide +kernel
theorem dX7_payDues_70 : decode cX7_payDues 70 = .ok (.getfield 10, 3) := by decide +kernel
theorem dX7_payDues_73 : decode cX7_payDues 73 = .ok (.dup, 1) := by decide +kernel
theorem dX7_payDues_74 : decode cX7_payDues 74 = .ok (.getfield 97, 3) := by decide +kernel
theorem dX7_payDues_77 : decode cX7_payDues 77 = .ok (.iload_n 2, 1) := by decide +kernel
theorem dX7_payDues_78 : decode cX7_payDues 78 = .ok (.iadd, 1) := by decide +kernel
theorem dX7_payDues_79 : decode cX7_payDues 79 = .ok (.putfield 97, 3) := by decide +kernel
theorem dX7_payDues_82 : decode cX7_payDues 82 = .ok (.aload_n 3, 1) := by decide +kernel
theorem dX7_payDues_83 : decode cX7_payDues 83 = .ok (.getfield 93, 3) := by decide +kernel
theorem dX7_payDues_86 : decode cX7_payDues 86 = .ok (.iload_n 1, 1) := by decide +kernel
theorem dX7_payDues_87 : decode cX7_payDues 87 = .ok (.iaload, 1) := by decide +kernel
theorem dX7_payDues_88 : decode cX7_payDues 88 = .ok (.ireturn, 1) := by decide +kernel
theorem dX7_addInvoice_0 : decode cX7_addInvoice 0 = .ok (.aload_n 0, 1) := by decide +kernel
theorem dX7_addInvoice_1 : decode cX7_addInvoice 1 = .ok (.getfield 10, 3) := by decide +kernel
theorem dX7_addInvoice_4 : decode cX7_addInvoice 4 = .ok (.getfield 75, 3) := by decide +kernel
theorem dX7_addInvoice_7 : decode cX7_addInvoice 7 = .ok (.iload_n 1, 1) := by decide +kernel
theorem dX7_addInvoice_8 : decode cX7_addInvoice 8 = .ok (.invokevirtual 88, 3) := by decide +kernel
theorem dX7_addInvoice_11 : decode cX7_addInvoice 11 = .ok (.ifCond .eq 17, 3) := by decide +kernel
theorem dX7_addInvoice_14 : decode cX7_addInvoice 14 = .ok (.aload_n 0, 1) := by decide +kernel
theorem dX7_addInvoice_15 : decode cX7_addInvoice 15 = .ok (.getfield 10, 3) := by decide +kernel
theorem dX7_addInvoice_18 : decode cX7_addInvoice 18 = .ok (.getfield 100, 3) := by decide +kernel
theorem dX7_addInvoice_21 : decode cX7_addInvoice 21 = .ok (.iload_n 2, 1) := by decide +kernel
theorem dX7_addInvoice_22 : decode cX7_addInvoice 22 = .ok (.invokevirtual 104, 3) := by decide +kernel
theorem dX7_addInvoice_25 : decode cX7_addInvoice 25 = .ok (.ifCond .ne 5, 3) := by decide +kernel
theorem dX7_addInvoice_28 : decode cX7_addInvoice 28 = .ok (.iconst (-1), 1) := by decide +kernel
theorem dX7_addInvoice_29 : decode cX7_addInvoice 29 = .ok (.ireturn, 1) := by decide +kernel
theorem dX7_addInvoice_30 : decode cX7_addInvoice 30 = .ok (.iload_n 3, 1) := by decide +kernel
theorem dX7_addInvoice_31 : decode cX7_addInvoice 31 = .ok (.bipush 100, 2) := by decide +kernel
theorem dX7_addInvoice_33 : decode cX7_addInvoice 33 = .ok (.if_icmp .lt 9, 3) := by decide +kernel
theorem dX7_addInvoice_36 : decode cX7_addInvoice 36 = .ok (.iload_n 3, 1) := by decide +kernel
theorem dX7_addInvoice_37 : decode cX7_addInvoice 37 = .ok (.ldc 92, 2) := by decide +kernel
theorem dX7_addInvoice_39 : decode cX7_addInvoice 39 = .ok (.if_icmp .le 6, 3) := by decide +kernel
theorem dX7_addInvoice_42 : decode cX7_addInvoice 42 = .ok (.bipush (-2), 2) := by decide +kernel
theorem dX7_addInvoice_44 : decode cX7_addInvoice 44 = .ok (.ireturn, 1) := by decide +kernel
theorem dX7_addInvoice_45 : decode cX7_addInvoice 45 = .ok (.iload 4, 2) := by decide +kernel
theorem dX7_addInvoice_47 : decode cX7_addInvoice 47 = .ok (.ifCond .lt 11, 3) := by decide +kernel
theorem dX7_addInvoice_50 : decode cX7_addInvoice 50 = .ok (.iload 4, 2) := by decide +kernel
theorem dX7_addInvoice_52 : decode cX7_addInvoice 52 = .ok (.sipush 9999, 3) := by decide +kernel
theorem dX7_addInvoice_55 : decode cX7_addInvoice 55 = .ok (.if_icmp .le 6, 3) := by decide +kernel
theorem dX7_addInvoice_58 : decode cX7_addInvoice 58 = .ok (.bipush (-2), 2) := by decide +kernel
theorem dX7_addInvoice_60 : decode cX7_addInvoice 60 = .ok (.ireturn, 1) := by decide +kernel
theorem dX7_addInvoice_61 : decode cX7_addInvoice 61 = .ok (.aload_n 0, 1) := by decide +kernel
theorem dX7_addInvoice_62 : decode cX7_addInvoice 62 = .ok (.getfield 10, 3) := by decide +kernel
theorem dX7_addInvoice_65 : decode cX7_addInvoice 65 = .ok (.getfield 107, 3) := by decide +kernel
theorem dX7_addInvoice_68 : decode cX7_addInvoice 68 = .ok (.getfield 111, 3) := by decide +kernel
theorem dX7_addInvoice_71 : decode cX7_addInvoice 71 = .ok (.bipush 20, 2) := by decide +kernel
theorem dX7_addInvoice_73 : decode cX7_addInvoice 73 = .ok (.if_icmp .lt 6, 3) := by decide +kernel
theorem dX7_addInvoice_76 : decode cX7_addInvoice 76 = .ok (.bipush (-3), 2) := by decide +kernel
theorem dX7_addInvoice_78 : decode cX7_addInvoice 78 = .ok (.ireturn, 1) := by decide +kernel
theorem dX7_addInvoice_79 : decode cX7_addInvoice 79 = .ok (.aload_n 0, 1) := by decide +kernel
theorem dX7_addInvoice_80 : decode cX7_addInvoice 80 = .ok (.getfield 25, 3) := by decide +kernel
theorem dX7_addInvoice_83 : decode cX7_addInvoice 83 = .ok (.aload_n 0, 1) := by decide +kernel
theorem dX7_addInvoice_84 : decode cX7_addInvoice 84 = .ok (.getfield 10, 3) := by decide +kernel
theorem dX7_addInvoice_87 : decode cX7_addInvoice 87 = .ok (.invokevirtual 62, 3) := by decide +kernel
theorem dX7_addInvoice_90 : decode cX7_addInvoice 90 = .ok (.aload_n 0, 1) := by decide +kernel
theorem dX7_addInvoice_91 : decode cX7_addInvoice 91 = .ok (.getfield 10, 3) := by decide +kernel
theorem dX7_addInvoice_94 : decode cX7_addInvoice 94 = .ok (.getfield 107, 3) := by decide +kernel
theorem dX7_addInvoice_97 : decode cX7_addInvoice 97 = .ok (.iload_n 1, 1) := by decide +kernel
theorem dX7_addInvoice_98 : decode cX7_addInvoice 98 = .ok (.iload_n 2, 1) := by decide +kernel
theorem dX7_addInvoice_99 : decode cX7_addInvoice 99 = .ok (.iload_n 3, 1) := by decide +kernel
theorem dX7_addInvoice_100 : decode cX7_addInvoice 100 = .ok (.iload 4, 2) := by decide +kernel
theorem dX7_addInvoice_102 : decode cX7_addInvoice 102 = .ok (.invokevirtual 114, 3) := by decide +kernel
theorem dX7_addInvoice_105 : decode cX7_addInvoice 105 = .ok (.ireturn, 1) := by decide +kernel
theorem dX7_payAhead_0 : decode cX7_payAhead 0 = .ok (.aload_n 0, 1) := by decide +kernel
theorem dX7_payAhead_1 : decode cX7_payAhead 1 = .ok (.getfield 10, 3) := by decide +kernel
theorem dX7_payAhead_4 : decode cX7_payAhead 4 = .ok (.getfield 107, 3) := by decide +kernel
theorem dX7_payAhead_7 : decode cX7_payAhead 7 = .ok (.iload_n 1, 1) := by decide +kernel
theorem dX7_payAhead_8 : decode cX7_payAhead 8 = .ok (.invokevirtual 117, 3) := by decide +kernel
theorem dX7_payAhead_11 : decode cX7_payAhead 11 = .ok (.ifCond .ne 5, 3) := by decide +kernel
theorem dX7_payAhead_14 : decode cX7_payAhead 14 = .ok (.iconst (-1), 1) := by decide +kernel
theorem dX7_payAhead_15 : decode cX7_payAhead 15 = .ok (.ireturn, 1) := by decide +kernel
theorem dX7_payAhead_16 : decode cX7_payAhead 16 = .ok (.aload_n 0, 1) := by decide +kernel
theorem dX7_payAhead_17 : decode cX7_payAhead 17 = .ok (.getfield 10, 3) := by decide +kernel
theorem dX7_payAhead_20 : decode cX7_payAhead 20 = .ok (.iload_n 1, 1) := by decide +kernel
theorem dX7_payAhead_21 : decode cX7_payAhead 21 = .ok (.invokevirtual 118, 3) := by decide +kernel
theorem dX7_payAhead_24 : decode cX7_payAhead 24 = .ok (.ifCond .ne 6, 3) := by decide +kernel
theorem dX7_payAhead_27 : decode cX7_payAhead 27 = .ok (.bipush (-4), 2) := by decide +kernel
theorem dX7_payAhead_29 : decode cX7_payAhead 29 = .ok (.ireturn, 1) := by decide +kernel
theorem dX7_payAhead_30 : decode cX7_payAhead 30 = .ok (.aload_n 0, 1) := by decide +kernel
theorem dX7_payAhead_31 : decode cX7_payAhead 31 = .ok (.getfield 25, 3) := by decide +kernel
theorem dX7_payAhead_34 : decode cX7_payAhead 34 = .ok (.aload_n 0, 1) := by decide +kernel
theorem dX7_payAhead_35 : decode cX7_payAhead 35 = .ok (.getfield 10, 3) := by decide +kernel
theorem dX7_payAhead_38 : decode cX7_payAhead 38 = .ok (.invokevirtual 62, 3) := by decide +kernel
theorem dX7_payAhead_41 : decode cX7_payAhead 41 = .ok (.aload_n 0, 1) := by decide +kernel
theorem dX7_payAhead_42 : decode cX7_payAhead 42 = .ok (.getfield 10, 3) := by decide +kernel
theorem dX7_payAhead_45 : decode cX7_payAhead 45 = .ok (.iload_n 1, 1) := by decide +kernel
theorem dX7_payAhead_46 : decode cX7_payAhead 46 = .ok (.invokevirtual 121, 3) := by decide +kernel
theorem dX7_payAhead_49 : decode cX7_payAhead 49 = .ok (.ireturn, 1) := by decide +kernel
theorem dX7_pay_0 : decode cX7_pay 0 = .ok (.aload_n 0, 1) := by decide +kernel
theorem dX7_pay_1 : decode cX7_pay 1 = .ok (.getfield 10, 3) := by decide +kernel
theorem dX7_pay_4 : decode cX7_pay 4 = .ok (.iload_n 1, 1) := by decide +kernel
theorem dX7_pay_5 : decode cX7_pay 5 = .ok (.iload_n 2, 1) := by decide +kernel
theorem dX7_pay_6 : decode cX7_pay 6 = .ok (.invokevirtual 124, 3) := by decide +kernel
theorem dX7_pay_9 : decode cX7_pay 9 = .ok (.istore_n 3, 1) := by decide +kernel
theorem dX7_pay_10 : decode cX7_pay 10 = .ok (.iload_n 3, 1) := by decide +kernel
theorem dX7_pay_11 : decode cX7_pay 11 = .ok (.ifCond .eq 5, 3) := by decide +kernel
theorem dX7_pay_14 : decode cX7_pay 14 = .ok (.iload_n 3, 1) := by decide +kernel
theorem dX7_pay_15 : decode cX7_pay 15 = .ok (.ireturn, 1) := by decide +kernel
theorem dX7_pay_16 : decode cX7_pay 16 = .ok (.aload_n 0, 1) := by decide +kernel
theorem dX7_pay_17 : decode cX7_pay 17 = .ok (.getfield 25, 3) := by decide +kernel
theorem dX7_pay_20 : decode cX7_pay 20 = .ok (.aload_n 0, 1) := by decide +kernel
theorem dX7_pay_21 : decode cX7_pay 21 = .ok (.getfield 10, 3) := by decide +kernel
theorem dX7_pay_24 : decode cX7_pay 24 = .ok (.invokevirtual 62, 3) := by decide +kernel
theorem dX7_pay_27 : decode cX7_pay 27 = .ok (.aload_n 0, 1) := by decide +kernel
theorem dX7_pay_28 : decode cX7_pay 28 = .ok (.getfield 10, 3) := by decide +kernel
theorem dX7_pay_31 : decode cX7_pay 31 = .ok (.iload_n 1, 1) := by decide +kernel
theorem dX7_pay_32 : decode cX7_pay 32 = .ok (.iload_n 2, 1) := by decide +kernel
theorem dX7_pay_33 : decode cX7_pay 33 = .ok (.invokevirtual 128, 3) := by decide +kernel
theorem dX7_pay_36 : decode cX7_pay 36 = .ok (.ireturn, 1) := by decide +kernel
theorem dX7_giveUp_0 : decode cX7_giveUp 0 = .ok (.aload_n 0, 1) := by decide +kernel
theorem dX7_giveUp_1 : decode cX7_giveUp 1 = .ok (.getfield 10, 3) := by decide +kernel
theorem dX7_giveUp_4 : decode cX7_giveUp 4 = .ok (.getfield 107, 3) := by decide +kernel
theorem dX7_giveUp_7 : decode cX7_giveUp 7 = .ok (.iload_n 1, 1) := by decide +kernel
theorem dX7_giveUp_8 : decode cX7_giveUp 8 = .ok (.invokevirtual 117, 3) := by decide +kernel
theorem dX7_giveUp_11 : decode cX7_giveUp 11 = .ok (.ifCond .ne 5, 3) := by decide +kernel
theorem dX7_giveUp_14 : decode cX7_giveUp 14 = .ok (.iconst (-1), 1) := by decide +kernel
theorem dX7_giveUp_15 : decode cX7_giveUp 15 = .ok (.ireturn, 1) := by decide +kernel
theorem dX7_giveUp_16 : decode cX7_giveUp 16 = .ok (.aload_n 0, 1) := by decide +kernel
theorem dX7_giveUp_17 : decode cX7_giveUp 17 = .ok (.getfield 10, 3) := by decide +kernel
theorem dX7_giveUp_20 : decode cX7_giveUp 20 = .ok (.iload_n 1, 1) := by decide +kernel
theorem dX7_giveUp_21 : decode cX7_giveUp 21 = .ok (.invokevirtual 131, 3) := by decide +kernel
theorem dX7_giveUp_24 : decode cX7_giveUp 24 = .ok (.ifCond .ne 6, 3) := by decide +kernel
theorem dX7_giveUp_27 : decode cX7_giveUp 27 = .ok (.bipush (-4), 2) := by decide +kernel
theorem dX7_giveUp_29 : decode cX7_giveUp 29 = .ok (.ireturn, 1) := by decide +kernel
theorem dX7_giveUp_30 : decode cX7_giveUp 30 = .ok (.aload_n 0, 1) := by decide +kernel
theorem dX7_giveUp_31 : decode cX7_giveUp 31 = .ok (.getfield 25, 3) := by decide +kernel
theorem dX7_giveUp_34 : decode cX7_giveUp 34 = .ok (.aload_n 0, 1) := by decide +kernel
theorem dX7_giveUp_35 : decode cX7_giveUp 35 = .ok (.getfield 10, 3) := by decide +kernel
theorem dX7_giveUp_38 : decode cX7_giveUp 38 = .ok (.invokevirtual 62, 3) := by decide +kernel
theorem dX7_giveUp_41 : decode cX7_giveUp 41 = .ok (.aload_n 0, 1) := by decide +kernel
theorem dX7_giveUp_42 : decode cX7_giveUp 42 = .ok (.getfield 10, 3) := by decide +kernel
theorem dX7_giveUp_45 : decode cX7_giveUp 45 = .ok (.iload_n 1, 1) := by decide +kernel
theorem dX7_giveUp_46 : decode cX7_giveUp 46 = .ok (.invokevirtual 134, 3) := by decide +kernel
theorem dX7_giveUp_49 : decode cX7_giveUp 49 = .ok (.ireturn, 1) := by decide +kernel
theorem dX7_readPayments_0 : decode cX7_readPayments 0 = .ok (.aload_n 0, 1) := by decide +kernel
theorem dX7_readPayments_1 : decode cX7_readPayments 1 = .ok (.getfield 32, 3) := by decide +kernel
theorem dX7_readPayments_4 : decode cX7_readPayments 4 = .ok (.invokevirtual 137, 3) := by decide +kernel
theorem dX7_readPayments_7 : decode cX7_readPayments 7 = .ok (.istore_n 1, 1) := by decide +kernel
theorem dX7_readPayments_8 : decode cX7_readPayments 8 = .ok (.iload_n 1, 1) := by decide +kernel
theorem dX7_readPayments_9 : decode cX7_readPayments 9 = .ok (.iconst (-1), 1) := by decide +kernel
theorem dX7_readPayments_10 : decode cX7_readPayments 10 = .ok (.if_icmp .eq 8, 3) := by decide +kernel
theorem dX7_readPayments_13 : decode cX7_readPayments 13 = .ok (.bipush (-100), 2) := by decide +kernel
theorem dX7_readPayments_15 : decode cX7_readPayments 15 = .ok (.iload_n 1, 1) := by decide +kernel
theorem dX7_readPayments_16 : decode cX7_readPayments 16 = .ok (.isub, 1) := by decide +kernel
theorem dX7_readPayments_17 : decode cX7_readPayments 17 = .ok (.ireturn, 1) := by decide +kernel
theorem dX7_readPayments_18 : decode cX7_readPayments 18 = .ok (.aload_n 0, 1) := by decide +kernel
theorem dX7_readPayments_19 : decode cX7_readPayments 19 = .ok (.getfield 16, 3) := by decide +kernel
theorem dX7_readPayments_22 : decode cX7_readPayments 22 = .ok (.aload_n 0, 1) := by decide +kernel
theorem dX7_readPayments_23 : decode cX7_readPayments 23 = .ok (.getfield 10, 3) := by decide +kernel
theorem dX7_readPayments_26 : decode cX7_readPayments 26 = .ok (.invokevirtual 141, 3) := by decide +kernel
theorem dX7_readPayments_29 : decode cX7_readPayments 29 = .ok (.iconst 0, 1) := by decide +kernel
theorem dX7_readPayments_30 : decode cX7_readPayments 30 = .ok (.istore_n 2, 1) := by decide +kernel
theorem dX7_readPayments_31 : decode cX7_readPayments 31 = .ok (.iconst 0, 1) := by decide +kernel
theorem dX7_readPayments_32 : decode cX7_readPayments 32 = .ok (.istore_n 3, 1) := by decide +kernel
theorem dX7_readPayments_33 : decode cX7_readPayments 33 = .ok (.iload_n 3, 1) := by decide +kernel
theorem dX7_readPayments_34 : decode cX7_readPayments 34 = .ok (.aload_n 0, 1) := by decide +kernel
theorem dX7_readPayments_35 : decode cX7_readPayments 35 = .ok (.getfield 32, 3) := by decide +kernel
theorem dX7_readPayments_38 : decode cX7_readPayments 38 = .ok (.getfield 144, 3) := by decide +kernel
theorem dX7_readPayments_41 : decode cX7_readPayments 41 = .ok (.if_icmp .ge 89, 3) := by decide +kernel
theorem dX7_readPayments_44 : decode cX7_readPayments 44 = .ok (.aload_n 0, 1) := by decide +kernel
theorem dX7_readPayments_45 : decode cX7_readPayments 45 = .ok (.getfield 32, 3) := by decide +kernel
theorem dX7_readPayments_48 : decode cX7_readPayments 48 = .ok (.iload_n 3, 1) := by decide +kernel
theorem dX7_readPayments_49 : decode cX7_readPayments 49 = .ok (.invokevirtual 147, 3) := by decide +kernel
theorem dX7_readPayments_52 : decode cX7_readPayments 52 = .ok (.istore 4, 2) := by decide +kernel
theorem dX7_readPayments_54 : decode cX7_readPayments 54 = .ok (.aload_n 0, 1) := by decide +kernel
theorem dX7_readPayments_55 : decode cX7_readPayments 55 = .ok (.getfield 32, 3) := by decide +kernel
theorem dX7_readPayments_58 : decode cX7_readPayments 58 = .ok (.iload_n 3, 1) := by decide +kernel
theorem dX7_readPayments_59 : decode cX7_readPayments 59 = .ok (.invokevirtual 150, 3) := by decide +kernel
theorem dX7_readPayments_62 : decode cX7_readPayments 62 = .ok (.istore 5, 2) := by decide +kernel
theorem dX7_readPayments_64 : decode cX7_readPayments 64 = .ok (.aload_n 0, 1) := by decide +kernel
theorem dX7_readPayments_65 : decode cX7_readPayments 65 = .ok (.getfield 10, 3) := by decide +kernel
theorem dX7_readPayments_68 : decode cX7_readPayments 68 = .ok (.iload 4, 2) := by decide +kernel
theorem dX7_readPayments_70 : decode cX7_readPayments 70 = .ok (.iload 5, 2) := by decide +kernel
theorem dX7_readPayments_72 : decode cX7_readPayments 72 = .ok (.invokevirtual 124, 3) := by decide +kernel
theorem dX7_readPayments_75 : decode cX7_readPayments 75 = .ok (.istore 6, 2) := by decide +kernel
theorem dX7_readPayments_77 : decode cX7_readPayments 77 = .ok (.iload 6, 2) := by decide +kernel
theorem dX7_readPayments_79 : decode cX7_readPayments 79 = .ok (.ifCond .eq 28, 3) := by decide +kernel
theorem dX7_readPayments_82 : decode cX7_readPayments 82 = .ok (.aload_n 0, 1) := by decide +kernel
theorem dX7_readPayments_83 : decode cX7_readPayments 83 = .ok (.getfield 10, 3) := by decide +kernel
theorem dX7_readPayments_86 : decode cX7_readPayments 86 = .ok (.aload_n 0, 1) := by decide +kernel
theorem dX7_readPayments_87 : decode cX7_readPayments 87 = .ok (.getfield 16, 3) := by decide +kernel
theorem dX7_readPayments_90 : decode cX7_readPayments 90 = .ok (.invokevirtual 141, 3) := by decide +kernel
theorem dX7_readPayments_93 : decode cX7_readPayments 93 = .ok (.aload_n 0, 1) := by decide +kernel
theorem dX7_readPayments_94 : decode cX7_readPayments 94 = .ok (.iload_n 3, 1) := by decide +kernel
theorem dX7_readPayments_95 : decode cX7_readPayments 95 = .ok (.putfield 153, 3) := by decide +kernel
theorem dX7_readPayments_98 : decode cX7_readPayments 98 = .ok (.aload_n 0, 1) := by decide +kernel
theorem dX7_readPayments_99 : decode cX7_readPayments 99 = .ok (.iload 6, 2) := by decide +kernel
theorem dX7_readPayments_101 : decode cX7_readPayments 101 = .ok (.putfield 43, 3) := by decide +kernel
theorem dX7_readPayments_104 : decode cX7_readPayments 104 = .ok (.bipush (-4), 2) := by decide +kernel
theorem dX7_readPayments_106 : decode cX7_readPayments 106 = .ok (.ireturn, 1) := by decide +kernel
theorem dX7_readPayments_107 : decode cX7_readPayments 107 = .ok (.aload_n 0, 1) := by decide +kernel
theorem dX7_readPayments_108 : decode cX7_readPayments 108 = .ok (.getfield 10, 3) := by decide +kernel
theorem dX7_readPayments_111 : decode cX7_readPayments 111 = .ok (.iload 4, 2) := by decide +kernel
theorem dX7_readPayments_113 : decode cX7_readPayments 113 = .ok (.iload 5, 2) := by decide +kernel
theorem dX7_readPayments_115 : decode cX7_readPayments 115 = .ok (.invokevirtual 128, 3) := by decide +kernel
theorem dX7_readPayments_118 : decode cX7_readPayments 118 = .ok (.ifCond .ne 6, 3) := by decide +kernel
theorem dX7_readPayments_121 : decode cX7_readPayments 121 = .ok (.iinc 2 1, 3) := by decide +kernel
theorem dX7_readPayments_124 : decode cX7_readPayments 124 = .ok (.iinc 3 1, 3) := by decide +kernel
theorem dX7_readPayments_127 : decode cX7_readPayments 127 = .ok (.goto (-94), 3) := by decide +kernel
theorem dX7_readPayments_130 : decode cX7_readPayments 130 = .ok (.aload_n 0, 1) := by decide +kernel
theorem dX7_readPayments_131 : decode cX7_readPayments 131 = .ok (.getfield 25, 3) := by decide +kernel
theorem dX7_readPayments_134 : decode cX7_readPayments 134 = .ok (.aload_n 0, 1) := by decide +kernel
theorem dX7_readPayments_135 : decode cX7_readPayments 135 = .ok (.getfield 16, 3) := by decide +kernel
theorem dX7_readPayments_138 : decode cX7_readPayments 138 = .ok (.invokevirtual 62, 3) := by decide +kernel
theorem dX7_readPayments_141 : decode cX7_readPayments 141 = .ok (.iload_n 2, 1) := by decide +kernel
theorem dX7_readPayments_142 : decode cX7_readPayments 142 = .ok (.ireturn, 1) := by decide +kernel
theorem dX7_refusal_0 : decode cX7_refusal 0 = .ok (.iload_n 1, 1) := by decide +kernel
theorem dX7_refusal_1 : decode cX7_refusal 1 = .ok (.ifCond .lt 8, 3) := by decide +kernel
theorem dX7_refusal_4 : decode cX7_refusal 4 = .ok (.iload_n 1, 1) := by decide +kernel
theorem dX7_refusal_5 : decode cX7_refusal 5 = .ok (.iconst 1, 1) := by decide +kernel
theorem dX7_refusal_6 : decode cX7_refusal 6 = .ok (.if_icmp .le 6, 3) := by decide +kernel
theorem dX7_refusal_9 : decode cX7_refusal 9 = .ok (.bipush (-2), 2) := by decide +kernel
theorem dX7_refusal_11 : decode cX7_refusal 11 = .ok (.ireturn, 1) := by decide +kernel
theorem dX7_refusal_12 : decode cX7_refusal 12 = .ok (.aload_n 0, 1) := by decide +kernel
theorem dX7_refusal_13 : decode cX7_refusal 13 = .ok (.getfield 43, 3) := by decide +kernel
theorem dX7_refusal_16 : decode cX7_refusal 16 = .ok (.ifCond .ne 6, 3) := by decide +kernel
theorem dX7_refusal_19 : decode cX7_refusal 19 = .ok (.bipush (-5), 2) := by decide +kernel
theorem dX7_refusal_21 : decode cX7_refusal 21 = .ok (.ireturn, 1) := by decide +kernel
theorem dX7_refusal_22 : decode cX7_refusal 22 = .ok (.iload_n 1, 1) := by decide +kernel
theorem dX7_refusal_23 : decode cX7_refusal 23 = .ok (.ifCond .ne 10, 3) := by decide +kernel
theorem dX7_refusal_26 : decode cX7_refusal 26 = .ok (.aload_n 0, 1) := by decide +kernel
theorem dX7_refusal_27 : decode cX7_refusal 27 = .ok (.getfield 153, 3) := by decide +kernel
theorem dX7_refusal_30 : decode cX7_refusal 30 = .ok (.goto 7, 3) := by decide +kernel
theorem dX7_refusal_33 : decode cX7_refusal 33 = .ok (.aload_n 0, 1) := by decide +kernel
theorem dX7_refusal_34 : decode cX7_refusal 34 = .ok (.getfield 43, 3) := by decide +kernel
theorem dX7_refusal_37 : decode cX7_refusal 37 = .ok (.ireturn, 1) := by decide +kernel
theorem dX7_pass_0 : decode cX7_pass 0 = .ok (.iload_n 1, 1) := by decide +kernel
theorem dX7_pass_1 : decode cX7_pass 1 = .ok (.iconst 1, 1) := by decide +kernel
theorem dX7_pass_2 : decode cX7_pass 2 = .ok (.if_icmp .lt 10, 3) := by decide +kernel
theorem dX7_pass_5 : decode cX7_pass 5 = .ok (.iload_n 1, 1) := by decide +kernel
theorem dX7_pass_6 : decode cX7_pass 6 = .ok (.sipush 365, 3) := by decide +kernel
theorem dX7_pass_9 : decode cX7_pass 9 = .ok (.if_icmp .le 6, 3) := by decide +kernel
theorem dX7_pass_12 : decode cX7_pass 12 = .ok (.bipush (-2), 2) := by decide +kernel
theorem dX7_pass_14 : decode cX7_pass 14 = .ok (.ireturn, 1) := by decide +kernel
theorem dX7_pass_15 : decode cX7_pass 15 = .ok (.aload_n 0, 1) := by decide +kernel
theorem dX7_pass_16 : decode cX7_pass 16 = .ok (.getfield 10, 3) := by decide +kernel
theorem dX7_pass_19 : decode cX7_pass 19 = .ok (.getfield 156, 3) := by decide +kernel
theorem dX7_pass_22 : decode cX7_pass 22 = .ok (.iload_n 1, 1) := by decide +kernel
theorem dX7_pass_23 : decode cX7_pass 23 = .ok (.iadd, 1) := by decide +kernel
theorem dX7_pass_24 : decode cX7_pass 24 = .ok (.ldc 159, 2) := by decide +kernel
theorem dX7_pass_26 : decode cX7_pass 26 = .ok (.if_icmp .le 6, 3) := by decide +kernel
theorem dX7_pass_29 : decode cX7_pass 29 = .ok (.bipush (-4), 2) := by decide +kernel
theorem dX7_pass_31 : decode cX7_pass 31 = .ok (.ireturn, 1) := by decide +kernel
theorem dX7_pass_32 : decode cX7_pass 32 = .ok (.aload_n 0, 1) := by decide +kernel
theorem dX7_pass_33 : decode cX7_pass 33 = .ok (.getfield 25, 3) := by decide +kernel
theorem dX7_pass_36 : decode cX7_pass 36 = .ok (.aload_n 0, 1) := by decide +kernel
theorem dX7_pass_37 : decode cX7_pass 37 = .ok (.getfield 10, 3) := by decide +kernel
theorem dX7_pass_40 : decode cX7_pass 40 = .ok (.invokevirtual 62, 3) := by decide +kernel
theorem dX7_pass_43 : decode cX7_pass 43 = .ok (.aload_n 0, 1) := by decide +kernel
theorem dX7_pass_44 : decode cX7_pass 44 = .ok (.getfield 10, 3) := by decide +kernel
theorem dX7_pass_47 : decode cX7_pass 47 = .ok (.dup, 1) := by decide +kernel
theorem dX7_pass_48 : decode cX7_pass 48 = .ok (.getfield 156, 3) := by decide +kernel
theorem dX7_pass_51 : decode cX7_pass 51 = .ok (.iload_n 1, 1) := by decide +kernel
theorem dX7_pass_52 : decode cX7_pass 52 = .ok (.iadd, 1) := by decide +kernel
theorem dX7_pass_53 : decode cX7_pass 53 = .ok (.putfield 156, 3) := by decide +kernel
theorem dX7_pass_56 : decode cX7_pass 56 = .ok (.aload_n 0, 1) := by decide +kernel
theorem dX7_pass_57 : decode cX7_pass 57 = .ok (.getfield 10, 3) := by decide +kernel
theorem dX7_pass_60 : decode cX7_pass 60 = .ok (.getfield 156, 3) := by decide +kernel
theorem dX7_pass_63 : decode cX7_pass 63 = .ok (.ireturn, 1) := by decide +kernel
theorem dX7_type_0 : decode cX7_type 0 = .ok (.aload_n 0, 1) := by decide +kernel
theorem dX7_type_1 : decode cX7_type 1 = .ok (.getfield 32, 3) := by decide +kernel
theorem dX7_type_4 : decode cX7_type 4 = .ok (.iload_n 1, 1) := by decide +kernel
theorem dX7_type_5 : decode cX7_type 5 = .ok (.invokevirtual 160, 3) := by decide +kernel
theorem dX7_type_8 : decode cX7_type 8 = .ok (.ireturn, 1) := by decide +kernel
theorem dX7_clearText_0 : decode cX7_clearText 0 = .ok (.aload_n 0, 1) := by decide +kernel
theorem dX7_clearText_1 : decode cX7_clearText 1 = .ok (.getfield 32, 3) := by decide +kernel
theorem dX7_clearText_4 : decode cX7_clearText 4 = .ok (.getfield 163, 3) := by decide +kernel
theorem dX7_clearText_7 : decode cX7_clearText 7 = .ok (.istore_n 1, 1) := by decide +kernel
theorem dX7_clearText_8 : decode cX7_clearText 8 = .ok (.aload_n 0, 1) := by decide +kernel
theorem dX7_clearText_9 : decode cX7_clearText 9 = .ok (.getfield 32, 3) := by decide +kernel
theorem dX7_clearText_12 : decode cX7_clearText 12 = .ok (.iconst 0, 1) := by decide +kernel
theorem dX7_clearText_13 : decode cX7_clearText 13 = .ok (.putfield 163, 3) := by decide +kernel
theorem dX7_clearText_16 : decode cX7_clearText 16 = .ok (.iload_n 1, 1) := by decide +kernel
theorem dX7_clearText_17 : decode cX7_clearText 17 = .ok (.ireturn, 1) := by decide +kernel
theorem dX7_undo_0 : decode cX7_undo 0 = .ok (.aload_n 0, 1) := by decide +kernel
theorem dX7_undo_1 : decode cX7_undo 1 = .ok (.getfield 25, 3) := by decide +kernel
theorem dX7_undo_4 : decode cX7_undo 4 = .ok (.getfield 166, 3) := by decide +kernel
theorem dX7_undo_7 : decode cX7_undo 7 = .ok (.ifCond .ne 6, 3) := by decide +kernel
theorem dX7_undo_10 : decode cX7_undo 10 = .ok (.bipush (-5), 2) := by decide +kernel
theorem dX7_undo_12 : decode cX7_undo 12 = .ok (.ireturn, 1) := by decide +kernel
theorem dX7_undo_13 : decode cX7_undo 13 = .ok (.aload_n 0, 1) := by decide +kernel
theorem dX7_undo_14 : decode cX7_undo 14 = .ok (.getfield 25, 3) := by decide +kernel
theorem dX7_undo_17 : decode cX7_undo 17 = .ok (.aload_n 0, 1) := by decide +kernel
theorem dX7_undo_18 : decode cX7_undo 18 = .ok (.getfield 10, 3) := by decide +kernel
theorem dX7_undo_21 : decode cX7_undo 21 = .ok (.invokevirtual 167, 3) := by decide +kernel
theorem dX7_undo_24 : decode cX7_undo 24 = .ok (.aload_n 0, 1) := by decide +kernel
theorem dX7_undo_25 : decode cX7_undo 25 = .ok (.getfield 25, 3) := by decide +kernel
theorem dX7_undo_28 : decode cX7_undo 28 = .ok (.getfield 166, 3) := by decide +kernel
theorem dX7_undo_31 : decode cX7_undo 31 = .ok (.ireturn, 1) := by decide +kernel
theorem dX7_keep_0 : decode cX7_keep 0 = .ok (.aload_n 0, 1) := by decide +kernel
theorem dX7_keep_1 : decode cX7_keep 1 = .ok (.getfield 19, 3) := by decide +kernel
theorem dX7_keep_4 : decode cX7_keep 4 = .ok (.aload_n 0, 1) := by decide +kernel
theorem dX7_keep_5 : decode cX7_keep 5 = .ok (.getfield 10, 3) := by decide +kernel
theorem dX7_keep_8 : decode cX7_keep 8 = .ok (.invokevirtual 141, 3) := by decide +kernel
theorem dX7_keep_11 : decode cX7_keep 11 = .ok (.aload_n 0, 1) := by decide +kernel
theorem dX7_keep_12 : decode cX7_keep 12 = .ok (.iconst 1, 1) := by decide +kernel
theorem dX7_keep_13 : decode cX7_keep 13 = .ok (.putfield 170, 3) := by decide +kernel
theorem dX7_keep_16 : decode cX7_keep 16 = .ok (.aload_n 0, 1) := by decide +kernel
theorem dX7_keep_17 : decode cX7_keep 17 = .ok (.getfield 10, 3) := by decide +kernel
theorem dX7_keep_20 : decode cX7_keep 20 = .ok (.getfield 156, 3) := by decide +kernel
theorem dX7_keep_23 : decode cX7_keep 23 = .ok (.ireturn, 1) := by decide +kernel
theorem dX7_restore_0 : decode cX7_restore 0 = .ok (.aload_n 0, 1) := by decide +kernel
theorem dX7_restore_1 : decode cX7_restore 1 = .ok (.getfield 170, 3) := by decide +kernel
theorem dX7_restore_4 : decode cX7_restore 4 = .ok (.ifCond .ne 6, 3) := by decide +kernel
theorem dX7_restore_7 : decode cX7_restore 7 = .ok (.bipush (-5), 2) := by decide +kernel
theorem dX7_restore_9 : decode cX7_restore 9 = .ok (.ireturn, 1) := by decide +kernel
theorem dX7_restore_10 : decode cX7_restore 10 = .ok (.aload_n 0, 1) := by decide +kernel
theorem dX7_restore_11 : decode cX7_restore 11 = .ok (.getfield 25, 3) := by decide +kernel
theorem dX7_restore_14 : decode cX7_restore 14 = .ok (.aload_n 0, 1) := by decide +kernel
theorem dX7_restore_15 : decode cX7_restore 15 = .ok (.getfield 10, 3) := by decide +kernel
theorem dX7_restore_18 : decode cX7_restore 18 = .ok (.invokevirtual 62, 3) := by decide +kernel
theorem dX7_restore_21 : decode cX7_restore 21 = .ok (.aload_n 0, 1) := by decide +kernel
theorem dX7_restore_22 : decode cX7_restore 22 = .ok (.getfield 10, 3) := by decide +kernel
theorem dX7_restore_25 : decode cX7_restore 25 = .ok (.aload_n 0, 1) := by decide +kernel
theorem dX7_restore_26 : decode cX7_restore 26 = .ok (.getfield 19, 3) := by decide +kernel
theorem dX7_restore_29 : decode cX7_restore 29 = .ok (.invokevirtual 141, 3) := by decide +kernel
theorem dX7_restore_32 : decode cX7_restore 32 = .ok (.aload_n 0, 1) := by decide +kernel
theorem dX7_restore_33 : decode cX7_restore 33 = .ok (.getfield 10, 3) := by decide +kernel
theorem dX7_restore_36 : decode cX7_restore 36 = .ok (.getfield 156, 3) := by decide +kernel
theorem dX7_restore_39 : decode cX7_restore 39 = .ok (.ireturn, 1) := by decide +kernel
theorem dX7_rate_0 : decode cX7_rate 0 = .ok (.iload_n 1, 1) := by decide +kernel
theorem dX7_rate_1 : decode cX7_rate 1 = .ok (.ifCond .lt 8, 3) := by decide +kernel
theorem dX7_rate_4 : decode cX7_rate 4 = .ok (.iload_n 1, 1) := by decide +kernel
theorem dX7_rate_5 : decode cX7_rate 5 = .ok (.iconst 3, 1) := by decide +kernel
theorem dX7_rate_6 : decode cX7_rate 6 = .ok (.if_icmp .lt 9, 3) := by decide +kernel
theorem dX7_rate_9 : decode cX7_rate 9 = .ok (.invokestatic 174, 3) := by decide +kernel
theorem dX7_rate_12 : decode cX7_rate 12 = .ok (.goto 12, 3) := by decide +kernel
theorem dX7_rate_15 : decode cX7_rate 15 = .ok (.aload_n 0, 1) := by decide +kernel
theorem dX7_rate_16 : decode cX7_rate 16 = .ok (.getfield 10, 3) := by decide +kernel
theorem dX7_rate_19 : decode cX7_rate 19 = .ok (.getfield 58, 3) := by decide +kernel
theorem dX7_rate_22 : decode cX7_rate 22 = .ok (.iload_n 1, 1) := by decide +kernel
theorem dX7_rate_23 : decode cX7_rate 23 = .ok (.faload, 1) := by decide +kernel
theorem dX7_rate_24 : decode cX7_rate 24 = .ok (.freturn, 1) := by decide +kernel
theorem dX7_number_0 : decode cX7_number 0 = .ok (.iload_n 1, 1) := by decide +kernel
theorem dX7_number_1 : decode cX7_number 1 = .ok (.ifCond .lt 8, 3) := by decide +kernel
theorem dX7_number_4 : decode cX7_number 4 = .ok (.iload_n 1, 1) := by decide +kernel
theorem dX7_number_5 : decode cX7_number 5 = .ok (.iconst 3, 1) := by decide +kernel
theorem dX7_number_6 : decode cX7_number 6 = .ok (.if_icmp .lt 7, 3) := by decide +kernel
theorem dX7_number_9 : decode cX7_number 9 = .ok (.iconst (-1), 1) := by decide +kernel
theorem dX7_number_10 : decode cX7_number 10 = .ok (.goto 12, 3) := by decide +kernel
theorem dX7_number_13 : decode cX7_number 13 = .ok (.aload_n 0, 1) := by decide +kernel
theorem dX7_number_14 : decode cX7_number 14 = .ok (.getfield 10, 3) := by decide +kernel
theorem dX7_number_17 : decode cX7_number 17 = .ok (.getfield 72, 3) := by decide +kernel
theorem dX7_number_20 : decode cX7_number 20 = .ok (.iload_n 1, 1) := by decide +kernel
theorem dX7_number_21 : decode cX7_number 21 = .ok (.iaload, 1) := by decide +kernel
theorem dX7_number_22 : decode cX7_number 22 = .ok (.ireturn, 1) := by decide +kernel
theorem dX7_member_0 : decode cX7_member 0 = .ok (.aload_n 0, 1) := by decide +kernel
theorem dX7_member_1 : decode cX7_member 1 = .ok (.getfield 10, 3) := by decide +kernel
theorem dX7_member_4 : decode cX7_member 4 = .ok (.getfield 75, 3) := by decide +kernel
theorem dX7_member_7 : decode cX7_member 7 = .ok (.astore_n 3, 1) := by decide +kernel
theorem dX7_member_8 : decode cX7_member 8 = .ok (.aload_n 3, 1) := by decide +kernel
theorem dX7_member_9 : decode cX7_member 9 = .ok (.iload_n 1, 1) := by decide +kernel
theorem dX7_member_10 : decode cX7_member 10 = .ok (.invokevirtual 88, 3) := by decide +kernel
theorem dX7_member_13 : decode cX7_member 13 = .ok (.ifCond .ne 5, 3) := by decide +kernel
theorem dX7_member_16 : decode cX7_member 16 = .ok (.iconst (-1), 1) := by decide +kernel
theorem dX7_member_17 : decode cX7_member 17 = .ok (.ireturn, 1) := by decide +kernel
theorem dX7_member_18 : decode cX7_member 18 = .ok (.iload_n 2, 1) := by decide +kernel
theorem dX7_member_19 : decode cX7_member 19 = .ok (.tableswitch 95 0 5 #[37, 44, 51, 61, 73, 85], 37) := by decide +kernel
theorem dX7_member_56 : decode cX7_member 56 = .ok (.aload_n 3, 1) := by decide +kernel
theorem dX7_member_57 : decode cX7_member 57 = .ok (.getfield 178, 3) := by decide +kernel
theorem dX7_member_60 : decode cX7_member 60 = .ok (.iload_n 1, 1) := by decide +kernel
theorem dX7_member_61 : decode cX7_member 61 = .ok (.iaload, 1) := by decide +kernel
theorem dX7_member_62 : decode cX7_member 62 = .ok (.ireturn, 1) := by decide +kernel
theorem dX7_member_63 : decode cX7_member 63 = .ok (.aload_n 3, 1) := by decide +kernel
theorem dX7_member_64 : decode cX7_member 64 = .ok (.getfield 93, 3) := by decide +kernel
theorem dX7_member_67 : decode cX7_member 67 = .ok (.iload_n 1, 1) := by decide +kernel
theorem dX7_member_68 : decode cX7_member 68 = .ok (.iaload, 1) := by decide +kernel
theorem dX7_member_69 : decode cX7_member 69 = .ok (.ireturn, 1) := by decide +kernel
theorem dX7_member_70 : decode cX7_member 70 = .ok (.aload_n 3, 1) := by decide +kernel
theorem dX7_member_71 : decode cX7_member 71 = .ok (.getfield 181, 3) := by decide +kernel
theorem dX7_member_74 : decode cX7_member 74 = .ok (.iload_n 1, 1) := by decide +kernel
theorem dX7_member_75 : decode cX7_member 75 = .ok (.iaload, 1) := by decide +kernel
theorem dX7_member_76 : decode cX7_member 76 = .ok (.ldc 184, 2) := by decide +kernel
theorem dX7_member_78 : decode cX7_member 78 = .ok (.iadd, 1) := by decide +kernel
theorem dX7_member_79 : decode cX7_member 79 = .ok (.ireturn, 1) := by decide +kernel
theorem dX7_member_80 : decode cX7_member 80 = .ok (.aload_n 0, 1) := by decide +kernel
theorem dX7_member_81 : decode cX7_member 81 = .ok (.getfield 10, 3) := by decide +kernel
theorem dX7_member_84 : decode cX7_member 84 = .ok (.getfield 107, 3) := by decide +kernel
theorem dX7_member_87 : decode cX7_member 87 = .ok (.iload_n 1, 1) := by decide +kernel
theorem dX7_member_88 : decode cX7_member 88 = .ok (.invokevirtual 185, 3) := by decide +kernel
theorem dX7_member_91 : decode cX7_member 91 = .ok (.ireturn, 1) := by decide +kernel
theorem dX7_member_92 : decode cX7_member 92 = .ok (.aload_n 0, 1) := by decide +kernel
theorem dX7_member_93 : decode cX7_member 93 = .ok (.getfield 10, 3) := by decide +kernel
theorem dX7_member_96 : decode cX7_member 96 = .ok (.getfield 107, 3) := by decide +kernel
theorem dX7_member_99 : decode cX7_member 99 = .ok (.iload_n 1, 1) := by decide +kernel
theorem dX7_member_100 : decode cX7_member 100 = .ok (.invokevirtual 188, 3) := by decide +kernel
theorem dX7_member_103 : decode cX7_member 103 = .ok (.ireturn, 1) := by decide +kernel
theorem dX7_member_104 : decode cX7_member 104 = .ok (.aload_n 3, 1) := by decide +kernel
theorem dX7_member_105 : decode cX7_member 105 = .ok (.getfield 191, 3) := by decide +kernel
theorem dX7_member_108 : decode cX7_member 108 = .ok (.iload_n 1, 1) := by decide +kernel
theorem dX7_member_109 : decode cX7_member 109 = .ok (.iaload, 1) := by decide +kernel
theorem dX7_member_110 : decode cX7_member 110 = .ok (.ldc 184, 2) := by decide +kernel
theorem dX7_member_112 : decode cX7_member 112 = .ok (.iadd, 1) := by decide +kernel
theorem dX7_member_113 : decode cX7_member 113 = .ok (.ireturn, 1) := by decide +kernel
theorem dX7_member_114 : decode cX7_member 114 = .ok (.bipush (-2), 2) := by decide +kernel
theorem dX7_member_116 : decode cX7_member 116 = .ok (.ireturn, 1) := by decide +kernel
theorem dX7_client_0 : decode cX7_client 0 = .ok (.aload_n 0, 1) := by decide +kernel
theorem dX7_client_1 : decode cX7_client 1 = .ok (.getfield 10, 3) := by decide +kernel
theorem dX7_client_4 : decode cX7_client 4 = .ok (.getfield 100, 3) := by decide +kernel
theorem dX7_client_7 : decode cX7_client 7 = .ok (.astore_n 3, 1) := by decide +kernel
theorem dX7_client_8 : decode cX7_client 8 = .ok (.aload_n 3, 1) := by decide +kernel
theorem dX7_client_9 : decode cX7_client 9 = .ok (.iload_n 1, 1) := by decide +kernel
theorem dX7_client_10 : decode cX7_client 10 = .ok (.invokevirtual 104, 3) := by decide +kernel
theorem dX7_client_13 : decode cX7_client 13 = .ok (.ifCond .ne 5, 3) := by decide +kernel
theorem dX7_client_16 : decode cX7_client 16 = .ok (.iconst (-1), 1) := by decide +kernel
theorem dX7_client_17 : decode cX7_client 17 = .ok (.ireturn, 1) := by decide +kernel
theorem dX7_client_18 : decode cX7_client 18 = .ok (.iload_n 2, 1) := by decide +kernel
theorem dX7_client_19 : decode cX7_client 19 = .ok (.tableswitch 62 0 3 #[29, 36, 43, 50], 29) := by decide +kernel
theorem dX7_client_48 : decode cX7_client 48 = .ok (.aload_n 3, 1) := by decide +kernel
theorem dX7_client_49 : decode cX7_client 49 = .ok (.getfield 194, 3) := by decide +kernel
theorem dX7_client_52 : decode cX7_client 52 = .ok (.iload_n 1, 1) := by decide +kernel
theorem dX7_client_53 : decode cX7_client 53 = .ok (.iaload, 1) := by decide +kernel
theorem dX7_client_54 : decode cX7_client 54 = .ok (.ireturn, 1) := by decide +kernel
theorem dX7_client_55 : decode cX7_client 55 = .ok (.aload_n 3, 1) := by decide +kernel
theorem dX7_client_56 : decode cX7_client 56 = .ok (.getfield 197, 3) := by decide +kernel
theorem dX7_client_59 : decode cX7_client 59 = .ok (.iload_n 1, 1) := by decide +kernel
theorem dX7_client_60 : decode cX7_client 60 = .ok (.iaload, 1) := by decide +kernel
theorem dX7_client_61 : decode cX7_client 61 = .ok (.ireturn, 1) := by decide +kernel
theorem dX7_client_62 : decode cX7_client 62 = .ok (.aload_n 3, 1) := by decide +kernel
theorem dX7_client_63 : decode cX7_client 63 = .ok (.getfield 200, 3) := by decide +kernel
theorem dX7_client_66 : decode cX7_client 66 = .ok (.iload_n 1, 1) := by decide +kernel
theorem dX7_client_67 : decode cX7_client 67 = .ok (.iaload, 1) := by decide +kernel
theorem dX7_client_68 : decode cX7_client 68 = .ok (.ireturn, 1) := by decide +kernel
theorem dX7_client_69 : decode cX7_client 69 = .ok (.aload_n 0, 1) := by decide +kernel
theorem dX7_client_70 : decode cX7_client 70 = .ok (.getfield 10, 3) := by decide +kernel
theorem dX7_client_73 : decode cX7_client 73 = .ok (.getfield 107, 3) := by decide +kernel
theorem dX7_client_76 : decode cX7_client 76 = .ok (.iload_n 1, 1) := by decide +kernel
theorem dX7_client_77 : decode cX7_client 77 = .ok (.invokevirtual 203, 3) := by decide +kernel
theorem dX7_client_80 : decode cX7_client 80 = .ok (.ireturn, 1) := by decide +kernel
theorem dX7_client_81 : decode cX7_client 81 = .ok (.bipush (-2), 2) := by decide +kernel
theorem dX7_client_83 : decode cX7_client 83 = .ok (.ireturn, 1) := by decide +kernel
theorem dX7_risk_0 : decode cX7_risk 0 = .ok (.aload_n 0, 1) := by decide +kernel
theorem dX7_risk_1 : decode cX7_risk 1 = .ok (.getfield 10, 3) := by decide +kernel
theorem dX7_risk_4 : decode cX7_risk 4 = .ok (.getfield 100, 3) := by decide +kernel
theorem dX7_risk_7 : decode cX7_risk 7 = .ok (.iload_n 1, 1) := by decide +kernel
theorem dX7_risk_8 : decode cX7_risk 8 = .ok (.invokevirtual 206, 3) := by decide +kernel
theorem dX7_risk_11 : decode cX7_risk 11 = .ok (.freturn, 1) := by decide +kernel
theorem dX7_lateness_0 : decode cX7_lateness 0 = .ok (.aload_n 0, 1) := by decide +kernel
theorem dX7_lateness_1 : decode cX7_lateness 1 = .ok (.getfield 10, 3) := by decide +kernel
theorem dX7_lateness_4 : decode cX7_lateness 4 = .ok (.getfield 100, 3) := by decide +kernel
theorem dX7_lateness_7 : decode cX7_lateness 7 = .ok (.iload_n 1, 1) := by decide +kernel
theorem dX7_lateness_8 : decode cX7_lateness 8 = .ok (.invokevirtual 209, 3) := by decide +kernel
theorem dX7_lateness_11 : decode cX7_lateness 11 = .ok (.freturn, 1) := by decide +kernel
theorem dX7_invoice_0 : decode cX7_invoice 0 = .ok (.aload_n 0, 1) := by decide +kernel
theorem dX7_invoice_1 : decode cX7_invoice 1 = .ok (.getfield 10, 3) := by decide +kernel
theorem dX7_invoice_4 : decode cX7_invoice 4 = .ok (.getfield 107, 3) := by decide +kernel
theorem dX7_invoice_7 : decode cX7_invoice 7 = .ok (.astore_n 3, 1) := by decide +kernel
theorem dX7_invoice_8 : decode cX7_invoice 8 = .ok (.aload_n 3, 1) := by decide +kernel
theorem dX7_invoice_9 : decode cX7_invoice 9 = .ok (.iload_n 1, 1) := by decide +kernel
theorem dX7_invoice_10 : decode cX7_invoice 10 = .ok (.invokevirtual 117, 3) := by decide +kernel
theorem dX7_invoice_13 : decode cX7_invoice 13 = .ok (.ifCond .ne 5, 3) := by decide +kernel
theorem dX7_invoice_16 : decode cX7_invoice 16 = .ok (.iconst (-1), 1) := by decide +kernel
theorem dX7_invoice_17 : decode cX7_invoice 17 = .ok (.ireturn, 1) := by decide +kernel
theorem dX7_invoice_18 : decode cX7_invoice 18 = .ok (.iload_n 2, 1) := by decide +kernel
theorem dX7_invoice_19 : decode cX7_invoice 19 = .ok (.tableswitch 162 0 10 #[57, 64, 71, 78, 85, 92, 99, 106, 118, 128, 145], 57) := by decide +kernel
theorem dX7_invoice_76 : decode cX7_invoice 76 = .ok (.aload_n 3, 1) := by decide +kernel
theorem dX7_invoice_77 : decode cX7_invoice 77 = .ok (.getfield 212, 3) := by decide +kernel
theorem dX7_invoice_80 : decode cX7_invoice 80 = .ok (.iload_n 1, 1) := by decide +kernel
theorem dX7_invoice_81 : decode cX7_invoice 81 = .ok (.iaload, 1) := by decide +kernel
theorem dX7_invoice_82 : decode cX7_invoice 82 = .ok (.ireturn, 1) := by decide +kernel
theorem dX7_invoice_83 : decode cX7_invoice 83 = .ok (.aload_n 3, 1) := by decide +kernel
theorem dX7_invoice_84 : decode cX7_invoice 84 = .ok (.getfield 215, 3) := by decide +kernel
theorem dX7_invoice_87 : decode cX7_invoice 87 = .ok (.iload_n 1, 1) := by decide +kernel
theorem dX7_invoice_88 : decode cX7_invoice 88 = .ok (.iaload, 1) := by decide +kernel
theorem dX7_invoice_89 : decode cX7_invoice 89 = .ok (.ireturn, 1) := by decide +kernel
theorem dX7_invoice_90 : decode cX7_invoice 90 = .ok (.aload_n 3, 1) := by decide +kernel
theorem dX7_invoice_91 : decode cX7_invoice 91 = .ok (.getfield 218, 3) := by decide +kernel
theorem dX7_invoice_94 : decode cX7_invoice 94 = .ok (.iload_n 1, 1) := by decide +kernel
theorem dX7_invoice_95 : decode cX7_invoice 95 = .ok (.iaload, 1) := by decide +kernel
theorem dX7_invoice_96 : decode cX7_invoice 96 = .ok (.ireturn, 1) := by decide +kernel
theorem dX7_invoice_97 : decode cX7_invoice 97 = .ok (.aload_n 3, 1) := by decide +kernel
theorem dX7_invoice_98 : decode cX7_invoice 98 = .ok (.getfield 221, 3) := by decide +kernel
theorem dX7_invoice_101 : decode cX7_invoice 101 = .ok (.iload_n 1, 1) := by decide +kernel
theorem dX7_invoice_102 : decode cX7_invoice 102 = .ok (.iaload, 1) := by decide +kernel
theorem dX7_invoice_103 : decode cX7_invoice 103 = .ok (.ireturn, 1) := by decide +kernel
theorem dX7_invoice_104 : decode cX7_invoice 104 = .ok (.aload_n 3, 1) := by decide +kernel
theorem dX7_invoice_105 : decode cX7_invoice 105 = .ok (.getfield 224, 3) := by decide +kernel
theorem dX7_invoice_108 : decode cX7_invoice 108 = .ok (.iload_n 1, 1) := by decide +kernel
theorem dX7_invoice_109 : decode cX7_invoice 109 = .ok (.iaload, 1) := by decide +kernel
theorem dX7_invoice_110 : decode cX7_invoice 110 = .ok (.ireturn, 1) := by decide +kernel
theorem dX7_invoice_111 : decode cX7_invoice 111 = .ok (.aload_n 3, 1) := by decide +kernel
theorem dX7_invoice_112 : decode cX7_invoice 112 = .ok (.getfield 227, 3) := by decide +kernel
theorem dX7_invoice_115 : decode cX7_invoice 115 = .ok (.iload_n 1, 1) := by decide +kernel
theorem dX7_invoice_116 : decode cX7_invoice 116 = .ok (.iaload, 1) := by decide +kernel
theorem dX7_invoice_117 : decode cX7_invoice 117 = .ok (.ireturn, 1) := by decide +kernel
theorem dX7_invoice_118 : decode cX7_invoice 118 = .ok (.aload_n 3, 1) := by decide +kernel
theorem dX7_invoice_119 : decode cX7_invoice 119 = .ok (.getfield 230, 3) := by decide +kernel
theorem dX7_invoice_122 : decode cX7_invoice 122 = .ok (.iload_n 1, 1) := by decide +kernel
theorem dX7_invoice_123 : decode cX7_invoice 123 = .ok (.iaload, 1) := by decide +kernel
theorem dX7_invoice_124 : decode cX7_invoice 124 = .ok (.ireturn, 1) := by decide +kernel
theorem dX7_invoice_125 : decode cX7_invoice 125 = .ok (.aload_n 0, 1) := by decide +kernel
theorem dX7_invoice_126 : decode cX7_invoice 126 = .ok (.getfield 10, 3) := by decide +kernel
theorem dX7_invoice_129 : decode cX7_invoice 129 = .ok (.iload_n 1, 1) := by decide +kernel
theorem dX7_invoice_130 : decode cX7_invoice 130 = .ok (.invokevirtual 232, 3) := by decide +kernel
theorem dX7_invoice_133 : decode cX7_invoice 133 = .ok (.ldc 235, 2) := by decide +kernel
theorem dX7_invoice_135 : decode cX7_invoice 135 = .ok (.iadd, 1) := by decide +kernel
theorem dX7_invoice_136 : decode cX7_invoice 136 = .ok (.ireturn, 1) := by decide +kernel
theorem dX7_invoice_137 : decode cX7_invoice 137 = .ok (.aload_n 0, 1) := by decide +kernel
theorem dX7_invoice_138 : decode cX7_invoice 138 = .ok (.getfield 10, 3) := by decide +kernel
theorem dX7_invoice_141 : decode cX7_invoice 141 = .ok (.iload_n 1, 1) := by decide +kernel
theorem dX7_invoice_142 : decode cX7_invoice 142 = .ok (.iconst 0, 1) := by decide +kernel
theorem dX7_invoice_143 : decode cX7_invoice 143 = .ok (.invokevirtual 236, 3) := by decide +kernel
theorem dX7_invoice_146 : decode cX7_invoice 146 = .ok (.ireturn, 1) := by decide +kernel
theorem dX7_invoice_147 : decode cX7_invoice 147 = .ok (.aload_n 0, 1) := by decide +kernel
theorem dX7_invoice_148 : decode cX7_invoice 148 = .ok (.getfield 10, 3) := by decide +kernel
theorem dX7_invoice_151 : decode cX7_invoice 151 = .ok (.iload_n 1, 1) := by decide +kernel
theorem dX7_invoice_152 : decode cX7_invoice 152 = .ok (.invokevirtual 118, 3) := by decide +kernel
theorem dX7_invoice_155 : decode cX7_invoice 155 = .ok (.ifCond .eq 7, 3) := by decide +kernel
theorem dX7_invoice_158 : decode cX7_invoice 158 = .ok (.iconst 1, 1) := by decide +kernel
theorem dX7_invoice_159 : decode cX7_invoice 159 = .ok (.goto 4, 3) := by decide +kernel
theorem dX7_invoice_162 : decode cX7_invoice 162 = .ok (.iconst 0, 1) := by decide +kernel
theorem dX7_invoice_163 : decode cX7_invoice 163 = .ok (.ireturn, 1) := by decide +kernel
theorem dX7_invoice_164 : decode cX7_invoice 164 = .ok (.aload_n 0, 1) := by decide +kernel
theorem dX7_invoice_165 : decode cX7_invoice 165 = .ok (.getfield 10, 3) := by decide +kernel
theorem dX7_invoice_168 : decode cX7_invoice 168 = .ok (.iload_n 1, 1) := by decide +kernel
theorem dX7_invoice_169 : decode cX7_invoice 169 = .ok (.invokevirtual 131, 3) := by decide +kernel
theorem dX7_invoice_172 : decode cX7_invoice 172 = .ok (.ifCond .eq 7, 3) := by decide +kernel
theorem dX7_invoice_175 : decode cX7_invoice 175 = .ok (.iconst 1, 1) := by decide +kernel
theorem dX7_invoice_176 : decode cX7_invoice 176 = .ok (.goto 4, 3) := by decide +kernel
theorem dX7_invoice_179 : decode cX7_invoice 179 = .ok (.iconst 0, 1) := by decide +kernel
theorem dX7_invoice_180 : decode cX7_invoice 180 = .ok (.ireturn, 1) := by decide +kernel
theorem dX7_invoice_181 : decode cX7_invoice 181 = .ok (.bipush (-2), 2) := by decide +kernel
theorem dX7_invoice_183 : decode cX7_invoice 183 = .ok (.ireturn, 1) := by decide +kernel
theorem dX7_rateIn_0 : decode cX7_rateIn 0 = .ok (.iload_n 2, 1) := by decide +kernel
theorem dX7_rateIn_1 : decode cX7_rateIn 1 = .ok (.ifCond .lt 10, 3) := by decide +kernel
theorem dX7_rateIn_4 : decode cX7_rateIn 4 = .ok (.iload_n 2, 1) := by decide +kernel
theorem dX7_rateIn_5 : decode cX7_rateIn 5 = .ok (.sipush 1000, 3) := by decide +kernel
theorem dX7_rateIn_8 : decode cX7_rateIn 8 = .ok (.if_icmp .le 9, 3) := by decide +kernel
theorem dX7_rateIn_11 : decode cX7_rateIn 11 = .ok (.invokestatic 174, 3) := by decide +kernel
theorem dX7_rateIn_14 : decode cX7_rateIn 14 = .ok (.goto 12, 3) := by decide +kernel
theorem dX7_rateIn_17 : decode cX7_rateIn 17 = .ok (.aload_n 0, 1) := by decide +kernel
theorem dX7_rateIn_18 : decode cX7_rateIn 18 = .ok (.getfield 10, 3) := by decide +kernel
theorem dX7_rateIn_21 : decode cX7_rateIn 21 = .ok (.iload_n 1, 1) := by decide +kernel
theorem dX7_rateIn_22 : decode cX7_rateIn 22 = .ok (.iload_n 2, 1) := by decide +kernel
theorem dX7_rateIn_23 : decode cX7_rateIn 23 = .ok (.invokevirtual 239, 3) := by decide +kernel
theorem dX7_rateIn_26 : decode cX7_rateIn 26 = .ok (.freturn, 1) := by decide +kernel
theorem dX7_worth_0 : decode cX7_worth 0 = .ok (.aload_n 0, 1) := by decide +kernel
theorem dX7_worth_1 : decode cX7_worth 1 = .ok (.getfield 10, 3) := by decide +kernel
theorem dX7_worth_4 : decode cX7_worth 4 = .ok (.iload_n 1, 1) := by decide +kernel
theorem dX7_worth_5 : decode cX7_worth 5 = .ok (.invokevirtual 243, 3) := by decide +kernel
theorem dX7_worth_8 : decode cX7_worth 8 = .ok (.freturn, 1) := by decide +kernel
theorem dX7_best_0 : decode cX7_best 0 = .ok (.iload_n 1, 1) := by decide +kernel
theorem dX7_best_1 : decode cX7_best 1 = .ok (.ifCond .ge 6, 3) := by decide +kernel
theorem dX7_best_4 : decode cX7_best 4 = .ok (.bipush (-2), 2) := by decide +kernel
theorem dX7_best_6 : decode cX7_best 6 = .ok (.ireturn, 1) := by decide +kernel
theorem dX7_best_7 : decode cX7_best 7 = .ok (.aload_n 0, 1) := by decide +kernel
theorem dX7_best_8 : decode cX7_best 8 = .ok (.getfield 39, 3) := by decide +kernel
theorem dX7_best_11 : decode cX7_best 11 = .ok (.iconst 0, 1) := by decide +kernel
theorem dX7_best_12 : decode cX7_best 12 = .ok (.putfield 246, 3) := by decide +kernel
theorem dX7_best_15 : decode cX7_best 15 = .ok (.iconst 0, 1) := by decide +kernel
theorem dX7_best_16 : decode cX7_best 16 = .ok (.istore_n 2, 1) := by decide +kernel
theorem dX7_best_17 : decode cX7_best 17 = .ok (.iload_n 2, 1) := by decide +kernel
theorem dX7_best_18 : decode cX7_best 18 = .ok (.aload_n 0, 1) := by decide +kernel
theorem dX7_best_19 : decode cX7_best 19 = .ok (.getfield 10, 3) := by decide +kernel
theorem dX7_best_22 : decode cX7_best 22 = .ok (.getfield 107, 3) := by decide +kernel
theorem dX7_best_25 : decode cX7_best 25 = .ok (.getfield 111, 3) := by decide +kernel
theorem dX7_best_28 : decode cX7_best 28 = .ok (.if_icmp .ge 36, 3) := by decide +kernel
theorem dX7_best_31 : decode cX7_best 31 = .ok (.aload_n 0, 1) := by decide +kernel
theorem dX7_best_32 : decode cX7_best 32 = .ok (.getfield 10, 3) := by decide +kernel
theorem dX7_best_35 : decode cX7_best 35 = .ok (.iload_n 2, 1) := by decide +kernel
theorem dX7_best_36 : decode cX7_best 36 = .ok (.invokevirtual 118, 3) := by decide +kernel
theorem dX7_best_39 : decode cX7_best 39 = .ok (.ifCond .eq 19, 3) := by decide +kernel
theorem dX7_best_42 : decode cX7_best 42 = .ok (.aload_n 0, 1) := by decide +kernel
theorem dX7_best_43 : decode cX7_best 43 = .ok (.getfield 39, 3) := by decide +kernel
theorem dX7_best_46 : decode cX7_best 46 = .ok (.iload_n 2, 1) := by decide +kernel
theorem dX7_best_47 : decode cX7_best 47 = .ok (.aload_n 0, 1) := by decide +kernel
theorem dX7_best_48 : decode cX7_best 48 = .ok (.getfield 10, 3) := by decide +kernel
theorem dX7_best_51 : decode cX7_best 51 = .ok (.iload_n 2, 1) := by decide +kernel
theorem dX7_best_52 : decode cX7_best 52 = .ok (.invokevirtual 243, 3) := by decide +kernel
theorem dX7_best_55 : decode cX7_best 55 = .ok (.invokevirtual 247, 3) := by decide +kernel
theorem dX7_best_58 : decode cX7_best 58 = .ok (.iinc 2 1, 3) := by decide +kernel
theorem dX7_best_61 : decode cX7_best 61 = .ok (.goto (-44), 3) := by decide +kernel
theorem dX7_best_64 : decode cX7_best 64 = .ok (.iload_n 1, 1) := by decide +kernel
theorem dX7_best_65 : decode cX7_best 65 = .ok (.aload_n 0, 1) := by decide +kernel
theorem dX7_best_66 : decode cX7_best 66 = .ok (.getfield 39, 3) := by decide +kernel
theorem dX7_best_69 : decode cX7_best 69 = .ok (.getfield 246, 3) := by decide +kernel
theorem dX7_best_72 : decode cX7_best 72 = .ok (.if_icmp .ge 14, 3) := by decide +kernel
theorem dX7_best_75 : decode cX7_best 75 = .ok (.aload_n 0, 1) := by decide +kernel
theorem dX7_best_76 : decode cX7_best 76 = .ok (.getfield 39, 3) := by decide +kernel
theorem dX7_best_79 : decode cX7_best 79 = .ok (.iload_n 1, 1) := by decide +kernel
theorem dX7_best_80 : decode cX7_best 80 = .ok (.invokevirtual 251, 3) := by decide +kernel
theorem dX7_best_83 : decode cX7_best 83 = .ok (.goto 5, 3) := by decide +kernel
theorem dX7_best_86 : decode cX7_best 86 = .ok (.bipush (-5), 2) := by decide +kernel
theorem dX7_best_88 : decode cX7_best 88 = .ok (.ireturn, 1) := by decide +kernel
theorem dX7_worthlessIn_0 : decode cX7_worthlessIn 0 = .ok (.aload_n 0, 1) := by decide +kernel
theorem dX7_worthlessIn_1 : decode cX7_worthlessIn 1 = .ok (.getfield 10, 3) := by decide +kernel
theorem dX7_worthlessIn_4 : decode cX7_worthlessIn 4 = .ok (.getfield 107, 3) := by decide +kernel
theorem dX7_worthlessIn_7 : decode cX7_worthlessIn 7 = .ok (.iload_n 1, 1) := by decide +kernel
theorem dX7_worthlessIn_8 : decode cX7_worthlessIn 8 = .ok (.invokevirtual 117, 3) := by decide +kernel
theorem dX7_worthlessIn_11 : decode cX7_worthlessIn 11 = .ok (.ifCond .ne 5, 3) := by decide +kernel
theorem dX7_worthlessIn_14 : decode cX7_worthlessIn 14 = .ok (.iconst (-1), 1) := by decide +kernel
theorem dX7_worthlessIn_15 : decode cX7_worthlessIn 15 = .ok (.ireturn, 1) := by decide +kernel
theorem dX7_worthlessIn_16 : decode cX7_worthlessIn 16 = .ok (.iconst 0, 1) := by decide +kernel
theorem dX7_worthlessIn_17 : decode cX7_worthlessIn 17 = .ok (.istore_n 2, 1) := by decide +kernel
theorem dX7_worthlessIn_18 : decode cX7_worthlessIn 18 = .ok (.iload_n 2, 1) := by decide +kernel
theorem dX7_worthlessIn_19 : decode cX7_worthlessIn 19 = .ok (.sipush 1000, 3) := by decide +kernel
theorem dX7_worthlessIn_22 : decode cX7_worthlessIn 22 = .ok (.if_icmp .gt 23, 3) := by decide +kernel
theorem dX7_worthlessIn_25 : decode cX7_worthlessIn 25 = .ok (.aload_n 0, 1) := by decide +kernel
theorem dX7_worthlessIn_26 : decode cX7_worthlessIn 26 = .ok (.getfield 10, 3) := by decide +kernel
theorem dX7_worthlessIn_29 : decode cX7_worthlessIn 29 = .ok (.iload_n 1, 1) := by decide +kernel
theorem dX7_worthlessIn_30 : decode cX7_worthlessIn 30 = .ok (.iload_n 2, 1) := by decide +kernel
theorem dX7_worthlessIn_31 : decode cX7_worthlessIn 31 = .ok (.invokevirtual 236, 3) := by decide +kernel
theorem dX7_worthlessIn_34 : decode cX7_worthlessIn 34 = .ok (.ifCond .ne 5, 3) := by decide +kernel
theorem dX7_worthlessIn_37 : decode cX7_worthlessIn 37 = .ok (.iload_n 2, 1) := by decide +kernel
theorem dX7_worthlessIn_38 : decode cX7_worthlessIn 38 = .ok (.ireturn, 1) := by decide +kernel
theorem dX7_worthlessIn_39 : decode cX7_worthlessIn 39 = .ok (.iinc 2 1, 3) := by decide +kernel
theorem dX7_worthlessIn_42 : decode cX7_worthlessIn 42 = .ok (.goto (-24), 3) := by decide +kernel
theorem dX7_worthlessIn_45 : decode cX7_worthlessIn 45 = .ok (.bipush (-5), 2) := by decide +kernel
theorem dX7_worthlessIn_47 : decode cX7_worthlessIn 47 = .ok (.ireturn, 1) := by decide +kernel
theorem dX7_exposure_0 : decode cX7_exposure 0 = .ok (.aload_n 0, 1) := by decide +kernel
theorem dX7_exposure_1 : decode cX7_exposure 1 = .ok (.getfield 10, 3) := by decide +kernel
theorem dX7_exposure_4 : decode cX7_exposure 4 = .ok (.getfield 75, 3) := by decide +kernel
theorem dX7_exposure_7 : decode cX7_exposure 7 = .ok (.invokevirtual 254, 3) := by decide +kernel
theorem dX7_exposure_10 : decode cX7_exposure 10 = .ok (.istore_n 1, 1) := by decide +kernel
theorem dX7_exposure_11 : decode cX7_exposure 11 = .ok (.iload_n 1, 1) := by decide +kernel
theorem dX7_exposure_12 : decode cX7_exposure 12 = .ok (.ifCond .ne 9, 3) := by decide +kernel
theorem dX7_exposure_15 : decode cX7_exposure 15 = .ok (.invokestatic 174, 3) := by decide +kernel
theorem dX7_exposure_18 : decode cX7_exposure 18 = .ok (.goto 17, 3) := by decide +kernel
theorem dX7_exposure_21 : decode cX7_exposure 21 = .ok (.aload_n 0, 1) := by decide +kernel
theorem dX7_exposure_22 : decode cX7_exposure 22 = .ok (.getfield 10, 3) := by decide +kernel
theorem dX7_exposure_25 : decode cX7_exposure 25 = .ok (.getfield 107, 3) := by decide +kernel
theorem dX7_exposure_28 : decode cX7_exposure 28 = .ok (.invokevirtual 257, 3) := by decide +kernel
theorem dX7_exposure_31 : decode cX7_exposure 31 = .ok (.i2f, 1) := by decide +kernel
theorem dX7_exposure_32 : decode cX7_exposure 32 = .ok (.iload_n 1, 1) := by decide +kernel
theorem dX7_exposure_33 : decode cX7_exposure 33 = .ok (.i2f, 1) := by decide +kernel
theorem dX7_exposure_34 : decode cX7_exposure 34 = .ok (.fdiv, 1) := by decide +kernel
theorem dX7_exposure_35 : decode cX7_exposure 35 = .ok (.freturn, 1) := by decide +kernel
theorem dX7_count_0 : decode cX7_count 0 = .ok (.iload_n 1, 1) := by decide +kernel
theorem dX7_count_1 : decode cX7_count 1 = .ok (.tableswitch 235 0 15 #[79, 87, 98, 109, 117, 128, 139, 151, 163, 175, 187, 195, 203, 211, 219, 227], 79) := by decide +kernel
theorem dX7_count_80 : decode cX7_count 80 = .ok (.aload_n 0, 1) := by decide +kernel
theorem dX7_count_81 : decode cX7_count 81 = .ok (.getfield 10, 3) := by decide +kernel
theorem dX7_count_84 : decode cX7_count 84 = .ok (.getfield 156, 3) := by decide +kernel
theorem dX7_count_87 : decode cX7_count 87 = .ok (.ireturn, 1) := by decide +kernel
theorem dX7_count_88 : decode cX7_count 88 = .ok (.aload_n 0, 1) := by decide +kernel
theorem dX7_count_89 : decode cX7_count 89 = .ok (.getfield 10, 3) := by decide +kernel
theorem dX7_count_92 : decode cX7_count 92 = .ok (.getfield 97, 3) := by decide +kernel
theorem dX7_count_95 : decode cX7_count 95 = .ok (.ldc 184, 2) := by decide +kernel
theorem dX7_count_97 : decode cX7_count 97 = .ok (.iadd, 1) := by decide +kernel
theorem dX7_count_98 : decode cX7_count 98 = .ok (.ireturn, 1) := by decide +kernel
theorem dX7_count_99 : decode cX7_count 99 = .ok (.aload_n 0, 1) := by decide +kernel
theorem dX7_count_100 : decode cX7_count 100 = .ok (.getfield 10, 3) := by decide +kernel
theorem dX7_count_103 : decode cX7_count 103 = .ok (.getfield 75, 3) := by decide +kernel
theorem dX7_count_106 : decode cX7_count 106 = .ok (.invokevirtual 254, 3) := by decide +kernel
theorem dX7_count_109 : decode cX7_count 109 = .ok (.ireturn, 1) := by decide +kernel
theorem dX7_count_110 : decode cX7_count 110 = .ok (.aload_n 0, 1) := by decide +kernel
theorem dX7_count_111 : decode cX7_count 111 = .ok (.getfield 10, 3) := by decide +kernel
theorem dX7_count_114 : decode cX7_count 114 = .ok (.invokevirtual 260, 3) := by decide +kernel
theorem dX7_count_117 : decode cX7_count 117 = .ok (.ireturn, 1) := by decide +kernel
theorem dX7_count_118 : decode cX7_count 118 = .ok (.aload_n 0, 1) := by decide +kernel
theorem dX7_count_119 : decode cX7_count 119 = .ok (.getfield 10, 3) := by decide +kernel
theorem dX7_count_122 : decode cX7_count 122 = .ok (.getfield 75, 3) := by decide +kernel
theorem dX7_count_125 : decode cX7_count 125 = .ok (.getfield 79, 3) := by decide +kernel
theorem dX7_count_128 : decode cX7_count 128 = .ok (.ireturn, 1) := by decide +kernel
theorem dX7_count_129 : decode cX7_count 129 = .ok (.aload_n 0, 1) := by decide +kernel
theorem dX7_count_130 : decode cX7_count 130 = .ok (.getfield 10, 3) := by decide +kernel
theorem dX7_count_133 : decode cX7_count 133 = .ok (.getfield 107, 3) := by decide +kernel
theorem dX7_count_136 : decode cX7_count 136 = .ok (.getfield 111, 3) := by decide +kernel
theorem dX7_count_139 : decode cX7_count 139 = .ok (.ireturn, 1) := by decide +kernel
theorem dX7_count_140 : decode cX7_count 140 = .ok (.aload_n 0, 1) := by decide +kernel
theorem dX7_count_141 : decode cX7_count 141 = .ok (.getfield 10, 3) := by decide +kernel
theorem dX7_count_144 : decode cX7_count 144 = .ok (.getfield 107, 3) := by decide +kernel
theorem dX7_count_147 : decode cX7_count 147 = .ok (.iconst 0, 1) := by decide +kernel
theorem dX7_count_148 : decode cX7_count 148 = .ok (.invokevirtual 263, 3) := by decide +kernel
theorem dX7_count_151 : decode cX7_count 151 = .ok (.ireturn, 1) := by decide +kernel
theorem dX7_count_152 : decode cX7_count 152 = .ok (.aload_n 0, 1) := by decide +kernel
theorem dX7_count_153 : decode cX7_count 153 = .ok (.getfield 10, 3) := by decide +kernel
theorem dX7_count_156 : decode cX7_count 156 = .ok (.getfield 107, 3) := by decide +kernel
theorem dX7_count_159 : decode cX7_count 159 = .ok (.iconst 1, 1) := by decide +kernel
theorem dX7_count_160 : decode cX7_count 160 = .ok (.invokevirtual 263, 3) := by decide +kernel
theorem dX7_count_163 : decode cX7_count 163 = .ok (.ireturn, 1) := by decide +kernel
theorem dX7_count_164 : decode cX7_count 164 = .ok (.aload_n 0, 1) := by decide +kernel
theorem dX7_count_165 : decode cX7_count 165 = .ok (.getfield 10, 3) := by decide +kernel
theorem dX7_count_168 : decode cX7_count 168 = .ok (.getfield 107, 3) := by decide +kernel
theorem dX7_count_171 : decode cX7_count 171 = .ok (.iconst 2, 1) := by decide +kernel
theorem dX7_count_172 : decode cX7_count 172 = .ok (.invokevirtual 263, 3) := by decide +kernel
theorem dX7_count_175 : decode cX7_count 175 = .ok (.ireturn, 1) := by decide +kernel
theorem dX7_count_176 : decode cX7_count 176 = .ok (.aload_n 0, 1) := by decide +kernel
theorem dX7_count_177 : decode cX7_count 177 = .ok (.getfield 10, 3) := by decide +kernel
theorem dX7_count_180 : decode cX7_count 180 = .ok (.getfield 107, 3) := by decide +kernel
theorem dX7_count_183 : decode cX7_count 183 = .ok (.iconst 3, 1) := by decide +kernel
theorem dX7_count_184 : decode cX7_count 184 = .ok (.invokevirtual 263, 3) := by decide +kernel
theorem dX7_count_187 : decode cX7_count 187 = .ok (.ireturn, 1) := by decide +kernel
theorem dX7_count_188 : decode cX7_count 188 = .ok (.aload_n 0, 1) := by decide +kernel
theorem dX7_count_189 : decode cX7_count 189 = .ok (.getfield 10, 3) := by decide +kernel
theorem dX7_count_192 : decode cX7_count 192 = .ok (.getfield 266, 3) := by decide +kernel
theorem dX7_count_195 : decode cX7_count 195 = .ok (.ireturn, 1) := by decide +kernel
theorem dX7_count_196 : decode cX7_count 196 = .ok (.aload_n 0, 1) := by decide +kernel
theorem dX7_count_197 : decode cX7_count 197 = .ok (.getfield 10, 3) := by decide +kernel
theorem dX7_count_200 : decode cX7_count 200 = .ok (.getfield 269, 3) := by decide +kernel
theorem dX7_count_203 : decode cX7_count 203 = .ok (.ireturn, 1) := by decide +kernel
theorem dX7_count_204 : decode cX7_count 204 = .ok (.aload_n 0, 1) := by decide +kernel
theorem dX7_count_205 : decode cX7_count 205 = .ok (.getfield 10, 3) := by decide +kernel
theorem dX7_count_208 : decode cX7_count 208 = .ok (.getfield 272, 3) := by decide +kernel
theorem dX7_count_211 : decode cX7_count 211 = .ok (.ireturn, 1) := by decide +kernel
theorem dX7_count_212 : decode cX7_count 212 = .ok (.aload_n 0, 1) := by decide +kernel
theorem dX7_count_213 : decode cX7_count 213 = .ok (.getfield 10, 3) := by decide +kernel
theorem dX7_count_216 : decode cX7_count 216 = .ok (.getfield 275, 3) := by decide +kernel
theorem dX7_count_219 : decode cX7_count 219 = .ok (.ireturn, 1) := by decide +kernel
theorem dX7_count_220 : decode cX7_count 220 = .ok (.aload_n 0, 1) := by decide +kernel
theorem dX7_count_221 : decode cX7_count 221 = .ok (.getfield 25, 3) := by decide +kernel
theorem dX7_count_224 : decode cX7_count 224 = .ok (.getfield 166, 3) := by decide +kernel
theorem dX7_count_227 : decode cX7_count 227 = .ok (.ireturn, 1) := by decide +kernel
theorem dX7_count_228 : decode cX7_count 228 = .ok (.aload_n 0, 1) := by decide +kernel
theorem dX7_count_229 : decode cX7_count 229 = .ok (.getfield 32, 3) := by decide +kernel
theorem dX7_count_232 : decode cX7_count 232 = .ok (.getfield 163, 3) := by decide +kernel
theorem dX7_count_235 : decode cX7_count 235 = .ok (.ireturn, 1) := by decide +kernel
theorem dX7_count_236 : decode cX7_count 236 = .ok (.bipush (-2), 2) := by decide +kernel
theorem dX7_count_238 : decode cX7_count 238 = .ok (.ireturn, 1) := by decide +kernel
theorem dX7_noNumber_0 : decode cX7_noNumber 0 = .ok (.ldc_w 278, 3) := by decide +kernel
theorem dX7_noNumber_3 : decode cX7_noNumber 3 = .ok (.freturn, 1) := by decide +kernel
theorem dX7_floatOf_0 : decode cX7_floatOf 0 = .ok (.iload_n 0, 1) := by decide +kernel
theorem dX7_floatOf_1 : decode cX7_floatOf 1 = .ok (.bipush 23, 2) := by decide +kernel
theorem dX7_floatOf_3 : decode cX7_floatOf 3 = .ok (.iushr, 1) := by decide +kernel
theorem dX7_floatOf_4 : decode cX7_floatOf 4 = .ok (.istore_n 1, 1) := by decide +kernel
theorem dX7_floatOf_5 : decode cX7_floatOf 5 = .ok (.iload_n 0, 1) := by decide +kernel
theorem dX7_floatOf_6 : decode cX7_floatOf 6 = .ok (.ldc_w 279, 3) := by decide +kernel
theorem dX7_floatOf_9 : decode cX7_floatOf 9 = .ok (.iand, 1) := by decide +kernel
theorem dX7_floatOf_10 : decode cX7_floatOf 10 = .ok (.istore_n 2, 1) := by decide +kernel
theorem dX7_floatOf_11 : decode cX7_floatOf 11 = .ok (.iload_n 1, 1) := by decide +kernel
theorem dX7_floatOf_12 : decode cX7_floatOf 12 = .ok (.ifCond .ne 7, 3) := by decide +kernel
theorem dX7_floatOf_15 : decode cX7_floatOf 15 = .ok (.iconst 1, 1) := by decide +kernel
theorem dX7_floatOf_16 : decode cX7_floatOf 16 = .ok (.goto 4, 3) := by decide +kernel
theorem dX7_floatOf_19 : decode cX7_floatOf 19 = .ok (.iload_n 1, 1) := by decide +kernel
theorem dX7_floatOf_20 : decode cX7_floatOf 20 = .ok (.istore_n 3, 1) := by decide +kernel
theorem dX7_floatOf_21 : decode cX7_floatOf 21 = .ok (.iload_n 1, 1) := by decide +kernel
theorem dX7_floatOf_22 : decode cX7_floatOf 22 = .ok (.ifCond .ne 7, 3) := by decide +kernel
theorem dX7_floatOf_25 : decode cX7_floatOf 25 = .ok (.iload_n 2, 1) := by decide +kernel
theorem dX7_floatOf_26 : decode cX7_floatOf 26 = .ok (.goto 8, 3) := by decide +kernel
theorem dX7_floatOf_29 : decode cX7_floatOf 29 = .ok (.iload_n 2, 1) := by decide +kernel
theorem dX7_floatOf_30 : decode cX7_floatOf 30 = .ok (.ldc_w 280, 3) := by decide +kernel
theorem dX7_floatOf_33 : decode cX7_floatOf 33 = .ok (.ior, 1) := by decide +kernel
theorem dX7_floatOf_34 : decode cX7_floatOf 34 = .ok (.i2f, 1) := by decide +kernel
theorem dX7_floatOf_35 : decode cX7_floatOf 35 = .ok (.fstore 4, 2) := by decide +kernel
theorem dX7_floatOf_37 : decode cX7_floatOf 37 = .ok (.iload_n 3, 1) := by decide +kernel
theorem dX7_floatOf_38 : decode cX7_floatOf 38 = .ok (.istore 5, 2) := by decide +kernel
theorem dX7_floatOf_40 : decode cX7_floatOf 40 = .ok (.iload 5, 2) := by decide +kernel
theorem dX7_floatOf_42 : decode cX7_floatOf 42 = .ok (.sipush 150, 3) := by decide +kernel
theorem dX7_floatOf_45 : decode cX7_floatOf 45 = .ok (.if_icmp .ge 17, 3) := by decide +kernel
theorem dX7_floatOf_48 : decode cX7_floatOf 48 = .ok (.fload 4, 2) := by decide +kernel
theorem dX7_floatOf_50 : decode cX7_floatOf 50 = .ok (.ldc_w 281, 3) := by decide +kernel
theorem dX7_floatOf_53 : decode cX7_floatOf 53 = .ok (.fmul, 1) := by decide +kernel
theorem dX7_floatOf_54 : decode cX7_floatOf 54 = .ok (.fstore 4, 2) := by decide +kernel
theorem dX7_floatOf_56 : decode cX7_floatOf 56 = .ok (.iinc 5 1, 3) := by decide +kernel
theorem dX7_floatOf_59 : decode cX7_floatOf 59 = .ok (.goto (-19), 3) := by decide +kernel
theorem dX7_floatOf_62 : decode cX7_floatOf 62 = .ok (.fload 4, 2) := by decide +kernel
theorem dX7_floatOf_64 : decode cX7_floatOf 64 = .ok (.freturn, 1) := by decide +kernel
theorem dX7_copyRow_0 : decode cX7_copyRow 0 = .ok (.iconst 0, 1) := by decide +kernel
theorem dX7_copyRow_1 : decode cX7_copyRow 1 = .ok (.istore_n 2, 1) := by decide +kernel
theorem dX7_copyRow_2 : decode cX7_copyRow 2 = .ok (.iload_n 2, 1) := by decide +kernel
theorem dX7_copyRow_3 : decode cX7_copyRow 3 = .ok (.aload_n 0, 1) := by decide +kernel
theorem dX7_copyRow_4 : decode cX7_copyRow 4 = .ok (.arraylength, 1) := by decide +kernel
theorem dX7_copyRow_5 : decode cX7_copyRow 5 = .ok (.if_icmp .ge 21, 3) := by decide +kernel
theorem dX7_copyRow_8 : decode cX7_copyRow 8 = .ok (.iload_n 2, 1) := by decide +kernel
theorem dX7_copyRow_9 : decode cX7_copyRow 9 = .ok (.aload_n 1, 1) := by decide +kernel
theorem dX7_copyRow_10 : decode cX7_copyRow 10 = .ok (.arraylength, 1) := by decide +kernel
theorem dX7_copyRow_11 : decode cX7_copyRow 11 = .ok (.if_icmp .ge 15, 3) := by decide +kernel
theorem dX7_copyRow_14 : decode cX7_copyRow 14 = .ok (.aload_n 1, 1) := by decide +kernel
theorem dX7_copyRow_15 : decode cX7_copyRow 15 = .ok (.iload_n 2, 1) := by decide +kernel
theorem dX7_copyRow_16 : decode cX7_copyRow 16 = .ok (.aload_n 0, 1) := by decide +kernel
theorem dX7_copyRow_17 : decode cX7_copyRow 17 = .ok (.iload_n 2, 1) := by decide +kernel
theorem dX7_copyRow_18 : decode cX7_copyRow 18 = .ok (.iaload, 1) := by decide +kernel
theorem dX7_copyRow_19 : decode cX7_copyRow 19 = .ok (.iastore, 1) := by decide +kernel
theorem dX7_copyRow_20 : decode cX7_copyRow 20 = .ok (.iinc 2 1, 3) := by decide +kernel
theorem dX7_copyRow_23 : decode cX7_copyRow 23 = .ok (.goto (-21), 3) := by decide +kernel
theorem dX7_copyRow_26 : decode cX7_copyRow 26 = .ok (.return_, 1) := by decide +kernel
theorem dX8_init_0 : decode cX8_init 0 = .ok (.aload_n 0, 1) := by decide +kernel
theorem dX8_init_1 : decode cX8_init 1 = .ok (.invokespecial 1, 3) := by decide +kernel
theorem dX8_init_4 : decode cX8_init 4 = .ok (.aload_n 0, 1) := by decide +kernel
theorem dX8_init_5 : decode cX8_init 5 = .ok (.sipush 204, 3) := by decide +kernel
theorem dX8_init_8 : decode cX8_init 8 = .ok (.newarray .int, 2) := by decide +kernel
theorem dX8_init_10 : decode cX8_init 10 = .ok (.putfield 7, 3) := by decide +kernel
theorem dX8_init_13 : decode cX8_init 13 = .ok (.aload_n 0, 1) := by decide +kernel
theorem dX8_init_14 : decode cX8_init 14 = .ok (.sipush 204, 3) := by decide +kernel
theorem dX8_init_17 : decode cX8_init 17 = .ok (.newarray .int, 2) := by decide +kernel
theorem dX8_init_19 : decode cX8_init 19 = .ok (.putfield 13, 3) := by decide +kernel
theorem dX8_init_22 : decode cX8_init 22 = .ok (.aload_n 0, 1) := by decide +kernel
theorem dX8_init_23 : decode cX8_init 23 = .ok (.sipush 816, 3) := by decide +kernel
theorem dX8_init_26 : decode cX8_init 26 = .ok (.newarray .int, 2) := by decide +kernel
theorem dX8_init_28 : decode cX8_init 28 = .ok (.putfield 16, 3) := by decide +kernel
theorem dX8_init_31 : decode cX8_init 31 = .ok (.aload_n 0, 1) := by decide +kernel
theorem dX8_init_32 : decode cX8_init 32 = .ok (.sipush 204, 3) := by decide +kernel
theorem dX8_init_35 : decode cX8_init 35 = .ok (.newarray .int, 2) := by decide +kernel
theorem dX8_init_37 : decode cX8_init 37 = .ok (.putfield 19, 3) := by decide +kernel
theorem dX8_init_40 : decode cX8_init 40 = .ok (.aload_n 0, 1) := by decide +kernel
theorem dX8_init_41 : decode cX8_init 41 = .ok (.bipush 60, 2) := by decide +kernel
theorem dX8_init_43 : decode cX8_init 43 = .ok (.newarray .int, 2) := by decide +kernel
theorem dX8_init_45 : decode cX8_init 45 = .ok (.putfield 22, 3) := by decide +kernel
theorem dX8_init_48 : decode cX8_init 48 = .ok (.aload_n 0, 1) := by decide +kernel
theorem dX8_init_49 : decode cX8_init 49 = .ok (.bipush (-5), 2) := by decide +kernel
theorem dX8_init_51 : decode cX8_init 51 = .ok (.putfield 25, 3) := by decide +kernel
theorem dX8_init_54 : decode cX8_init 54 = .ok (.aload_n 0, 1) := by decide +kernel
theorem dX8_init_55 : decode cX8_init 55 = .ok (.bipush (-5), 2) := by decide +kernel
theorem dX8_init_57 : decode cX8_init 57 = .ok (.putfield 29, 3) := by decide +kernel
theorem dX8_init_60 : decode cX8_init 60 = .ok (.aload_n 0, 1) := by decide +kernel
theorem dX8_init_61 : decode cX8_init 61 = .ok (.bipush 8, 2) := by decide +kernel
theorem dX8_init_63 : decode cX8_init 63 = .ok (.newarray .int, 2) := by decide +kernel
theorem dX8_init_65 : decode cX8_init 65 = .ok (.putfield 32, 3) := by decide +kernel
theorem dX8_init_68 : decode cX8_init 68 = .ok (.aload_n 0, 1) := by decide +kernel
theorem dX8_init_69 : decode cX8_init 69 = .ok (.getfield 7, 3) := by decide +kernel
theorem dX8_init_72 : decode cX8_init 72 = .ok (.iconst 2, 1) := by decide +kernel
theorem dX8_init_73 : decode cX8_init 73 = .ok (.ldc 35, 2) := by decide +kernel
theorem dX8_init_75 : decode cX8_init 75 = .ok (.iastore, 1) := by decide +kernel
theorem dX8_init_76 : decode cX8_init 76 = .ok (.aload_n 0, 1) := by decide +kernel
theorem dX8_init_77 : decode cX8_init 77 = .ok (.getfield 7, 3) := by decide +kernel
theorem dX8_init_80 : decode cX8_init 80 = .ok (.iconst 3, 1) := by decide +kernel
theorem dX8_init_81 : decode cX8_init 81 = .ok (.ldc 36, 2) := by decide +kernel
theorem dX8_init_83 : decode cX8_init 83 = .ok (.iastore, 1) := by decide +kernel
theorem dX8_init_84 : decode cX8_init 84 = .ok (.aload_n 0, 1) := by decide +kernel
theorem dX8_init_85 : decode cX8_init 85 = .ok (.getfield 7, 3) := by decide +kernel
theorem dX8_init_88 : decode cX8_init 88 = .ok (.iconst 4, 1) := by decide +kernel
theorem dX8_init_89 : decode cX8_init 89 = .ok (.ldc 37, 2) := by decide +kernel
theorem dX8_init_91 : decode cX8_init 91 = .ok (.iastore, 1) := by decide +kernel
theorem dX8_init_92 : decode cX8_init 92 = .ok (.aload_n 0, 1) := by decide +kernel
theorem dX8_init_93 : decode cX8_init 93 = .ok (.getfield 7, 3) := by decide +kernel
theorem dX8_init_96 : decode cX8_init 96 = .ok (.iconst 5, 1) := by decide +kernel
theorem dX8_init_97 : decode cX8_init 97 = .ok (.bipush 14, 2) := by decide +kernel
theorem dX8_init_99 : decode cX8_init 99 = .ok (.iastore, 1) := by decide +kernel
theorem dX8_init_100 : decode cX8_init 100 = .ok (.aload_n 0, 1) := by decide +kernel
theorem dX8_init_101 : decode cX8_init 101 = .ok (.getfield 7, 3) := by decide +kernel
theorem dX8_init_104 : decode cX8_init 104 = .ok (.bipush 6, 2) := by decide +kernel
theorem dX8_init_106 : decode cX8_init 106 = .ok (.bipush 20, 2) := by decide +kernel
theorem dX8_init_108 : decode cX8_init 108 = .ok (.iastore, 1) := by decide +kernel
theorem dX8_init_109 : decode cX8_init 109 = .ok (.aload_n 0, 1) := by decide +kernel
theorem dX8_init_110 : decode cX8_init 110 = .ok (.getfield 7, 3) := by decide +kernel
theorem dX8_init_113 : decode cX8_init 113 = .ok (.bipush 7, 2) := by decide +kernel
theorem dX8_init_115 : decode cX8_init 115 = .ok (.bipush 120, 2) := by decide +kernel
theorem dX8_init_117 : decode cX8_init 117 = .ok (.iastore, 1) := by decide +kernel
theorem dX8_init_118 : decode cX8_init 118 = .ok (.return_, 1) := by decide +kernel
theorem dX8_in_0 : decode cX8_in 0 = .ok (.iload_n 0, 1) := by decide +kernel
theorem dX8_in_1 : decode cX8_in 1 = .ok (.iload_n 1, 1) := by decide +kernel
theorem dX8_in_2 : decode cX8_in 2 = .ok (.if_icmp .lt 12, 3) := by decide +kernel
theorem dX8_in_5 : decode cX8_in 5 = .ok (.iload_n 0, 1) := by decide +kernel
theorem dX8_in_6 : decode cX8_in 6 = .ok (.iload_n 2, 1) := by decide +kernel
theorem dX8_in_7 : decode cX8_in 7 = .ok (.if_icmp .gt 7, 3) := by decide +kernel
theorem dX8_in_10 : decode cX8_in 10 = .ok (.iconst 1, 1) := by decide +kernel
theorem dX8_in_11 : decode cX8_in 11 = .ok (.goto 4, 3) := by decide +kernel
theorem dX8_in_14 : decode cX8_in 14 = .ok (.iconst 0, 1) := by decide +kernel
theorem dX8_in_15 : decode cX8_in 15 = .ok (.ireturn, 1) := by decide +kernel
theorem dX8_of_0 : decode cX8_of 0 = .ok (.bipush 64, 2) := by decide +kernel
theorem dX8_of_2 : decode cX8_of 2 = .ok (.bipush 7, 2) := by decide +kernel
theorem dX8_of_4 : decode cX8_of 4 = .ok (.iload_n 0, 1) := by decide +kernel
theorem dX8_of_5 : decode cX8_of 5 = .ok (.imul, 1) := by decide +kernel
theorem dX8_of_6 : decode cX8_of 6 = .ok (.iadd, 1) := by decide +kernel
theorem dX8_of_7 : decode cX8_of 7 = .ok (.iload_n 1, 1) := by decide +kernel
theorem dX8_of_8 : decode cX8_of 8 = .ok (.iadd, 1) := by decide +kernel
theorem dX8_of_9 : decode cX8_of 9 = .ok (.ireturn, 1) := by decide +kernel
theorem dX8_ofMember_0 : decode cX8_ofMember 0 = .ok (.bipush 14, 2) := by decide +kernel
theorem dX8_ofMember_2 : decode cX8_ofMember 2 = .ok (.iconst 4, 1) := by decide +kernel
theorem dX8_ofMember_3 : decode cX8_ofMember 3 = .ok (.iload_n 0, 1) := by decide +kernel
theorem dX8_ofMember_4 : decode cX8_ofMember 4 = .ok (.imul, 1) := by decide +kernel
theorem dX8_ofMember_5 : decode cX8_ofMember 5 = .ok (.iadd, 1) := by decide +kernel
theorem dX8_ofMember_6 : decode cX8_ofMember 6 = .ok (.iload_n 1, 1) := by decide +kernel
theorem dX8_ofMember_7 : decode cX8_ofMember 7 = .ok (.iadd, 1) := by decide +kernel
theorem dX8_ofMember_8 : decode cX8_ofMember 8 = .ok (.ireturn, 1) := by decide +kernel
theorem dX8_ofClient_0 : decode cX8_ofClient 0 = .ok (.bipush 46, 2) := by decide +kernel
theorem dX8_ofClient_2 : decode cX8_ofClient 2 = .ok (.iconst 3, 1) := by decide +kernel
theorem dX8_ofClient_3 : decode cX8_ofClient 3 = .ok (.iload_n 0, 1) := by decide +kernel
theorem dX8_ofClient_4 : decode cX8_ofClient 4 = .ok (.imul, 1) := by decide +kernel
theorem dX8_ofClient_5 : decode cX8_ofClient 5 = .ok (.iadd, 1) := by decide +kernel
theorem dX8_ofClient_6 : decode cX8_ofClient 6 = .ok (.iload_n 1, 1) := by decide +kernel
theorem dX8_ofClient_7 : decode cX8_ofClient 7 = .ok (.iadd, 1) := by decide +kernel
theorem dX8_ofClient_8 : decode cX8_ofClient 8 = .ok (.ireturn, 1) := by decide +kernel
theorem dX8_isMember_0 : decode cX8_isMember 0 = .ok (.iload_n 1, 1) := by decide +kernel
theorem dX8_isMember_1 : decode cX8_isMember 1 = .ok (.iconst 0, 1) := by decide +kernel
theorem dX8_isMember_2 : decode cX8_isMember 2 = .ok (.aload_n 0, 1) := by decide +kernel
theorem dX8_isMember_3 : decode cX8_isMember 3 = .ok (.getfield 7, 3) := by decide +kernel
theorem dX8_isMember_6 : decode cX8_isMember 6 = .ok (.bipush 8, 2) := by decide +kernel
theorem dX8_isMember_8 : decode cX8_isMember 8 = .ok (.iaload, 1) := by decide +kernel
theorem dX8_isMember_9 : decode cX8_isMember 9 = .ok (.iconst 1, 1) := by decide +kernel
theorem dX8_isMember_10 : decode cX8_isMember 10 = .ok (.isub, 1) := by decide +kernel
theorem dX8_isMember_11 : decode cX8_isMember 11 = .ok (.invokestatic 38, 3) := by decide +kernel
theorem dX8_isMember_14 : decode cX8_isMember 14 = .ok (.ireturn, 1) := by decide +kernel
theorem dX8_isInvoice_0 : decode cX8_isInvoice 0 = .ok (.iload_n 1, 1) := by decide +kernel
theorem dX8_isInvoice_1 : decode cX8_isInvoice 1 = .ok (.iconst 0, 1) := by decide +kernel
theorem dX8_isInvoice_2 : decode cX8_isInvoice 2 = .ok (.aload_n 0, 1) := by decide +kernel
theorem dX8_isInvoice_3 : decode cX8_isInvoice 3 = .ok (.getfield 7, 3) := by decide +kernel
theorem dX8_isInvoice_6 : decode cX8_isInvoice 6 = .ok (.bipush 9, 2) := by decide +kernel
theorem dX8_isInvoice_8 : decode cX8_isInvoice 8 = .ok (.iaload, 1) := by decide +kernel
theorem dX8_isInvoice_9 : decode cX8_isInvoice 9 = .ok (.iconst 1, 1) := by decide +kernel
theorem dX8_isInvoice_10 : decode cX8_isInvoice 10 = .ok (.isub, 1) := by decide +kernel
theorem dX8_isInvoice_11 : decode cX8_isInvoice 11 = .ok (.invokestatic 38, 3) := by decide +kernel
theorem dX8_isInvoice_14 : decode cX8_isInvoice 14 = .ok (.ireturn, 1) := by decide +kernel
theorem dX8_isClient_0 : decode cX8_isClient 0 = .ok (.iload_n 0, 1) := by decide +kernel
theorem dX8_isClient_1 : decode cX8_isClient 1 = .ok (.iconst 0, 1) := by decide +kernel
theorem dX8_isClient_2 : decode cX8_isClient 2 = .ok (.iconst 5, 1) := by decide +kernel
theorem dX8_isClient_3 : decode cX8_isClient 3 = .ok (.invokestatic 38, 3) := by decide +kernel
theorem dX8_isClient_6 : decode cX8_isClient 6 = .ok (.ireturn, 1) := by decide +kernel
theorem dX8_know_0 : decode cX8_know 0 = .ok (.aload_n 0, 1) := by decide +kernel
theorem dX8_know_1 : decode cX8_know 1 = .ok (.getfield 42, 3) := by decide +kernel
theorem dX8_know_4 : decode cX8_know 4 = .ok (.iconst 4, 1) := by decide +kernel
theorem dX8_know_5 : decode cX8_know 5 = .ok (.if_icmp .ne 44, 3) := by decide +kernel
theorem dX8_know_8 : decode cX8_know 8 = .ok (.iconst 0, 1) := by decide +kernel
theorem dX8_know_9 : decode cX8_know 9 = .ok (.istore_n 1, 1) := by decide +kernel
theorem dX8_know_10 : decode cX8_know 10 = .ok (.iload_n 1, 1) := by decide +kernel
theorem dX8_know_11 : decode cX8_know 11 = .ok (.sipush 612, 3) := by decide +kernel
theorem dX8_know_14 : decode cX8_know 14 = .ok (.if_icmp .ge 25, 3) := by decide +kernel
theorem dX8_know_17 : decode cX8_know 17 = .ok (.aload_n 0, 1) := by decide +kernel
theorem dX8_know_18 : decode cX8_know 18 = .ok (.getfield 16, 3) := by decide +kernel
theorem dX8_know_21 : decode cX8_know 21 = .ok (.iload_n 1, 1) := by decide +kernel
theorem dX8_know_22 : decode cX8_know 22 = .ok (.aload_n 0, 1) := by decide +kernel
theorem dX8_know_23 : decode cX8_know 23 = .ok (.getfield 16, 3) := by decide +kernel
theorem dX8_know_26 : decode cX8_know 26 = .ok (.sipush 204, 3) := by decide +kernel
theorem dX8_know_29 : decode cX8_know 29 = .ok (.iload_n 1, 1) := by decide +kernel
theorem dX8_know_30 : decode cX8_know 30 = .ok (.iadd, 1) := by decide +kernel
theorem dX8_know_31 : decode cX8_know 31 = .ok (.iaload, 1) := by decide +kernel
theorem dX8_know_32 : decode cX8_know 32 = .ok (.iastore, 1) := by decide +kernel
theorem dX8_know_33 : decode cX8_know 33 = .ok (.iinc 1 1, 3) := by decide +kernel
theorem dX8_know_36 : decode cX8_know 36 = .ok (.goto (-26), 3) := by decide +kernel
theorem dX8_know_39 : decode cX8_know 39 = .ok (.aload_n 0, 1) := by decide +kernel
theorem dX8_know_40 : decode cX8_know 40 = .ok (.dup, 1) := by decide +kernel
theorem dX8_know_41 : decode cX8_know 41 = .ok (.getfield 42, 3) := by decide +kernel
theorem dX8_know_44 : decode cX8_know 44 = .ok (.iconst 1, 1) := by decide +kernel
theorem dX8_know_45 : decode cX8_know 45 = .ok (.isub, 1) := by decide +kernel
theorem dX8_know_46 : decode cX8_know 46 = .ok (.putfield 42, 3) := by decide +kernel
theorem dX8_know_49 : decode cX8_know 49 = .ok (.iconst 0, 1) := by decide +kernel
theorem dX8_know_50 : decode cX8_know 50 = .ok (.istore_n 1, 1) := by decide +kernel
theorem dX8_know_51 : decode cX8_know 51 = .ok (.iload_n 1, 1) := by decide +kernel
theorem dX8_know_52 : decode cX8_know 52 = .ok (.sipush 204, 3) := by decide +kernel
theorem dX8_know_55 : decode cX8_know 55 = .ok (.if_icmp .ge 30, 3) := by decide +kernel
theorem dX8_know_58 : decode cX8_know 58 = .ok (.aload_n 0, 1) := by decide +kernel
theorem dX8_know_59 : decode cX8_know 59 = .ok (.getfield 16, 3) := by decide +kernel
theorem dX8_know_62 : decode cX8_know 62 = .ok (.sipush 204, 3) := by decide +kernel
theorem dX8_know_65 : decode cX8_know 65 = .ok (.aload_n 0, 1) := by decide +kernel
theorem dX8_know_66 : decode cX8_know 66 = .ok (.getfield 42, 3) := by decide +kernel
theorem dX8_know_69 : decode cX8_know 69 = .ok (.imul, 1) := by decide +kernel
theorem dX8_know_70 : decode cX8_know 70 = .ok (.iload_n 1, 1) := by decide +kernel
theorem dX8_know_71 : decode cX8_know 71 = .ok (.iadd, 1) := by decide +kernel
theorem dX8_know_72 : decode cX8_know 72 = .ok (.aload_n 0, 1) := by decide +kernel
theorem dX8_know_73 : decode cX8_know 73 = .ok (.getfield 7, 3) := by decide +kernel
theorem dX8_know_76 : decode cX8_know 76 = .ok (.iload_n 1, 1) := by decide +kernel
theorem dX8_know_77 : decode cX8_know 77 = .ok (.iaload, 1) := by decide +kernel
theorem dX8_know_78 : decode cX8_know 78 = .ok (.iastore, 1) := by decide +kernel
theorem dX8_know_79 : decode cX8_know 79 = .ok (.iinc 1 1, 3) := by decide +kernel
theorem dX8_know_82 : decode cX8_know 82 = .ok (.goto (-31), 3) := by decide +kernel
theorem dX8_know_85 : decode cX8_know 85 = .ok (.aload_n 0, 1) := by decide +kernel
theorem dX8_know_86 : decode cX8_know 86 = .ok (.dup, 1) := by decide +kernel
theorem dX8_know_87 : decode cX8_know 87 = .ok (.getfield 42, 3) := by decide +kernel
theorem dX8_know_90 : decode cX8_know 90 = .ok (.iconst 1, 1) := by decide +kernel
theorem dX8_know_91 : decode cX8_know 91 = .ok (.iadd, 1) := by decide +kernel
theorem dX8_know_92 : decode cX8_know 92 = .ok (.putfield 42, 3) := by decide +kernel
theorem dX8_know_95 : decode cX8_know 95 = .ok (.return_, 1) := by decide +kernel
theorem dX8_nan_0 : decode cX8_nan 0 = .ok (.ldc 47, 2) := by decide +kernel
theorem dX8_nan_2 : decode cX8_nan 2 = .ok (.freturn, 1) := by decide +kernel
theorem dX8_ofBits_0 : decode cX8_ofBits 0 = .ok (.iload_n 0, 1) := by decide +kernel
theorem dX8_ofBits_1 : decode cX8_ofBits 1 = .ok (.bipush 23, 2) := by decide +kernel
theorem dX8_ofBits_3 : decode cX8_ofBits 3 = .ok (.ishr, 1) := by decide +kernel
theorem dX8_ofBits_4 : decode cX8_ofBits 4 = .ok (.istore_n 1, 1) := by decide +kernel
theorem dX8_ofBits_5 : decode cX8_ofBits 5 = .ok (.iload_n 1, 1) := by decide +kernel
theorem dX8_ofBits_6 : decode cX8_ofBits 6 = .ok (.ifCond .ne 11, 3) := by decide +kernel
theorem dX8_ofBits_9 : decode cX8_ofBits 9 = .ok (.iload_n 0, 1) := by decide +kernel
theorem dX8_ofBits_10 : decode cX8_ofBits 10 = .ok (.ldc 48, 2) := by decide +kernel
theorem dX8_ofBits_12 : decode cX8_ofBits 12 = .ok (.iand, 1) := by decide +kernel
theorem dX8_ofBits_13 : decode cX8_ofBits 13 = .ok (.i2f, 1) := by decide +kernel
theorem dX8_ofBits_14 : decode cX8_ofBits 14 = .ok (.goto 11, 3) := by decide +kernel
theorem dX8_ofBits_17 : decode cX8_ofBits 17 = .ok (.iload_n 0, 1) := by decide +kernel
theorem dX8_ofBits_18 : decode cX8_ofBits 18 = .ok (.ldc 48, 2) := by decide +kernel
theorem dX8_ofBits_20 : decode cX8_ofBits 20 = .ok (.iand, 1) := by decide +kernel
theorem dX8_ofBits_21 : decode cX8_ofBits 21 = .ok (.ldc 49, 2) := by decide +kernel
theorem dX8_ofBits_23 : decode cX8_ofBits 23 = .ok (.ior, 1) := by decide +kernel
theorem dX8_ofBits_24 : decode cX8_ofBits 24 = .ok (.i2f, 1) := by decide +kernel
theorem dX8_ofBits_25 : decode cX8_ofBits 25 = .ok (.fstore_n 2, 1) := by decide +kernel
theorem dX8_ofBits_26 : decode cX8_ofBits 26 = .ok (.iload_n 1, 1) := by decide +kernel
theorem dX8_ofBits_27 : decode cX8_ofBits 27 = .ok (.ifCond .ne 7, 3) := by decide +kernel
theorem dX8_ofBits_30 : decode cX8_ofBits 30 = .ok (.iconst 1, 1) := by decide +kernel
theorem dX8_ofBits_31 : decode cX8_ofBits 31 = .ok (.goto 4, 3) := by decide +kernel
theorem dX8_ofBits_34 : decode cX8_ofBits 34 = .ok (.iload_n 1, 1) := by decide +kernel
theorem dX8_ofBits_35 : decode cX8_ofBits 35 = .ok (.istore_n 3, 1) := by decide +kernel
theorem dX8_ofBits_36 : decode cX8_ofBits 36 = .ok (.iload_n 3, 1) := by decide +kernel
theorem dX8_ofBits_37 : decode cX8_ofBits 37 = .ok (.sipush 150, 3) := by decide +kernel
theorem dX8_ofBits_40 : decode cX8_ofBits 40 = .ok (.if_icmp .ge 14, 3) := by decide +kernel
theorem dX8_ofBits_43 : decode cX8_ofBits 43 = .ok (.fload_n 2, 1) := by decide +kernel
theorem dX8_ofBits_44 : decode cX8_ofBits 44 = .ok (.ldc 50, 2) := by decide +kernel
theorem dX8_ofBits_46 : decode cX8_ofBits 46 = .ok (.fmul, 1) := by decide +kernel
theorem dX8_ofBits_47 : decode cX8_ofBits 47 = .ok (.fstore_n 2, 1) := by decide +kernel
theorem dX8_ofBits_48 : decode cX8_ofBits 48 = .ok (.iinc 3 1, 3) := by decide +kernel
theorem dX8_ofBits_51 : decode cX8_ofBits 51 = .ok (.goto (-15), 3) := by decide +kernel
theorem dX8_ofBits_54 : decode cX8_ofBits 54 = .ok (.sipush 150, 3) := by decide +kernel
theorem dX8_ofBits_57 : decode cX8_ofBits 57 = .ok (.istore_n 3, 1) := by decide +kernel
theorem dX8_ofBits_58 : decode cX8_ofBits 58 = .ok (.iload_n 3, 1) := by decide +kernel
theorem dX8_ofBits_59 : decode cX8_ofBits 59 = .ok (.iload_n 1, 1) := by decide +kernel
theorem dX8_ofBits_60 : decode cX8_ofBits 60 = .ok (.if_icmp .ge 13, 3) := by decide +kernel
theorem dX8_ofBits_63 : decode cX8_ofBits 63 = .ok (.fload_n 2, 1) := by decide +kernel
theorem dX8_ofBits_64 : decode cX8_ofBits 64 = .ok (.fconst 2, 1) := by decide +kernel
theorem dX8_ofBits_65 : decode cX8_ofBits 65 = .ok (.fmul, 1) := by decide +kernel
theorem dX8_ofBits_66 : decode cX8_ofBits 66 = .ok (.fstore_n 2, 1) := by decide +kernel
theorem dX8_ofBits_67 : decode cX8_ofBits 67 = .ok (.iinc 3 1, 3) := by decide +kernel
theorem dX8_ofBits_70 : decode cX8_ofBits 70 = .ok (.goto (-12), 3) := by decide +kernel
theorem dX8_ofBits_73 : decode cX8_ofBits 73 = .ok (.fload_n 2, 1) := by decide +kernel
theorem dX8_ofBits_74 : decode cX8_ofBits 74 = .ok (.freturn, 1) := by decide +kernel
theorem dX8_rateOf_0 : decode cX8_rateOf 0 = .ok (.aload_n 0, 1) := by decide +kernel
theorem dX8_rateOf_1 : decode cX8_rateOf 1 = .ok (.getfield 7, 3) := by decide +kernel
theorem dX8_rateOf_4 : decode cX8_rateOf 4 = .ok (.iconst 2, 1) := by decide +kernel
theorem dX8_rateOf_5 : decode cX8_rateOf 5 = .ok (.iload_n 1, 1) := by decide +kernel
theorem dX8_rateOf_6 : decode cX8_rateOf 6 = .ok (.iadd, 1) := by decide +kernel
theorem dX8_rateOf_7 : decode cX8_rateOf 7 = .ok (.iaload, 1) := by decide +kernel
theorem dX8_rateOf_8 : decode cX8_rateOf 8 = .ok (.invokestatic 51, 3) := by decide +kernel
theorem dX8_rateOf_11 : decode cX8_rateOf 11 = .ok (.freturn, 1) := by decide +kernel
theorem dX8_riskOf_0 : decode cX8_riskOf 0 = .ok (.aload_n 0, 1) := by decide +kernel
theorem dX8_riskOf_1 : decode cX8_riskOf 1 = .ok (.getfield 7, 3) := by decide +kernel
theorem dX8_riskOf_4 : decode cX8_riskOf 4 = .ok (.iload_n 1, 1) := by decide +kernel
theorem dX8_riskOf_5 : decode cX8_riskOf 5 = .ok (.iconst 1, 1) := by decide +kernel
theorem dX8_riskOf_6 : decode cX8_riskOf 6 = .ok (.invokestatic 55, 3) := by decide +kernel
theorem dX8_riskOf_9 : decode cX8_riskOf 9 = .ok (.iaload, 1) := by decide +kernel
theorem dX8_riskOf_10 : decode cX8_riskOf 10 = .ok (.istore_n 2, 1) := by decide +kernel
theorem dX8_riskOf_11 : decode cX8_riskOf 11 = .ok (.iload_n 2, 1) := by decide +kernel
theorem dX8_riskOf_12 : decode cX8_riskOf 12 = .ok (.iconst 1, 1) := by decide +kernel
theorem dX8_riskOf_13 : decode cX8_riskOf 13 = .ok (.iadd, 1) := by decide +kernel
theorem dX8_riskOf_14 : decode cX8_riskOf 14 = .ok (.i2f, 1) := by decide +kernel
theorem dX8_riskOf_15 : decode cX8_riskOf 15 = .ok (.aload_n 0, 1) := by decide +kernel
theorem dX8_riskOf_16 : decode cX8_riskOf 16 = .ok (.getfield 7, 3) := by decide +kernel
theorem dX8_riskOf_19 : decode cX8_riskOf 19 = .ok (.iload_n 1, 1) := by decide +kernel
theorem dX8_riskOf_20 : decode cX8_riskOf 20 = .ok (.iconst 0, 1) := by decide +kernel
theorem dX8_riskOf_21 : decode cX8_riskOf 21 = .ok (.invokestatic 55, 3) := by decide +kernel
theorem dX8_riskOf_24 : decode cX8_riskOf 24 = .ok (.iaload, 1) := by decide +kernel
theorem dX8_riskOf_25 : decode cX8_riskOf 25 = .ok (.iload_n 2, 1) := by decide +kernel
theorem dX8_riskOf_26 : decode cX8_riskOf 26 = .ok (.iadd, 1) := by decide +kernel
theorem dX8_riskOf_27 : decode cX8_riskOf 27 = .ok (.iconst 2, 1) := by decide +kernel
theorem dX8_riskOf_28 : decode cX8_riskOf 28 = .ok (.iadd, 1) := by decide +kernel
theorem dX8_riskOf_29 : decode cX8_riskOf 29 = .ok (.i2f, 1) := by decide +kernel
theorem dX8_riskOf_30 : decode cX8_riskOf 30 = .ok (.fdiv, 1) := by decide +kernel
theorem dX8_riskOf_31 : decode cX8_riskOf 31 = .ok (.freturn, 1) := by decide +kernel
theorem dX8_late_0 : decode cX8_late 0 = .ok (.aload_n 0, 1) := by decide +kernel
theorem dX8_late_1 : decode cX8_late 1 = .ok (.getfield 7, 3) := by decide +kernel
theorem dX8_late_4 : decode cX8_late 4 = .ok (.iconst 0, 1) := by decide +kernel
theorem dX8_late_5 : decode cX8_late 5 = .ok (.iaload, 1) := by decide +kernel
theorem dX8_late_6 : decode cX8_late 6 = .ok (.iload_n 2, 1) := by decide +kernel
theorem dX8_late_7 : decode cX8_late 7 = .ok (.iadd, 1) := by decide +kernel
theorem dX8_late_8 : decode cX8_late 8 = .ok (.aload_n 0, 1) := by decide +kernel
theorem dX8_late_9 : decode cX8_late 9 = .ok (.getfield 7, 3) := by decide +kernel
theorem dX8_late_12 : decode cX8_late 12 = .ok (.iload_n 1, 1) := by decide +kernel
theorem dX8_late_13 : decode cX8_late 13 = .ok (.iconst 3, 1) := by decide +kernel
theorem dX8_late_14 : decode cX8_late 14 = .ok (.invokestatic 59, 3) := by decide +kernel
theorem dX8_late_17 : decode cX8_late 17 = .ok (.iaload, 1) := by decide +kernel
theorem dX8_late_18 : decode cX8_late 18 = .ok (.isub, 1) := by decide +kernel
theorem dX8_late_19 : decode cX8_late 19 = .ok (.istore_n 3, 1) := by decide +kernel
theorem dX8_late_20 : decode cX8_late 20 = .ok (.iload_n 3, 1) := by decide +kernel
theorem dX8_late_21 : decode cX8_late 21 = .ok (.ifCond .ge 7, 3) := by decide +kernel
theorem dX8_late_24 : decode cX8_late 24 = .ok (.iconst 0, 1) := by decide +kernel
theorem dX8_late_25 : decode cX8_late 25 = .ok (.goto 4, 3) := by decide +kernel
theorem dX8_late_28 : decode cX8_late 28 = .ok (.iload_n 3, 1) := by decide +kernel
theorem dX8_late_29 : decode cX8_late 29 = .ok (.ireturn, 1) := by decide +kernel
theorem dX8_rateBehind_0 : decode cX8_rateBehind 0 = .ok (.aload_n 0, 1) := by decide +kernel
theorem dX8_rateBehind_1 : decode cX8_rateBehind 1 = .ok (.iconst 0, 1) := by decide +kernel
theorem dX8_rateBehind_2 : decode cX8_rateBehind 2 = .ok (.invokevirtual 62, 3) := by decide +kernel
theorem dX8_rateBehind_5 : decode cX8_rateBehind 5 = .ok (.aload_n 0, 1) := by decide +kernel
theorem dX8_rateBehind_6 : decode cX8_rateBehind 6 = .ok (.iconst 1, 1) := by decide +kernel
theorem dX8_rateBehind_7 : decode cX8_rateBehind 7 = .ok (.invokevirtual 62, 3) := by decide +kernel
theorem dX8_rateBehind_10 : decode cX8_rateBehind 10 = .ok (.aload_n 0, 1) := by decide +kernel
theorem dX8_rateBehind_11 : decode cX8_rateBehind 11 = .ok (.iload_n 1, 1) := by decide +kernel
theorem dX8_rateBehind_12 : decode cX8_rateBehind 12 = .ok (.iload_n 2, 1) := by decide +kernel
theorem dX8_rateBehind_13 : decode cX8_rateBehind 13 = .ok (.invokevirtual 65, 3) := by decide +kernel
theorem dX8_rateBehind_16 : decode cX8_rateBehind 16 = .ok (.i2f, 1) := by decide +kernel
theorem dX8_rateBehind_17 : decode cX8_rateBehind 17 = .ok (.fmul, 1) := by decide +kernel
theorem dX8_rateBehind_18 : decode cX8_rateBehind 18 = .ok (.fsub, 1) := by decide +kernel
theorem dX8_rateBehind_19 : decode cX8_rateBehind 19 = .ok (.fstore_n 3, 1) := by decide +kernel
theorem dX8_rateBehind_20 : decode cX8_rateBehind 20 = .ok (.fload_n 3, 1) := by decide +kernel
theorem dX8_rateBehind_21 : decode cX8_rateBehind 21 = .ok (.fconst 0, 1) := by decide +kernel
theorem dX8_rateBehind_22 : decode cX8_rateBehind 22 = .ok (.fcmp .l, 1) := by decide +kernel
theorem dX8_rateBehind_23 : decode cX8_rateBehind 23 = .ok (.ifCond .le 7, 3) := by decide +kernel
theorem dX8_rateBehind_26 : decode cX8_rateBehind 26 = .ok (.fload_n 3, 1) := by decide +kernel
theorem dX8_rateBehind_27 : decode cX8_rateBehind 27 = .ok (.goto 4, 3) := by decide +kernel
theorem dX8_rateBehind_30 : decode cX8_rateBehind 30 = .ok (.fconst 0, 1) := by decide +kernel
theorem dX8_rateBehind_31 : decode cX8_rateBehind 31 = .ok (.fstore 4, 2) := by decide +kernel
theorem dX8_rateBehind_33 : decode cX8_rateBehind 33 = .ok (.fload 4, 2) := by decide +kernel
theorem dX8_rateBehind_35 : decode cX8_rateBehind 35 = .ok (.fconst 1, 1) := by decide +kernel
theorem dX8_rateBehind_36 : decode cX8_rateBehind 36 = .ok (.aload_n 0, 1) := by decide +kernel
theorem dX8_rateBehind_37 : decode cX8_rateBehind 37 = .ok (.aload_n 0, 1) := by decide +kernel
theorem dX8_rateBehind_38 : decode cX8_rateBehind 38 = .ok (.getfield 7, 3) := by decide +kernel
theorem dX8_rateBehind_41 : decode cX8_rateBehind 41 = .ok (.iload_n 1, 1) := by decide +kernel
theorem dX8_rateBehind_42 : decode cX8_rateBehind 42 = .ok (.iconst 1, 1) := by decide +kernel
theorem dX8_rateBehind_43 : decode cX8_rateBehind 43 = .ok (.invokestatic 59, 3) := by decide +kernel
theorem dX8_rateBehind_46 : decode cX8_rateBehind 46 = .ok (.iaload, 1) := by decide +kernel
theorem dX8_rateBehind_47 : decode cX8_rateBehind 47 = .ok (.invokevirtual 68, 3) := by decide +kernel
theorem dX8_rateBehind_50 : decode cX8_rateBehind 50 = .ok (.fsub, 1) := by decide +kernel
theorem dX8_rateBehind_51 : decode cX8_rateBehind 51 = .ok (.fmul, 1) := by decide +kernel
theorem dX8_rateBehind_52 : decode cX8_rateBehind 52 = .ok (.freturn, 1) := by decide +kernel
theorem dX8_offerBehind_0 : decode cX8_offerBehind 0 = .ok (.aload_n 0, 1) := by decide +kernel
theorem dX8_offerBehind_1 : decode cX8_offerBehind 1 = .ok (.getfield 7, 3) := by decide +kernel
theorem dX8_offerBehind_4 : decode cX8_offerBehind 4 = .ok (.iload_n 1, 1) := by decide +kernel
theorem dX8_offerBehind_5 : decode cX8_offerBehind 5 = .ok (.iconst 2, 1) := by decide +kernel
theorem dX8_offerBehind_6 : decode cX8_offerBehind 6 = .ok (.invokestatic 59, 3) := by decide +kernel
theorem dX8_offerBehind_9 : decode cX8_offerBehind 9 = .ok (.iaload, 1) := by decide +kernel
theorem dX8_offerBehind_10 : decode cX8_offerBehind 10 = .ok (.i2f, 1) := by decide +kernel
theorem dX8_offerBehind_11 : decode cX8_offerBehind 11 = .ok (.aload_n 0, 1) := by decide +kernel
theorem dX8_offerBehind_12 : decode cX8_offerBehind 12 = .ok (.iload_n 1, 1) := by decide +kernel
theorem dX8_offerBehind_13 : decode cX8_offerBehind 13 = .ok (.iload_n 2, 1) := by decide +kernel
theorem dX8_offerBehind_14 : decode cX8_offerBehind 14 = .ok (.invokevirtual 71, 3) := by decide +kernel
theorem dX8_offerBehind_17 : decode cX8_offerBehind 17 = .ok (.fmul, 1) := by decide +kernel
theorem dX8_offerBehind_18 : decode cX8_offerBehind 18 = .ok (.f2i, 1) := by decide +kernel
theorem dX8_offerBehind_19 : decode cX8_offerBehind 19 = .ok (.ireturn, 1) := by decide +kernel
theorem dX8_worthOf_0 : decode cX8_worthOf 0 = .ok (.aload_n 0, 1) := by decide +kernel
theorem dX8_worthOf_1 : decode cX8_worthOf 1 = .ok (.aload_n 0, 1) := by decide +kernel
theorem dX8_worthOf_2 : decode cX8_worthOf 2 = .ok (.getfield 7, 3) := by decide +kernel
theorem dX8_worthOf_5 : decode cX8_worthOf 5 = .ok (.iload_n 1, 1) := by decide +kernel
theorem dX8_worthOf_6 : decode cX8_worthOf 6 = .ok (.iconst 1, 1) := by decide +kernel
theorem dX8_worthOf_7 : decode cX8_worthOf 7 = .ok (.invokestatic 59, 3) := by decide +kernel
theorem dX8_worthOf_10 : decode cX8_worthOf 10 = .ok (.iaload, 1) := by decide +kernel
theorem dX8_worthOf_11 : decode cX8_worthOf 11 = .ok (.invokevirtual 68, 3) := by decide +kernel
theorem dX8_worthOf_14 : decode cX8_worthOf 14 = .ok (.fstore_n 2, 1) := by decide +kernel
theorem dX8_worthOf_15 : decode cX8_worthOf 15 = .ok (.aload_n 0, 1) := by decide +kernel
theorem dX8_worthOf_16 : decode cX8_worthOf 16 = .ok (.iload_n 1, 1) := by decide +kernel
theorem dX8_worthOf_17 : decode cX8_worthOf 17 = .ok (.iconst 0, 1) := by decide +kernel
theorem dX8_worthOf_18 : decode cX8_worthOf 18 = .ok (.invokevirtual 75, 3) := by decide +kernel
theorem dX8_worthOf_21 : decode cX8_worthOf 21 = .ok (.istore_n 3, 1) := by decide +kernel
theorem dX8_worthOf_22 : decode cX8_worthOf 22 = .ok (.aload_n 0, 1) := by decide +kernel
theorem dX8_worthOf_23 : decode cX8_worthOf 23 = .ok (.getfield 7, 3) := by decide +kernel
theorem dX8_worthOf_26 : decode cX8_worthOf 26 = .ok (.iload_n 1, 1) := by decide +kernel
theorem dX8_worthOf_27 : decode cX8_worthOf 27 = .ok (.iconst 2, 1) := by decide +kernel
theorem dX8_worthOf_28 : decode cX8_worthOf 28 = .ok (.invokestatic 59, 3) := by decide +kernel
theorem dX8_worthOf_31 : decode cX8_worthOf 31 = .ok (.iaload, 1) := by decide +kernel
theorem dX8_worthOf_32 : decode cX8_worthOf 32 = .ok (.iload_n 3, 1) := by decide +kernel
theorem dX8_worthOf_33 : decode cX8_worthOf 33 = .ok (.isub, 1) := by decide +kernel
theorem dX8_worthOf_34 : decode cX8_worthOf 34 = .ok (.i2f, 1) := by decide +kernel
theorem dX8_worthOf_35 : decode cX8_worthOf 35 = .ok (.fconst 1, 1) := by decide +kernel
theorem dX8_worthOf_36 : decode cX8_worthOf 36 = .ok (.fload_n 2, 1) := by decide +kernel
theorem dX8_worthOf_37 : decode cX8_worthOf 37 = .ok (.fsub, 1) := by decide +kernel
theorem dX8_worthOf_38 : decode cX8_worthOf 38 = .ok (.fmul, 1) := by decide +kernel
theorem dX8_worthOf_39 : decode cX8_worthOf 39 = .ok (.fstore 4, 2) := by decide +kernel
theorem dX8_worthOf_41 : decode cX8_worthOf 41 = .ok (.fload 4, 2) := by decide +kernel
theorem dX8_worthOf_43 : decode cX8_worthOf 43 = .ok (.iload_n 3, 1) := by decide +kernel
theorem dX8_worthOf_44 : decode cX8_worthOf 44 = .ok (.i2f, 1) := by decide +kernel
theorem dX8_worthOf_45 : decode cX8_worthOf 45 = .ok (.fload_n 2, 1) := by decide +kernel
theorem dX8_worthOf_46 : decode cX8_worthOf 46 = .ok (.fmul, 1) := by decide +kernel
theorem dX8_worthOf_47 : decode cX8_worthOf 47 = .ok (.fsub, 1) := by decide +kernel
theorem dX8_worthOf_48 : decode cX8_worthOf 48 = .ok (.freturn, 1) := by decide +kernel
theorem dX8_setRate_0 : decode cX8_setRate 0 = .ok (.iload_n 1, 1) := by decide +kernel
theorem dX8_setRate_1 : decode cX8_setRate 1 = .ok (.iconst 0, 1) := by decide +kernel
theorem dX8_setRate_2 : decode cX8_setRate 2 = .ok (.iconst 2, 1) := by decide +kernel
theorem dX8_setRate_3 : decode cX8_setRate 3 = .ok (.invokestatic 38, 3) := by decide +kernel
theorem dX8_setRate_6 : decode cX8_setRate 6 = .ok (.ifCond .ne 5, 3) := by decide +kernel
theorem dX8_setRate_9 : decode cX8_setRate 9 = .ok (.iconst (-1), 1) := by decide +kernel
theorem dX8_setRate_10 : decode cX8_setRate 10 = .ok (.ireturn, 1) := by decide +kernel
theorem dX8_setRate_11 : decode cX8_setRate 11 = .ok (.iload_n 2, 1) := by decide +kernel
theorem dX8_setRate_12 : decode cX8_setRate 12 = .ok (.ifCond .lt 17, 3) := by decide +kernel
theorem dX8_setRate_15 : decode cX8_setRate 15 = .ok (.iload_n 2, 1) := by decide +kernel
theorem dX8_setRate_16 : decode cX8_setRate 16 = .ok (.bipush 23, 2) := by decide +kernel
theorem dX8_setRate_18 : decode cX8_setRate 18 = .ok (.ishr, 1) := by decide +kernel
theorem dX8_setRate_19 : decode cX8_setRate 19 = .ok (.sipush 255, 3) := by decide +kernel
theorem dX8_setRate_22 : decode cX8_setRate 22 = .ok (.if_icmp .eq 7, 3) := by decide +kernel
theorem dX8_setRate_25 : decode cX8_setRate 25 = .ok (.iconst 1, 1) := by decide +kernel
theorem dX8_setRate_26 : decode cX8_setRate 26 = .ok (.goto 4, 3) := by decide +kernel
theorem dX8_setRate_29 : decode cX8_setRate 29 = .ok (.iconst 0, 1) := by decide +kernel
theorem dX8_setRate_30 : decode cX8_setRate 30 = .ok (.istore_n 3, 1) := by decide +kernel
theorem dX8_setRate_31 : decode cX8_setRate 31 = .ok (.iload_n 3, 1) := by decide +kernel
theorem dX8_setRate_32 : decode cX8_setRate 32 = .ok (.ifCond .eq 10, 3) := by decide +kernel
theorem dX8_setRate_35 : decode cX8_setRate 35 = .ok (.iload_n 2, 1) := by decide +kernel
theorem dX8_setRate_36 : decode cX8_setRate 36 = .ok (.invokestatic 51, 3) := by decide +kernel
theorem dX8_setRate_39 : decode cX8_setRate 39 = .ok (.goto 5, 3) := by decide +kernel
theorem dX8_setRate_42 : decode cX8_setRate 42 = .ok (.ldc 78, 2) := by decide +kernel
theorem dX8_setRate_44 : decode cX8_setRate 44 = .ok (.fstore 4, 2) := by decide +kernel
theorem dX8_setRate_46 : decode cX8_setRate 46 = .ok (.iload_n 1, 1) := by decide +kernel
theorem dX8_setRate_47 : decode cX8_setRate 47 = .ok (.ifCond .ne 8, 3) := by decide +kernel
theorem dX8_setRate_50 : decode cX8_setRate 50 = .ok (.ldc 79, 2) := by decide +kernel
theorem dX8_setRate_52 : decode cX8_setRate 52 = .ok (.goto 4, 3) := by decide +kernel
theorem dX8_setRate_55 : decode cX8_setRate 55 = .ok (.fconst 0, 1) := by decide +kernel
theorem dX8_setRate_56 : decode cX8_setRate 56 = .ok (.fstore 5, 2) := by decide +kernel
theorem dX8_setRate_58 : decode cX8_setRate 58 = .ok (.iload_n 1, 1) := by decide +kernel
theorem dX8_setRate_59 : decode cX8_setRate 59 = .ok (.ifCond .ne 7, 3) := by decide +kernel
theorem dX8_setRate_62 : decode cX8_setRate 62 = .ok (.fconst 1, 1) := by decide +kernel
theorem dX8_setRate_63 : decode cX8_setRate 63 = .ok (.goto 15, 3) := by decide +kernel
theorem dX8_setRate_66 : decode cX8_setRate 66 = .ok (.iload_n 1, 1) := by decide +kernel
theorem dX8_setRate_67 : decode cX8_setRate 67 = .ok (.iconst 1, 1) := by decide +kernel
theorem dX8_setRate_68 : decode cX8_setRate 68 = .ok (.if_icmp .ne 8, 3) := by decide +kernel
theorem dX8_setRate_71 : decode cX8_setRate 71 = .ok (.ldc 80, 2) := by decide +kernel
theorem dX8_setRate_73 : decode cX8_setRate 73 = .ok (.goto 5, 3) := by decide +kernel
theorem dX8_setRate_76 : decode cX8_setRate 76 = .ok (.ldc 50, 2) := by decide +kernel
theorem dX8_setRate_78 : decode cX8_setRate 78 = .ok (.fstore 6, 2) := by decide +kernel
theorem dX8_setRate_80 : decode cX8_setRate 80 = .ok (.fload 4, 2) := by decide +kernel
theorem dX8_setRate_82 : decode cX8_setRate 82 = .ok (.fload 5, 2) := by decide +kernel
theorem dX8_setRate_84 : decode cX8_setRate 84 = .ok (.fcmp .g, 1) := by decide +kernel
theorem dX8_setRate_85 : decode cX8_setRate 85 = .ok (.ifCond .lt 11, 3) := by decide +kernel
theorem dX8_setRate_88 : decode cX8_setRate 88 = .ok (.fload 4, 2) := by decide +kernel
theorem dX8_setRate_90 : decode cX8_setRate 90 = .ok (.fload 6, 2) := by decide +kernel
theorem dX8_setRate_92 : decode cX8_setRate 92 = .ok (.fcmp .l, 1) := by decide +kernel
theorem dX8_setRate_93 : decode cX8_setRate 93 = .ok (.ifCond .le 6, 3) := by decide +kernel
theorem dX8_setRate_96 : decode cX8_setRate 96 = .ok (.bipush (-2), 2) := by decide +kernel
theorem dX8_setRate_98 : decode cX8_setRate 98 = .ok (.ireturn, 1) := by decide +kernel
theorem dX8_setRate_99 : decode cX8_setRate 99 = .ok (.aload_n 0, 1) := by decide +kernel
theorem dX8_setRate_100 : decode cX8_setRate 100 = .ok (.getfield 7, 3) := by decide +kernel
theorem dX8_setRate_103 : decode cX8_setRate 103 = .ok (.iconst 2, 1) := by decide +kernel
theorem dX8_setRate_104 : decode cX8_setRate 104 = .ok (.iload_n 1, 1) := by decide +kernel
theorem dX8_setRate_105 : decode cX8_setRate 105 = .ok (.iadd, 1) := by decide +kernel
theorem dX8_setRate_106 : decode cX8_setRate 106 = .ok (.iaload, 1) := by decide +kernel
theorem dX8_setRate_107 : decode cX8_setRate 107 = .ok (.iload_n 2, 1) := by decide +kernel
theorem dX8_setRate_108 : decode cX8_setRate 108 = .ok (.if_icmp .ne 6, 3) := by decide +kernel
theorem dX8_setRate_111 : decode cX8_setRate 111 = .ok (.bipush (-5), 2) := by decide +kernel
theorem dX8_setRate_113 : decode cX8_setRate 113 = .ok (.ireturn, 1) := by decide +kernel
theorem dX8_setRate_114 : decode cX8_setRate 114 = .ok (.aload_n 0, 1) := by decide +kernel
theorem dX8_setRate_115 : decode cX8_setRate 115 = .ok (.invokevirtual 81, 3) := by decide +kernel
theorem dX8_setRate_118 : decode cX8_setRate 118 = .ok (.aload_n 0, 1) := by decide +kernel
theorem dX8_setRate_119 : decode cX8_setRate 119 = .ok (.getfield 7, 3) := by decide +kernel
theorem dX8_setRate_122 : decode cX8_setRate 122 = .ok (.iconst 2, 1) := by decide +kernel
theorem dX8_setRate_123 : decode cX8_setRate 123 = .ok (.iload_n 1, 1) := by decide +kernel
theorem dX8_setRate_124 : decode cX8_setRate 124 = .ok (.iadd, 1) := by decide +kernel
theorem dX8_setRate_125 : decode cX8_setRate 125 = .ok (.iload_n 2, 1) := by decide +kernel
theorem dX8_setRate_126 : decode cX8_setRate 126 = .ok (.iastore, 1) := by decide +kernel
theorem dX8_setRate_127 : decode cX8_setRate 127 = .ok (.iconst 1, 1) := by decide +kernel
theorem dX8_setRate_128 : decode cX8_setRate 128 = .ok (.ireturn, 1) := by decide +kernel
theorem dX8_setNumber_0 : decode cX8_setNumber 0 = .ok (.iload_n 1, 1) := by decide +kernel
theorem dX8_setNumber_1 : decode cX8_setNumber 1 = .ok (.iconst 0, 1) := by decide +kernel
theorem dX8_setNumber_2 : decode cX8_setNumber 2 = .ok (.iconst 2, 1) := by decide +kernel
theorem dX8_setNumber_3 : decode cX8_setNumber 3 = .ok (.invokestatic 38, 3) := by decide +kernel
theorem dX8_setNumber_6 : decode cX8_setNumber 6 = .ok (.ifCond .ne 5, 3) := by decide +kernel
theorem dX8_setNumber_9 : decode cX8_setNumber 9 = .ok (.iconst (-1), 1) := by decide +kernel
theorem dX8_setNumber_10 : decode cX8_setNumber 10 = .ok (.ireturn, 1) := by decide +kernel
theorem dX8_setNumber_11 : decode cX8_setNumber 11 = .ok (.iload_n 2, 1) := by decide +kernel
theorem dX8_setNumber_12 : decode cX8_setNumber 12 = .ok (.iload_n 1, 1) := by decide +kernel
theorem dX8_setNumber_13 : decode cX8_setNumber 13 = .ok (.iconst 2, 1) := by decide +kernel
theorem dX8_setNumber_14 : decode cX8_setNumber 14 = .ok (.if_icmp .ne 7, 3) := by decide +kernel
theorem dX8_setNumber_17 : decode cX8_setNumber 17 = .ok (.iconst 1, 1) := by decide +kernel
theorem dX8_setNumber_18 : decode cX8_setNumber 18 = .ok (.goto 4, 3) := by decide +kernel
theorem dX8_setNumber_21 : decode cX8_setNumber 21 = .ok (.iconst 0, 1) := by decide +kernel
theorem dX8_setNumber_22 : decode cX8_setNumber 22 = .ok (.iload_n 1, 1) := by decide +kernel
theorem dX8_setNumber_23 : decode cX8_setNumber 23 = .ok (.iconst 2, 1) := by decide +kernel
theorem dX8_setNumber_24 : decode cX8_setNumber 24 = .ok (.if_icmp .ne 9, 3) := by decide +kernel
theorem dX8_setNumber_27 : decode cX8_setNumber 27 = .ok (.sipush 365, 3) := by decide +kernel
theorem dX8_setNumber_30 : decode cX8_setNumber 30 = .ok (.goto 5, 3) := by decide +kernel
theorem dX8_setNumber_33 : decode cX8_setNumber 33 = .ok (.bipush 90, 2) := by decide +kernel
theorem dX8_setNumber_35 : decode cX8_setNumber 35 = .ok (.invokestatic 38, 3) := by decide +kernel
theorem dX8_setNumber_38 : decode cX8_setNumber 38 = .ok (.ifCond .ne 6, 3) := by decide +kernel
theorem dX8_setNumber_41 : decode cX8_setNumber 41 = .ok (.bipush (-2), 2) := by decide +kernel
theorem dX8_setNumber_43 : decode cX8_setNumber 43 = .ok (.ireturn, 1) := by decide +kernel
theorem dX8_setNumber_44 : decode cX8_setNumber 44 = .ok (.aload_n 0, 1) := by decide +kernel
theorem dX8_setNumber_45 : decode cX8_setNumber 45 = .ok (.getfield 7, 3) := by decide +kernel
theorem dX8_setNumber_48 : decode cX8_setNumber 48 = .ok (.iconst 5, 1) := by decide +kernel
theorem dX8_setNumber_49 : decode cX8_setNumber 49 = .ok (.iload_n 1, 1) := by decide +kernel
theorem dX8_setNumber_50 : decode cX8_setNumber 50 = .ok (.iadd, 1) := by decide +kernel
theorem dX8_setNumber_51 : decode cX8_setNumber 51 = .ok (.iaload, 1) := by decide +kernel
theorem dX8_setNumber_52 : decode cX8_setNumber 52 = .ok (.istore_n 3, 1) := by decide +kernel
theorem dX8_setNumber_53 : decode cX8_setNumber 53 = .ok (.iload_n 3, 1) := by decide +kernel
theorem dX8_setNumber_54 : decode cX8_setNumber 54 = .ok (.iload_n 2, 1) := by decide +kernel
theorem dX8_setNumber_55 : decode cX8_setNumber 55 = .ok (.if_icmp .ne 6, 3) := by decide +kernel
theorem dX8_setNumber_58 : decode cX8_setNumber 58 = .ok (.bipush (-5), 2) := by decide +kernel
theorem dX8_setNumber_60 : decode cX8_setNumber 60 = .ok (.ireturn, 1) := by decide +kernel
theorem dX8_setNumber_61 : decode cX8_setNumber 61 = .ok (.aload_n 0, 1) := by decide +kernel
theorem dX8_setNumber_62 : decode cX8_setNumber 62 = .ok (.invokevirtual 81, 3) := by decide +kernel
theorem dX8_setNumber_65 : decode cX8_setNumber 65 = .ok (.aload_n 0, 1) := by decide +kernel
theorem dX8_setNumber_66 : decode cX8_setNumber 66 = .ok (.getfield 7, 3) := by decide +kernel
theorem dX8_setNumber_69 : decode cX8_setNumber 69 = .ok (.iconst 5, 1) := by decide +kernel
theorem dX8_setNumber_70 : decode cX8_setNumber 70 = .ok (.iload_n 1, 1) := by decide +kernel
theorem dX8_setNumber_71 : decode cX8_setNumber 71 = .ok (.iadd, 1) := by decide +kernel
theorem dX8_setNumber_72 : decode cX8_setNumber 72 = .ok (.iload_n 2, 1) := by decide +kernel
theorem dX8_setNumber_73 : decode cX8_setNumber 73 = .ok (.iastore, 1) := by decide +kernel
theorem dX8_setNumber_74 : decode cX8_setNumber 74 = .ok (.iload_n 3, 1) := by decide +kernel
theorem dX8_setNumber_75 : decode cX8_setNumber 75 = .ok (.ireturn, 1) := by decide +kernel
theorem dX8_addMember_0 : decode cX8_addMember 0 = .ok (.iload_n 1, 1) := by decide +kernel
theorem dX8_addMember_1 : decode cX8_addMember 1 = .ok (.iconst 1, 1) := by decide +kernel
theorem dX8_addMember_2 : decode cX8_addMember 2 = .ok (.bipush 9, 2) := by decide +kernel
theorem dX8_addMember_4 : decode cX8_addMember 4 = .ok (.invokestatic 38, 3) := by decide +kernel
theorem dX8_addMember_7 : decode cX8_addMember 7 = .ok (.ifCond .ne 6, 3) := by decide +kernel
theorem dX8_addMember_10 : decode cX8_addMember 10 = .ok (.bipush (-2), 2) := by decide +kernel
theorem dX8_addMember_12 : decode cX8_addMember 12 = .ok (.ireturn, 1) := by decide +kernel
theorem dX8_addMember_13 : decode cX8_addMember 13 = .ok (.aload_n 0, 1) := by decide +kernel
theorem dX8_addMember_14 : decode cX8_addMember 14 = .ok (.getfield 7, 3) := by decide +kernel
theorem dX8_addMember_17 : decode cX8_addMember 17 = .ok (.bipush 8, 2) := by decide +kernel
theorem dX8_addMember_19 : decode cX8_addMember 19 = .ok (.iaload, 1) := by decide +kernel
theorem dX8_addMember_20 : decode cX8_addMember 20 = .ok (.bipush 8, 2) := by decide +kernel
theorem dX8_addMember_22 : decode cX8_addMember 22 = .ok (.if_icmp .ne 6, 3) := by decide +kernel
theorem dX8_addMember_25 : decode cX8_addMember 25 = .ok (.bipush (-3), 2) := by decide +kernel
theorem dX8_addMember_27 : decode cX8_addMember 27 = .ok (.ireturn, 1) := by decide +kernel
theorem dX8_addMember_28 : decode cX8_addMember 28 = .ok (.aload_n 0, 1) := by decide +kernel
theorem dX8_addMember_29 : decode cX8_addMember 29 = .ok (.invokevirtual 81, 3) := by decide +kernel
theorem dX8_addMember_32 : decode cX8_addMember 32 = .ok (.aload_n 0, 1) := by decide +kernel
theorem dX8_addMember_33 : decode cX8_addMember 33 = .ok (.getfield 7, 3) := by decide +kernel
theorem dX8_addMember_36 : decode cX8_addMember 36 = .ok (.bipush 8, 2) := by decide +kernel
theorem dX8_addMember_38 : decode cX8_addMember 38 = .ok (.iaload, 1) := by decide +kernel
theorem dX8_addMember_39 : decode cX8_addMember 39 = .ok (.istore_n 2, 1) := by decide +kernel
theorem dX8_addMember_40 : decode cX8_addMember 40 = .ok (.aload_n 0, 1) := by decide +kernel
theorem dX8_addMember_41 : decode cX8_addMember 41 = .ok (.getfield 7, 3) := by decide +kernel
theorem dX8_addMember_44 : decode cX8_addMember 44 = .ok (.iload_n 2, 1) := by decide +kernel
theorem dX8_addMember_45 : decode cX8_addMember 45 = .ok (.iconst 0, 1) := by decide +kernel
theorem dX8_addMember_46 : decode cX8_addMember 46 = .ok (.invokestatic 84, 3) := by decide +kernel
theorem dX8_addMember_49 : decode cX8_addMember 49 = .ok (.iload_n 1, 1) := by decide +kernel
theorem dX8_addMember_50 : decode cX8_addMember 50 = .ok (.iastore, 1) := by decide +kernel
theorem dX8_addMember_51 : decode cX8_addMember 51 = .ok (.aload_n 0, 1) := by decide +kernel
theorem dX8_addMember_52 : decode cX8_addMember 52 = .ok (.getfield 7, 3) := by decide +kernel
theorem dX8_addMember_55 : decode cX8_addMember 55 = .ok (.iload_n 2, 1) := by decide +kernel
theorem dX8_addMember_56 : decode cX8_addMember 56 = .ok (.iconst 1, 1) := by decide +kernel
theorem dX8_addMember_57 : decode cX8_addMember 57 = .ok (.invokestatic 84, 3) := by decide +kernel
theorem dX8_addMember_60 : decode cX8_addMember 60 = .ok (.iconst 0, 1) := by decide +kernel
theorem dX8_addMember_61 : decode cX8_addMember 61 = .ok (.iastore, 1) := by decide +kernel
theorem dX8_addMember_62 : decode cX8_addMember 62 = .ok (.aload_n 0, 1) := by decide +kernel
theorem dX8_addMember_63 : decode cX8_addMember 63 = .ok (.getfield 7, 3) := by decide +kernel
theorem dX8_addMember_66 : decode cX8_addMember 66 = .ok (.iload_n 2, 1) := by decide +kernel
theorem dX8_addMember_67 : decode cX8_addMember 67 = .ok (.iconst 2, 1) := by decide +kernel
theorem dX8_addMember_68 : decode cX8_addMember 68 = .ok (.invokestatic 84, 3) := by decide +kernel
theorem dX8_addMember_71 : decode cX8_addMember 71 = .ok (.iconst 0, 1) := by decide +kernel
theorem dX8_addMember_72 : decode cX8_addMember 72 = .ok (.iastore, 1) := by decide +kernel
theorem dX8_addMember_73 : decode cX8_addMember 73 = .ok (.aload_n 0, 1) := by decide +kernel
theorem dX8_addMember_74 : decode cX8_addMember 74 = .ok (.getfield 7, 3) := by decide +kernel
theorem dX8_addMember_77 : decode cX8_addMember 77 = .ok (.iload_n 2, 1) := by decide +kernel
theorem dX8_addMember_78 : decode cX8_addMember 78 = .ok (.iconst 3, 1) := by decide +kernel
theorem dX8_addMember_79 : decode cX8_addMember 79 = .ok (.invokestatic 84, 3) := by decide +kernel
theorem dX8_addMember_82 : decode cX8_addMember 82 = .ok (.iconst 0, 1) := by decide +kernel
theorem dX8_addMember_83 : decode cX8_addMember 83 = .ok (.iastore, 1) := by decide +kernel
theorem dX8_addMember_84 : decode cX8_addMember 84 = .ok (.aload_n 0, 1) := by decide +kernel
theorem dX8_addMember_85 : decode cX8_addMember 85 = .ok (.getfield 7, 3) := by decide +kernel
theorem dX8_addMember_88 : decode cX8_addMember 88 = .ok (.bipush 8, 2) := by decide +kernel
theorem dX8_addMember_90 : decode cX8_addMember 90 = .ok (.dup2, 1) := by decide +kernel
theorem dX8_addMember_91 : decode cX8_addMember 91 = .ok (.iaload, 1) := by decide +kernel
theorem dX8_addMember_92 : decode cX8_addMember 92 = .ok (.iconst 1, 1) := by decide +kernel
theorem dX8_addMember_93 : decode cX8_addMember 93 = .ok (.iadd, 1) := by decide +kernel
theorem dX8_addMember_94 : decode cX8_addMember 94 = .ok (.iastore, 1) := by decide +kernel
theorem dX8_addMember_95 : decode cX8_addMember 95 = .ok (.iload_n 2, 1) := by decide +kernel
theorem dX8_addMember_96 : decode cX8_addMember 96 = .ok (.ireturn, 1) := by decide +kernel
theorem dX8_payDues_0 : decode cX8_payDues 0 = .ok (.aload_n 0, 1) := by decide +kernel
theorem dX8_payDues_1 : decode cX8_payDues 1 = .ok (.iload_n 1, 1) := by decide +kernel
theorem dX8_payDues_2 : decode cX8_payDues 2 = .ok (.invokevirtual 87, 3) := by decide +kernel
theorem dX8_payDues_5 : decode cX8_payDues 5 = .ok (.ifCond .ne 5, 3) := by decide +kernel
theorem dX8_payDues_8 : decode cX8_payDues 8 = .ok (.iconst (-1), 1) := by decide +kernel
theorem dX8_payDues_9 : decode cX8_payDues 9 = .ok (.ireturn, 1) := by decide +kernel
theorem dX8_payDues_10 : decode cX8_payDues 10 = .ok (.iload_n 2, 1) := by decide +kernel
theorem dX8_payDues_11 : decode cX8_payDues 11 = .ok (.iconst 1, 1) := by decide +kernel
theorem dX8_payDues_12 : decode cX8_payDues 12 = .ok (.ldc 91, 2) := by decide +kernel
theorem dX8_payDues_14 : decode cX8_payDues 14 = .ok (.invokestatic 38, 3) := by decide +kernel
theorem dX8_payDues_17 : decode cX8_payDues 17 = .ok (.ifCond .ne 6, 3) := by decide +kernel
theorem dX8_payDues_20 : decode cX8_payDues 20 = .ok (.bipush (-2), 2) := by decide +kernel
theorem dX8_payDues_22 : decode cX8_payDues 22 = .ok (.ireturn, 1) := by decide +kernel
theorem dX8_payDues_23 : decode cX8_payDues 23 = .ok (.aload_n 0, 1) := by decide +kernel
theorem dX8_payDues_24 : decode cX8_payDues 24 = .ok (.getfield 7, 3) := by decide +kernel
theorem dX8_payDues_27 : decode cX8_payDues 27 = .ok (.iload_n 1, 1) := by decide +kernel
theorem dX8_payDues_28 : decode cX8_payDues 28 = .ok (.iconst 1, 1) := by decide +kernel
theorem dX8_payDues_29 : decode cX8_payDues 29 = .ok (.invokestatic 84, 3) := by decide +kernel
theorem dX8_payDues_32 : decode cX8_payDues 32 = .ok (.iaload, 1) := by decide +kernel
theorem dX8_payDues_33 : decode cX8_payDues 33 = .ok (.iload_n 2, 1) := by decide +kernel
theorem dX8_payDues_34 : decode cX8_payDues 34 = .ok (.iadd, 1) := by decide +kernel
theorem dX8_payDues_35 : decode cX8_payDues 35 = .ok (.ldc 92, 2) := by decide +kernel
theorem dX8_payDues_37 : decode cX8_payDues 37 = .ok (.if_icmp .le 6, 3) := by decide +kernel
theorem dX8_payDues_40 : decode cX8_payDues 40 = .ok (.bipush (-3), 2) := by decide +kernel
theorem dX8_payDues_42 : decode cX8_payDues 42 = .ok (.ireturn, 1) := by decide +kernel
theorem dX8_payDues_43 : decode cX8_payDues 43 = .ok (.aload_n 0, 1) := by decide +kernel
theorem dX8_payDues_44 : decode cX8_payDues 44 = .ok (.invokevirtual 81, 3) := by decide +kernel
theorem dX8_payDues_47 : decode cX8_payDues 47 = .ok (.aload_n 0, 1) := by decide +kernel
theorem dX8_payDues_48 : decode cX8_payDues 48 = .ok (.getfield 7, 3) := by decide +kernel
theorem dX8_payDues_51 : decode cX8_payDues 51 = .ok (.iload_n 1, 1) := by decide +kernel
theorem dX8_payDues_52 : decode cX8_payDues 52 = .ok (.iconst 1, 1) := by decide +kernel
theorem dX8_payDues_53 : decode cX8_payDues 53 = .ok (.invokestatic 84, 3) := by decide +kernel
theorem dX8_payDues_56 : decode cX8_payDues 56 = .ok (.dup2, 1) := by decide +kernel
theorem dX8_payDues_57 : decode cX8_payDues 57 = .ok (.iaload, 1) := by decide +kernel
theorem dX8_payDues_58 : decode cX8_payDues 58 = .ok (.iload_n 2, 1) := by decide +kernel
theorem dX8_payDues_59 : decode cX8_payDues 59 = .ok (.iadd, 1) := by decide +kernel
theorem dX8_payDues_60 : decode cX8_payDues 60 = .ok (.iastore, 1) := by decide +kernel
theorem dX8_payDues_61 : decode cX8_payDues 61 = .ok (.aload_n 0, 1) := by decide +kernel
theorem dX8_payDues_62 : decode cX8_payDues 62 = .ok (.getfield 7, 3) := by decide +kernel
theorem dX8_payDues_65 : decode cX8_payDues 65 = .ok (.iconst 1, 1) := by decide +kernel
theorem dX8_payDues_66 : decode cX8_payDues 66 = .ok (.dup2, 1) := by decide +kernel
theorem dX8_payDues_67 : decode cX8_payDues 67 = .ok (.iaload, 1) := by decide +kernel
theorem dX8_payDues_68 : decode cX8_payDues 68 = .ok (.iload_n 2, 1) := by decide +kernel
theorem dX8_payDues_69 : decode cX8_payDues 69 = .ok (.iadd, 1) := by decide +kernel
theorem dX8_payDues_70 : decode cX8_payDues 70 = .ok (.iastore, 1) := by decide +kernel
theorem dX8_payDues_71 : decode cX8_payDues 71 = .ok (.aload_n 0, 1) := by decide +kernel
theorem dX8_payDues_72 : decode cX8_payDues 72 = .ok (.getfield 7, 3) := by decide +kernel
theorem dX8_payDues_75 : decode cX8_payDues 75 = .ok (.iload_n 1, 1) := by decide +kernel
theorem dX8_payDues_76 : decode cX8_payDues 76 = .ok (.iconst 1, 1) := by decide +kernel
theorem dX8_payDues_77 : decode cX8_payDues 77 = .ok (.invokestatic 84, 3) := by decide +kernel
theorem dX8_payDues_80 : decode cX8_payDues 80 = .ok (.iaload, 1) := by decide +kernel
theorem dX8_payDues_81 : decode cX8_payDues 81 = .ok (.ireturn, 1) := by decide +kernel
theorem dX8_addInvoice_0 : decode cX8_addInvoice 0 = .ok (.aload_n 0, 1) := by decide +kernel
theorem dX8_addInvoice_1 : decode cX8_addInvoice 1 = .ok (.iload_n 1, 1) := by decide +kernel
theorem dX8_addInvoice_2 : decode cX8_addInvoice 2 = .ok (.invokevirtual 87, 3) := by decide +kernel
theorem dX8_addInvoice_5 : decode cX8_addInvoice 5 = .ok (.ifCond .eq 10, 3) := by decide +kernel
theorem dX8_addInvoice_8 : decode cX8_addInvoice 8 = .ok (.iload_n 2, 1) := by decide +kernel
theorem dX8_addInvoice_9 : decode cX8_addInvoice 9 = .ok (.invokestatic 93, 3) := by decide +kernel
theorem dX8_addInvoice_12 : decode cX8_addInvoice 12 = .ok (.ifCond .ne 5, 3) := by decide +kernel
theorem dX8_addInvoice_15 : decode cX8_addInvoice 15 = .ok (.iconst (-1), 1) := by decide +kernel
theorem dX8_addInvoice_16 : decode cX8_addInvoice 16 = .ok (.ireturn, 1) := by decide +kernel
theorem dX8_addInvoice_17 : decode cX8_addInvoice 17 = .ok (.iload_n 3, 1) := by decide +kernel
theorem dX8_addInvoice_18 : decode cX8_addInvoice 18 = .ok (.bipush 100, 2) := by decide +kernel
theorem dX8_addInvoice_20 : decode cX8_addInvoice 20 = .ok (.ldc 91, 2) := by decide +kernel
theorem dX8_addInvoice_22 : decode cX8_addInvoice 22 = .ok (.invokestatic 38, 3) := by decide +kernel
theorem dX8_addInvoice_25 : decode cX8_addInvoice 25 = .ok (.ifCond .eq 15, 3) := by decide +kernel
theorem dX8_addInvoice_28 : decode cX8_addInvoice 28 = .ok (.iload 4, 2) := by decide +kernel
theorem dX8_addInvoice_30 : decode cX8_addInvoice 30 = .ok (.iconst 0, 1) := by decide +kernel
theorem dX8_addInvoice_31 : decode cX8_addInvoice 31 = .ok (.sipush 9999, 3) := by decide +kernel
theorem dX8_addInvoice_34 : decode cX8_addInvoice 34 = .ok (.invokestatic 38, 3) := by decide +kernel
theorem dX8_addInvoice_37 : decode cX8_addInvoice 37 = .ok (.ifCond .ne 6, 3) := by decide +kernel
theorem dX8_addInvoice_40 : decode cX8_addInvoice 40 = .ok (.bipush (-2), 2) := by decide +kernel
theorem dX8_addInvoice_42 : decode cX8_addInvoice 42 = .ok (.ireturn, 1) := by decide +kernel
theorem dX8_addInvoice_43 : decode cX8_addInvoice 43 = .ok (.aload_n 0, 1) := by decide +kernel
theorem dX8_addInvoice_44 : decode cX8_addInvoice 44 = .ok (.getfield 7, 3) := by decide +kernel
theorem dX8_addInvoice_47 : decode cX8_addInvoice 47 = .ok (.bipush 9, 2) := by decide +kernel
theorem dX8_addInvoice_49 : decode cX8_addInvoice 49 = .ok (.iaload, 1) := by decide +kernel
theorem dX8_addInvoice_50 : decode cX8_addInvoice 50 = .ok (.bipush 20, 2) := by decide +kernel
theorem dX8_addInvoice_52 : decode cX8_addInvoice 52 = .ok (.if_icmp .ne 6, 3) := by decide +kernel
theorem dX8_addInvoice_55 : decode cX8_addInvoice 55 = .ok (.bipush (-3), 2) := by decide +kernel
theorem dX8_addInvoice_57 : decode cX8_addInvoice 57 = .ok (.ireturn, 1) := by decide +kernel
theorem dX8_addInvoice_58 : decode cX8_addInvoice 58 = .ok (.aload_n 0, 1) := by decide +kernel
theorem dX8_addInvoice_59 : decode cX8_addInvoice 59 = .ok (.invokevirtual 81, 3) := by decide +kernel
theorem dX8_addInvoice_62 : decode cX8_addInvoice 62 = .ok (.aload_n 0, 1) := by decide +kernel
theorem dX8_addInvoice_63 : decode cX8_addInvoice 63 = .ok (.getfield 7, 3) := by decide +kernel
theorem dX8_addInvoice_66 : decode cX8_addInvoice 66 = .ok (.bipush 9, 2) := by decide +kernel
theorem dX8_addInvoice_68 : decode cX8_addInvoice 68 = .ok (.iaload, 1) := by decide +kernel
theorem dX8_addInvoice_69 : decode cX8_addInvoice 69 = .ok (.istore 5, 2) := by decide +kernel
theorem dX8_addInvoice_71 : decode cX8_addInvoice 71 = .ok (.aload_n 0, 1) := by decide +kernel
theorem dX8_addInvoice_72 : decode cX8_addInvoice 72 = .ok (.getfield 7, 3) := by decide +kernel
theorem dX8_addInvoice_75 : decode cX8_addInvoice 75 = .ok (.iload 5, 2) := by decide +kernel
theorem dX8_addInvoice_77 : decode cX8_addInvoice 77 = .ok (.iconst 0, 1) := by decide +kernel
theorem dX8_addInvoice_78 : decode cX8_addInvoice 78 = .ok (.invokestatic 59, 3) := by decide +kernel
theorem dX8_addInvoice_81 : decode cX8_addInvoice 81 = .ok (.iload_n 1, 1) := by decide +kernel
theorem dX8_addInvoice_82 : decode cX8_addInvoice 82 = .ok (.iastore, 1) := by decide +kernel
theorem dX8_addInvoice_83 : decode cX8_addInvoice 83 = .ok (.aload_n 0, 1) := by decide +kernel
theorem dX8_addInvoice_84 : decode cX8_addInvoice 84 = .ok (.getfield 7, 3) := by decide +kernel
theorem dX8_addInvoice_87 : decode cX8_addInvoice 87 = .ok (.iload 5, 2) := by decide +kernel
theorem dX8_addInvoice_89 : decode cX8_addInvoice 89 = .ok (.iconst 1, 1) := by decide +kernel
theorem dX8_addInvoice_90 : decode cX8_addInvoice 90 = .ok (.invokestatic 59, 3) := by decide +kernel
theorem dX8_addInvoice_93 : decode cX8_addInvoice 93 = .ok (.iload_n 2, 1) := by decide +kernel
theorem dX8_addInvoice_94 : decode cX8_addInvoice 94 = .ok (.iastore, 1) := by decide +kernel
theorem dX8_addInvoice_95 : decode cX8_addInvoice 95 = .ok (.aload_n 0, 1) := by decide +kernel
theorem dX8_addInvoice_96 : decode cX8_addInvoice 96 = .ok (.getfield 7, 3) := by decide +kernel
theorem dX8_addInvoice_99 : decode cX8_addInvoice 99 = .ok (.iload 5, 2) := by decide +kernel
theorem dX8_addInvoice_101 : decode cX8_addInvoice 101 = .ok (.iconst 2, 1) := by decide +kernel
theorem dX8_addInvoice_102 : decode cX8_addInvoice 102 = .ok (.invokestatic 59, 3) := by decide +kernel
theorem dX8_addInvoice_105 : decode cX8_addInvoice 105 = .ok (.iload_n 3, 1) := by decide +kernel
theorem dX8_addInvoice_106 : decode cX8_addInvoice 106 = .ok (.iastore, 1) := by decide +kernel
theorem dX8_addInvoice_107 : decode cX8_addInvoice 107 = .ok (.aload_n 0, 1) := by decide +kernel
theorem dX8_addInvoice_108 : decode cX8_addInvoice 108 = .ok (.getfield 7, 3) := by decide +kernel
theorem dX8_addInvoice_111 : decode cX8_addInvoice 111 = .ok (.iload 5, 2) := by decide +kernel
theorem dX8_addInvoice_113 : decode cX8_addInvoice 113 = .ok (.iconst 3, 1) := by decide +kernel
theorem dX8_addInvoice_114 : decode cX8_addInvoice 114 = .ok (.invokestatic 59, 3) := by decide +kernel
theorem dX8_addInvoice_117 : decode cX8_addInvoice 117 = .ok (.iload 4, 2) := by decide +kernel
theorem dX8_addInvoice_119 : decode cX8_addInvoice 119 = .ok (.iastore, 1) := by decide +kernel
theorem dX8_addInvoice_120 : decode cX8_addInvoice 120 = .ok (.aload_n 0, 1) := by decide +kernel
theorem dX8_addInvoice_121 : decode cX8_addInvoice 121 = .ok (.getfield 7, 3) := by decide +kernel
theorem dX8_addInvoice_124 : decode cX8_addInvoice 124 = .ok (.iload 5, 2) := by decide +kernel
theorem dX8_addInvoice_126 : decode cX8_addInvoice 126 = .ok (.iconst 4, 1) := by decide +kernel
theorem dX8_addInvoice_127 : decode cX8_addInvoice 127 = .ok (.invokestatic 59, 3) := by decide +kernel
theorem dX8_addInvoice_130 : decode cX8_addInvoice 130 = .ok (.iconst 0, 1) := by decide +kernel
theorem dX8_addInvoice_131 : decode cX8_addInvoice 131 = .ok (.iastore, 1) := by decide +kernel
theorem dX8_addInvoice_132 : decode cX8_addInvoice 132 = .ok (.aload_n 0, 1) := by decide +kernel
theorem dX8_addInvoice_133 : decode cX8_addInvoice 133 = .ok (.getfield 7, 3) := by decide +kernel
theorem dX8_addInvoice_136 : decode cX8_addInvoice 136 = .ok (.iload 5, 2) := by decide +kernel
theorem dX8_addInvoice_138 : decode cX8_addInvoice 138 = .ok (.iconst 5, 1) := by decide +kernel
theorem dX8_addInvoice_139 : decode cX8_addInvoice 139 = .ok (.invokestatic 59, 3) := by decide +kernel
theorem dX8_addInvoice_142 : decode cX8_addInvoice 142 = .ok (.iconst 0, 1) := by decide +kernel
theorem dX8_addInvoice_143 : decode cX8_addInvoice 143 = .ok (.iastore, 1) := by decide +kernel
theorem dX8_addInvoice_144 : decode cX8_addInvoice 144 = .ok (.aload_n 0, 1) := by decide +kernel
theorem dX8_addInvoice_145 : decode cX8_addInvoice 145 = .ok (.getfield 7, 3) := by decide +kernel
theorem dX8_addInvoice_148 : decode cX8_addInvoice 148 = .ok (.iload 5, 2) := by decide +kernel
theorem dX8_addInvoice_150 : decode cX8_addInvoice 150 = .ok (.bipush 6, 2) := by decide +kernel
theorem dX8_addInvoice_152 : decode cX8_addInvoice 152 = .ok (.invokestatic 59, 3) := by decide +kernel
theorem dX8_addInvoice_155 : decode cX8_addInvoice 155 = .ok (.iconst 0, 1) := by decide +kernel
theorem dX8_addInvoice_156 : decode cX8_addInvoice 156 = .ok (.iastore, 1) := by decide +kernel
theorem dX8_addInvoice_157 : decode cX8_addInvoice 157 = .ok (.aload_n 0, 1) := by decide +kernel
theorem dX8_addInvoice_158 : decode cX8_addInvoice 158 = .ok (.getfield 7, 3) := by decide +kernel
theorem dX8_addInvoice_161 : decode cX8_addInvoice 161 = .ok (.bipush 9, 2) := by decide +kernel
theorem dX8_addInvoice_163 : decode cX8_addInvoice 163 = .ok (.dup2, 1) := by decide +kernel
theorem dX8_addInvoice_164 : decode cX8_addInvoice 164 = .ok (.iaload, 1) := by decide +kernel
theorem dX8_addInvoice_165 : decode cX8_addInvoice 165 = .ok (.iconst 1, 1) := by decide +kernel
theorem dX8_addInvoice_166 : decode cX8_addInvoice 166 = .ok (.iadd, 1) := by decide +kernel
theorem dX8_addInvoice_167 : decode cX8_addInvoice 167 = .ok (.iastore, 1) := by decide +kernel
theorem dX8_addInvoice_168 : decode cX8_addInvoice 168 = .ok (.iload 5, 2) := by decide +kernel
theorem dX8_addInvoice_170 : decode cX8_addInvoice 170 = .ok (.ireturn, 1) := by decide +kernel
theorem dX8_allDues_0 : decode cX8_allDues 0 = .ok (.iconst 0, 1) := by decide +kernel
theorem dX8_allDues_1 : decode cX8_allDues 1 = .ok (.istore_n 1, 1) := by decide +kernel
theorem dX8_allDues_2 : decode cX8_allDues 2 = .ok (.iconst 0, 1) := by decide +kernel
theorem dX8_allDues_3 : decode cX8_allDues 3 = .ok (.istore_n 2, 1) := by decide +kernel
theorem dX8_allDues_4 : decode cX8_allDues 4 = .ok (.iload_n 2, 1) := by decide +kernel
theorem dX8_allDues_5 : decode cX8_allDues 5 = .ok (.aload_n 0, 1) := by decide +kernel
theorem dX8_allDues_6 : decode cX8_allDues 6 = .ok (.getfield 7, 3) := by decide +kernel
theorem dX8_allDues_9 : decode cX8_allDues 9 = .ok (.bipush 8, 2) := by decide +kernel
theorem dX8_allDues_11 : decode cX8_allDues 11 = .ok (.iaload, 1) := by decide +kernel
theorem dX8_allDues_12 : decode cX8_allDues 12 = .ok (.if_icmp .ge 22, 3) := by decide +kernel
theorem dX8_allDues_15 : decode cX8_allDues 15 = .ok (.iload_n 1, 1) := by decide +kernel
theorem dX8_allDues_16 : decode cX8_allDues 16 = .ok (.aload_n 0, 1) := by decide +kernel
theorem dX8_allDues_17 : decode cX8_allDues 17 = .ok (.getfield 7, 3) := by decide +kernel
theorem dX8_allDues_20 : decode cX8_allDues 20 = .ok (.iload_n 2, 1) := by decide +kernel
theorem dX8_allDues_21 : decode cX8_allDues 21 = .ok (.iconst 1, 1) := by decide +kernel
theorem dX8_allDues_22 : decode cX8_allDues 22 = .ok (.invokestatic 84, 3) := by decide +kernel
theorem dX8_allDues_25 : decode cX8_allDues 25 = .ok (.iaload, 1) := by decide +kernel
theorem dX8_allDues_26 : decode cX8_allDues 26 = .ok (.iadd, 1) := by decide +kernel
theorem dX8_allDues_27 : decode cX8_allDues 27 = .ok (.istore_n 1, 1) := by decide +kernel
theorem dX8_allDues_28 : decode cX8_allDues 28 = .ok (.iinc 2 1, 3) := by decide +kernel
theorem dX8_allDues_31 : decode cX8_allDues 31 = .ok (.goto (-27), 3) := by decide +kernel
theorem dX8_allDues_34 : decode cX8_allDues 34 = .ok (.iload_n 1, 1) := by decide +kernel
theorem dX8_allDues_35 : decode cX8_allDues 35 = .ok (.ireturn, 1) := by decide +kernel
theorem dX8_reserve_0 : decode cX8_reserve 0 = .ok (.aload_n 0, 1) := by decide +kernel
theorem dX8_reserve_1 : decode cX8_reserve 1 = .ok (.invokevirtual 96, 3) := by decide +kernel
theorem dX8_reserve_4 : decode cX8_reserve 4 = .ok (.i2l, 1) := by decide +kernel
theorem dX8_reserve_5 : decode cX8_reserve 5 = .ok (.aload_n 0, 1) := by decide +kernel
theorem dX8_reserve_6 : decode cX8_reserve 6 = .ok (.getfield 7, 3) := by decide +kernel
theorem dX8_reserve_9 : decode cX8_reserve 9 = .ok (.bipush 6, 2) := by decide +kernel
theorem dX8_reserve_11 : decode cX8_reserve 11 = .ok (.iaload, 1) := by decide +kernel
theorem dX8_reserve_12 : decode cX8_reserve 12 = .ok (.i2l, 1) := by decide +kernel
theorem dX8_reserve_13 : decode cX8_reserve 13 = .ok (.lmul, 1) := by decide +kernel
theorem dX8_reserve_14 : decode cX8_reserve 14 = .ok (.ldc2_w 100, 3) := by decide +kernel
theorem dX8_reserve_17 : decode cX8_reserve 17 = .ok (.ldiv, 1) := by decide +kernel
theorem dX8_reserve_18 : decode cX8_reserve 18 = .ok (.l2i, 1) := by decide +kernel
theorem dX8_reserve_19 : decode cX8_reserve 19 = .ok (.ireturn, 1) := by decide +kernel
theorem dX8_mayAhead_0 : decode cX8_mayAhead 0 = .ok (.aload_n 0, 1) := by decide +kernel
theorem dX8_mayAhead_1 : decode cX8_mayAhead 1 = .ok (.iload_n 1, 1) := by decide +kernel
theorem dX8_mayAhead_2 : decode cX8_mayAhead 2 = .ok (.iconst 0, 1) := by decide +kernel
theorem dX8_mayAhead_3 : decode cX8_mayAhead 3 = .ok (.invokevirtual 75, 3) := by decide +kernel
theorem dX8_mayAhead_6 : decode cX8_mayAhead 6 = .ok (.istore_n 2, 1) := by decide +kernel
theorem dX8_mayAhead_7 : decode cX8_mayAhead 7 = .ok (.aload_n 0, 1) := by decide +kernel
theorem dX8_mayAhead_8 : decode cX8_mayAhead 8 = .ok (.getfield 7, 3) := by decide +kernel
theorem dX8_mayAhead_11 : decode cX8_mayAhead 11 = .ok (.iload_n 1, 1) := by decide +kernel
theorem dX8_mayAhead_12 : decode cX8_mayAhead 12 = .ok (.iconst 4, 1) := by decide +kernel
theorem dX8_mayAhead_13 : decode cX8_mayAhead 13 = .ok (.invokestatic 59, 3) := by decide +kernel
theorem dX8_mayAhead_16 : decode cX8_mayAhead 16 = .ok (.iaload, 1) := by decide +kernel
theorem dX8_mayAhead_17 : decode cX8_mayAhead 17 = .ok (.ifCond .ne 46, 3) := by decide +kernel
theorem dX8_mayAhead_20 : decode cX8_mayAhead 20 = .ok (.aload_n 0, 1) := by decide +kernel
theorem dX8_mayAhead_21 : decode cX8_mayAhead 21 = .ok (.getfield 7, 3) := by decide +kernel
theorem dX8_mayAhead_24 : decode cX8_mayAhead 24 = .ok (.iload_n 1, 1) := by decide +kernel
theorem dX8_mayAhead_25 : decode cX8_mayAhead 25 = .ok (.iconst 5, 1) := by decide +kernel
theorem dX8_mayAhead_26 : decode cX8_mayAhead 26 = .ok (.invokestatic 59, 3) := by decide +kernel
theorem dX8_mayAhead_29 : decode cX8_mayAhead 29 = .ok (.iaload, 1) := by decide +kernel
theorem dX8_mayAhead_30 : decode cX8_mayAhead 30 = .ok (.ifCond .ne 33, 3) := by decide +kernel
theorem dX8_mayAhead_33 : decode cX8_mayAhead 33 = .ok (.aload_n 0, 1) := by decide +kernel
theorem dX8_mayAhead_34 : decode cX8_mayAhead 34 = .ok (.getfield 7, 3) := by decide +kernel
theorem dX8_mayAhead_37 : decode cX8_mayAhead 37 = .ok (.iconst 0, 1) := by decide +kernel
theorem dX8_mayAhead_38 : decode cX8_mayAhead 38 = .ok (.iaload, 1) := by decide +kernel
theorem dX8_mayAhead_39 : decode cX8_mayAhead 39 = .ok (.aload_n 0, 1) := by decide +kernel
theorem dX8_mayAhead_40 : decode cX8_mayAhead 40 = .ok (.getfield 7, 3) := by decide +kernel
theorem dX8_mayAhead_43 : decode cX8_mayAhead 43 = .ok (.iload_n 1, 1) := by decide +kernel
theorem dX8_mayAhead_44 : decode cX8_mayAhead 44 = .ok (.iconst 3, 1) := by decide +kernel
theorem dX8_mayAhead_45 : decode cX8_mayAhead 45 = .ok (.invokestatic 59, 3) := by decide +kernel
theorem dX8_mayAhead_48 : decode cX8_mayAhead 48 = .ok (.iaload, 1) := by decide +kernel
theorem dX8_mayAhead_49 : decode cX8_mayAhead 49 = .ok (.isub, 1) := by decide +kernel
theorem dX8_mayAhead_50 : decode cX8_mayAhead 50 = .ok (.aload_n 0, 1) := by decide +kernel
theorem dX8_mayAhead_51 : decode cX8_mayAhead 51 = .ok (.getfield 7, 3) := by decide +kernel
theorem dX8_mayAhead_54 : decode cX8_mayAhead 54 = .ok (.iconst 5, 1) := by decide +kernel
theorem dX8_mayAhead_55 : decode cX8_mayAhead 55 = .ok (.iaload, 1) := by decide +kernel
theorem dX8_mayAhead_56 : decode cX8_mayAhead 56 = .ok (.if_icmp .lt 7, 3) := by decide +kernel
theorem dX8_mayAhead_59 : decode cX8_mayAhead 59 = .ok (.iconst 1, 1) := by decide +kernel
theorem dX8_mayAhead_60 : decode cX8_mayAhead 60 = .ok (.goto 4, 3) := by decide +kernel
theorem dX8_mayAhead_63 : decode cX8_mayAhead 63 = .ok (.iconst 0, 1) := by decide +kernel
theorem dX8_mayAhead_64 : decode cX8_mayAhead 64 = .ok (.istore_n 3, 1) := by decide +kernel
theorem dX8_mayAhead_65 : decode cX8_mayAhead 65 = .ok (.iload_n 3, 1) := by decide +kernel
theorem dX8_mayAhead_66 : decode cX8_mayAhead 66 = .ok (.ifCond .eq 26, 3) := by decide +kernel
theorem dX8_mayAhead_69 : decode cX8_mayAhead 69 = .ok (.iload_n 2, 1) := by decide +kernel
theorem dX8_mayAhead_70 : decode cX8_mayAhead 70 = .ok (.ifCond .le 22, 3) := by decide +kernel
theorem dX8_mayAhead_73 : decode cX8_mayAhead 73 = .ok (.aload_n 0, 1) := by decide +kernel
theorem dX8_mayAhead_74 : decode cX8_mayAhead 74 = .ok (.getfield 7, 3) := by decide +kernel
theorem dX8_mayAhead_77 : decode cX8_mayAhead 77 = .ok (.iconst 1, 1) := by decide +kernel
theorem dX8_mayAhead_78 : decode cX8_mayAhead 78 = .ok (.iaload, 1) := by decide +kernel
theorem dX8_mayAhead_79 : decode cX8_mayAhead 79 = .ok (.iload_n 2, 1) := by decide +kernel
theorem dX8_mayAhead_80 : decode cX8_mayAhead 80 = .ok (.isub, 1) := by decide +kernel
theorem dX8_mayAhead_81 : decode cX8_mayAhead 81 = .ok (.aload_n 0, 1) := by decide +kernel
theorem dX8_mayAhead_82 : decode cX8_mayAhead 82 = .ok (.invokevirtual 102, 3) := by decide +kernel
theorem dX8_mayAhead_85 : decode cX8_mayAhead 85 = .ok (.if_icmp .lt 7, 3) := by decide +kernel
theorem dX8_mayAhead_88 : decode cX8_mayAhead 88 = .ok (.iconst 1, 1) := by decide +kernel
theorem dX8_mayAhead_89 : decode cX8_mayAhead 89 = .ok (.goto 4, 3) := by decide +kernel
theorem dX8_mayAhead_92 : decode cX8_mayAhead 92 = .ok (.iconst 0, 1) := by decide +kernel
theorem dX8_mayAhead_93 : decode cX8_mayAhead 93 = .ok (.ireturn, 1) := by decide +kernel
theorem dX8_payAhead_0 : decode cX8_payAhead 0 = .ok (.aload_n 0, 1) := by decide +kernel
theorem dX8_payAhead_1 : decode cX8_payAhead 1 = .ok (.iload_n 1, 1) := by decide +kernel
theorem dX8_payAhead_2 : decode cX8_payAhead 2 = .ok (.invokevirtual 105, 3) := by decide +kernel
theorem dX8_payAhead_5 : decode cX8_payAhead 5 = .ok (.ifCond .ne 5, 3) := by decide +kernel
theorem dX8_payAhead_8 : decode cX8_payAhead 8 = .ok (.iconst (-1), 1) := by decide +kernel
theorem dX8_payAhead_9 : decode cX8_payAhead 9 = .ok (.ireturn, 1) := by decide +kernel
theorem dX8_payAhead_10 : decode cX8_payAhead 10 = .ok (.aload_n 0, 1) := by decide +kernel
theorem dX8_payAhead_11 : decode cX8_payAhead 11 = .ok (.iload_n 1, 1) := by decide +kernel
theorem dX8_payAhead_12 : decode cX8_payAhead 12 = .ok (.invokevirtual 108, 3) := by decide +kernel
theorem dX8_payAhead_15 : decode cX8_payAhead 15 = .ok (.ifCond .ne 6, 3) := by decide +kernel
theorem dX8_payAhead_18 : decode cX8_payAhead 18 = .ok (.bipush (-4), 2) := by decide +kernel
theorem dX8_payAhead_20 : decode cX8_payAhead 20 = .ok (.ireturn, 1) := by decide +kernel
theorem dX8_payAhead_21 : decode cX8_payAhead 21 = .ok (.aload_n 0, 1) := by decide +kernel
theorem dX8_payAhead_22 : decode cX8_payAhead 22 = .ok (.invokevirtual 81, 3) := by decide +kernel
theorem dX8_payAhead_25 : decode cX8_payAhead 25 = .ok (.aload_n 0, 1) := by decide +kernel
theorem dX8_payAhead_26 : decode cX8_payAhead 26 = .ok (.iload_n 1, 1) := by decide +kernel
theorem dX8_payAhead_27 : decode cX8_payAhead 27 = .ok (.iconst 0, 1) := by decide +kernel
theorem dX8_payAhead_28 : decode cX8_payAhead 28 = .ok (.invokevirtual 75, 3) := by decide +kernel
theorem dX8_payAhead_31 : decode cX8_payAhead 31 = .ok (.istore_n 2, 1) := by decide +kernel
theorem dX8_payAhead_32 : decode cX8_payAhead 32 = .ok (.aload_n 0, 1) := by decide +kernel
theorem dX8_payAhead_33 : decode cX8_payAhead 33 = .ok (.getfield 7, 3) := by decide +kernel
theorem dX8_payAhead_36 : decode cX8_payAhead 36 = .ok (.iload_n 1, 1) := by decide +kernel
theorem dX8_payAhead_37 : decode cX8_payAhead 37 = .ok (.iconst 4, 1) := by decide +kernel
theorem dX8_payAhead_38 : decode cX8_payAhead 38 = .ok (.invokestatic 59, 3) := by decide +kernel
theorem dX8_payAhead_41 : decode cX8_payAhead 41 = .ok (.iconst 1, 1) := by decide +kernel
theorem dX8_payAhead_42 : decode cX8_payAhead 42 = .ok (.iastore, 1) := by decide +kernel
theorem dX8_payAhead_43 : decode cX8_payAhead 43 = .ok (.aload_n 0, 1) := by decide +kernel
theorem dX8_payAhead_44 : decode cX8_payAhead 44 = .ok (.getfield 7, 3) := by decide +kernel
theorem dX8_payAhead_47 : decode cX8_payAhead 47 = .ok (.iload_n 1, 1) := by decide +kernel
theorem dX8_payAhead_48 : decode cX8_payAhead 48 = .ok (.bipush 6, 2) := by decide +kernel
theorem dX8_payAhead_50 : decode cX8_payAhead 50 = .ok (.invokestatic 59, 3) := by decide +kernel
theorem dX8_payAhead_53 : decode cX8_payAhead 53 = .ok (.iload_n 2, 1) := by decide +kernel
theorem dX8_payAhead_54 : decode cX8_payAhead 54 = .ok (.iastore, 1) := by decide +kernel
theorem dX8_payAhead_55 : decode cX8_payAhead 55 = .ok (.aload_n 0, 1) := by decide +kernel
theorem dX8_payAhead_56 : decode cX8_payAhead 56 = .ok (.getfield 7, 3) := by decide +kernel
theorem dX8_payAhead_59 : decode cX8_payAhead 59 = .ok (.iconst 1, 1) := by decide +kernel
theorem dX8_payAhead_60 : decode cX8_payAhead 60 = .ok (.dup2, 1) := by decide +kernel
theorem dX8_payAhead_61 : decode cX8_payAhead 61 = .ok (.iaload, 1) := by decide +kernel
theorem dX8_payAhead_62 : decode cX8_payAhead 62 = .ok (.iload_n 2, 1) := by decide +kernel
theorem dX8_payAhead_63 : decode cX8_payAhead 63 = .ok (.isub, 1) := by decide +kernel
theorem dX8_payAhead_64 : decode cX8_payAhead 64 = .ok (.iastore, 1) := by decide +kernel
theorem dX8_payAhead_65 : decode cX8_payAhead 65 = .ok (.aload_n 0, 1) := by decide +kernel
theorem dX8_payAhead_66 : decode cX8_payAhead 66 = .ok (.getfield 7, 3) := by decide +kernel
theorem dX8_payAhead_69 : decode cX8_payAhead 69 = .ok (.aload_n 0, 1) := by decide +kernel
theorem dX8_payAhead_70 : decode cX8_payAhead 70 = .ok (.getfield 7, 3) := by decide +kernel
theorem dX8_payAhead_73 : decode cX8_payAhead 73 = .ok (.iload_n 1, 1) := by decide +kernel
theorem dX8_payAhead_74 : decode cX8_payAhead 74 = .ok (.iconst 0, 1) := by decide +kernel
theorem dX8_payAhead_75 : decode cX8_payAhead 75 = .ok (.invokestatic 59, 3) := by decide +kernel
theorem dX8_payAhead_78 : decode cX8_payAhead 78 = .ok (.iaload, 1) := by decide +kernel
theorem dX8_payAhead_79 : decode cX8_payAhead 79 = .ok (.iconst 2, 1) := by decide +kernel
theorem dX8_payAhead_80 : decode cX8_payAhead 80 = .ok (.invokestatic 84, 3) := by decide +kernel
theorem dX8_payAhead_83 : decode cX8_payAhead 83 = .ok (.dup2, 1) := by decide +kernel
theorem dX8_payAhead_84 : decode cX8_payAhead 84 = .ok (.iaload, 1) := by decide +kernel
theorem dX8_payAhead_85 : decode cX8_payAhead 85 = .ok (.iload_n 2, 1) := by decide +kernel
theorem dX8_payAhead_86 : decode cX8_payAhead 86 = .ok (.iadd, 1) := by decide +kernel
theorem dX8_payAhead_87 : decode cX8_payAhead 87 = .ok (.iastore, 1) := by decide +kernel
theorem dX8_payAhead_88 : decode cX8_payAhead 88 = .ok (.aload_n 0, 1) := by decide +kernel
theorem dX8_payAhead_89 : decode cX8_payAhead 89 = .ok (.getfield 7, 3) := by decide +kernel
theorem dX8_payAhead_92 : decode cX8_payAhead 92 = .ok (.bipush 10, 2) := by decide +kernel
theorem dX8_payAhead_94 : decode cX8_payAhead 94 = .ok (.dup2, 1) := by decide +kernel
theorem dX8_payAhead_95 : decode cX8_payAhead 95 = .ok (.iaload, 1) := by decide +kernel
theorem dX8_payAhead_96 : decode cX8_payAhead 96 = .ok (.iload_n 2, 1) := by decide +kernel
theorem dX8_payAhead_97 : decode cX8_payAhead 97 = .ok (.iadd, 1) := by decide +kernel
theorem dX8_payAhead_98 : decode cX8_payAhead 98 = .ok (.iastore, 1) := by decide +kernel
theorem dX8_payAhead_99 : decode cX8_payAhead 99 = .ok (.iload_n 2, 1) := by decide +kernel
theorem dX8_payAhead_100 : decode cX8_payAhead 100 = .ok (.ireturn, 1) := by decide +kernel
theorem dX8_payFault_0 : decode cX8_payFault 0 = .ok (.aload_n 0, 1) := by decide +kernel
theorem dX8_payFault_1 : decode cX8_payFault 1 = .ok (.iload_n 1, 1) := by decide +kernel
theorem dX8_payFault_2 : decode cX8_payFault 2 = .ok (.invokevirtual 105, 3) := by decide +kernel
theorem dX8_payFault_5 : decode cX8_payFault 5 = .ok (.ifCond .ne 5, 3) := by decide +kernel
theorem dX8_payFault_8 : decode cX8_payFault 8 = .ok (.iconst (-1), 1) := by decide +kernel
theorem dX8_payFault_9 : decode cX8_payFault 9 = .ok (.ireturn, 1) := by decide +kernel
theorem dX8_payFault_10 : decode cX8_payFault 10 = .ok (.aload_n 0, 1) := by decide +kernel
theorem dX8_payFault_11 : decode cX8_payFault 11 = .ok (.getfield 7, 3) := by decide +kernel
theorem dX8_payFault_14 : decode cX8_payFault 14 = .ok (.iload_n 1, 1) := by decide +kernel
theorem dX8_payFault_15 : decode cX8_payFault 15 = .ok (.iconst 4, 1) := by decide +kernel
theorem dX8_payFault_16 : decode cX8_payFault 16 = .ok (.invokestatic 59, 3) := by decide +kernel
theorem dX8_payFault_19 : decode cX8_payFault 19 = .ok (.iaload, 1) := by decide +kernel
theorem dX8_payFault_20 : decode cX8_payFault 20 = .ok (.iconst 1, 1) := by decide +kernel
theorem dX8_payFault_21 : decode cX8_payFault 21 = .ok (.if_icmp .le 6, 3) := by decide +kernel
theorem dX8_payFault_24 : decode cX8_payFault 24 = .ok (.bipush (-4), 2) := by decide +kernel
theorem dX8_payFault_26 : decode cX8_payFault 26 = .ok (.ireturn, 1) := by decide +kernel
theorem dX8_payFault_27 : decode cX8_payFault 27 = .ok (.iload_n 2, 1) := by decide +kernel
theorem dX8_payFault_28 : decode cX8_payFault 28 = .ok (.iconst 1, 1) := by decide +kernel
theorem dX8_payFault_29 : decode cX8_payFault 29 = .ok (.aload_n 0, 1) := by decide +kernel
theorem dX8_payFault_30 : decode cX8_payFault 30 = .ok (.getfield 7, 3) := by decide +kernel
theorem dX8_payFault_33 : decode cX8_payFault 33 = .ok (.iload_n 1, 1) := by decide +kernel
theorem dX8_payFault_34 : decode cX8_payFault 34 = .ok (.iconst 2, 1) := by decide +kernel
theorem dX8_payFault_35 : decode cX8_payFault 35 = .ok (.invokestatic 59, 3) := by decide +kernel
theorem dX8_payFault_38 : decode cX8_payFault 38 = .ok (.iaload, 1) := by decide +kernel
theorem dX8_payFault_39 : decode cX8_payFault 39 = .ok (.aload_n 0, 1) := by decide +kernel
theorem dX8_payFault_40 : decode cX8_payFault 40 = .ok (.getfield 7, 3) := by decide +kernel
theorem dX8_payFault_43 : decode cX8_payFault 43 = .ok (.iload_n 1, 1) := by decide +kernel
theorem dX8_payFault_44 : decode cX8_payFault 44 = .ok (.iconst 5, 1) := by decide +kernel
theorem dX8_payFault_45 : decode cX8_payFault 45 = .ok (.invokestatic 59, 3) := by decide +kernel
theorem dX8_payFault_48 : decode cX8_payFault 48 = .ok (.iaload, 1) := by decide +kernel
theorem dX8_payFault_49 : decode cX8_payFault 49 = .ok (.isub, 1) := by decide +kernel
theorem dX8_payFault_50 : decode cX8_payFault 50 = .ok (.invokestatic 38, 3) := by decide +kernel
theorem dX8_payFault_53 : decode cX8_payFault 53 = .ok (.ifCond .eq 7, 3) := by decide +kernel
theorem dX8_payFault_56 : decode cX8_payFault 56 = .ok (.iconst 0, 1) := by decide +kernel
theorem dX8_payFault_57 : decode cX8_payFault 57 = .ok (.goto 5, 3) := by decide +kernel
theorem dX8_payFault_60 : decode cX8_payFault 60 = .ok (.bipush (-2), 2) := by decide +kernel
theorem dX8_payFault_62 : decode cX8_payFault 62 = .ok (.ireturn, 1) := by decide +kernel
theorem dX8_pays_0 : decode cX8_pays 0 = .ok (.aload_n 0, 1) := by decide +kernel
theorem dX8_pays_1 : decode cX8_pays 1 = .ok (.getfield 7, 3) := by decide +kernel
theorem dX8_pays_4 : decode cX8_pays 4 = .ok (.iload_n 1, 1) := by decide +kernel
theorem dX8_pays_5 : decode cX8_pays 5 = .ok (.iconst 0, 1) := by decide +kernel
theorem dX8_pays_6 : decode cX8_pays 6 = .ok (.invokestatic 59, 3) := by decide +kernel
theorem dX8_pays_9 : decode cX8_pays 9 = .ok (.iaload, 1) := by decide +kernel
theorem dX8_pays_10 : decode cX8_pays 10 = .ok (.iconst 2, 1) := by decide +kernel
theorem dX8_pays_11 : decode cX8_pays 11 = .ok (.invokestatic 84, 3) := by decide +kernel
theorem dX8_pays_14 : decode cX8_pays 14 = .ok (.istore_n 3, 1) := by decide +kernel
theorem dX8_pays_15 : decode cX8_pays 15 = .ok (.aload_n 0, 1) := by decide +kernel
theorem dX8_pays_16 : decode cX8_pays 16 = .ok (.getfield 7, 3) := by decide +kernel
theorem dX8_pays_19 : decode cX8_pays 19 = .ok (.iload_n 1, 1) := by decide +kernel
theorem dX8_pays_20 : decode cX8_pays 20 = .ok (.iconst 4, 1) := by decide +kernel
theorem dX8_pays_21 : decode cX8_pays 21 = .ok (.invokestatic 59, 3) := by decide +kernel
theorem dX8_pays_24 : decode cX8_pays 24 = .ok (.iaload, 1) := by decide +kernel
theorem dX8_pays_25 : decode cX8_pays 25 = .ok (.iconst 1, 1) := by decide +kernel
theorem dX8_pays_26 : decode cX8_pays 26 = .ok (.if_icmp .ne 7, 3) := by decide +kernel
theorem dX8_pays_29 : decode cX8_pays 29 = .ok (.iconst 1, 1) := by decide +kernel
theorem dX8_pays_30 : decode cX8_pays 30 = .ok (.goto 4, 3) := by decide +kernel
theorem dX8_pays_33 : decode cX8_pays 33 = .ok (.iconst 0, 1) := by decide +kernel
theorem dX8_pays_34 : decode cX8_pays 34 = .ok (.istore 4, 2) := by decide +kernel
theorem dX8_pays_36 : decode cX8_pays 36 = .ok (.aload_n 0, 1) := by decide +kernel
theorem dX8_pays_37 : decode cX8_pays 37 = .ok (.getfield 7, 3) := by decide +kernel
theorem dX8_pays_40 : decode cX8_pays 40 = .ok (.iload_n 1, 1) := by decide +kernel
theorem dX8_pays_41 : decode cX8_pays 41 = .ok (.iconst 1, 1) := by decide +kernel
theorem dX8_pays_42 : decode cX8_pays 42 = .ok (.invokestatic 59, 3) := by decide +kernel
theorem dX8_pays_45 : decode cX8_pays 45 = .ok (.iaload, 1) := by decide +kernel
theorem dX8_pays_46 : decode cX8_pays 46 = .ok (.istore 5, 2) := by decide +kernel
theorem dX8_pays_48 : decode cX8_pays 48 = .ok (.aload_n 0, 1) := by decide +kernel
theorem dX8_pays_49 : decode cX8_pays 49 = .ok (.getfield 7, 3) := by decide +kernel
theorem dX8_pays_52 : decode cX8_pays 52 = .ok (.iload_n 1, 1) := by decide +kernel
theorem dX8_pays_53 : decode cX8_pays 53 = .ok (.iconst 5, 1) := by decide +kernel
theorem dX8_pays_54 : decode cX8_pays 54 = .ok (.invokestatic 59, 3) := by decide +kernel
theorem dX8_pays_57 : decode cX8_pays 57 = .ok (.dup2, 1) := by decide +kernel
theorem dX8_pays_58 : decode cX8_pays 58 = .ok (.iaload, 1) := by decide +kernel
theorem dX8_pays_59 : decode cX8_pays 59 = .ok (.iload_n 2, 1) := by decide +kernel
theorem dX8_pays_60 : decode cX8_pays 60 = .ok (.iadd, 1) := by decide +kernel
theorem dX8_pays_61 : decode cX8_pays 61 = .ok (.iastore, 1) := by decide +kernel
theorem dX8_pays_62 : decode cX8_pays 62 = .ok (.aload_n 0, 1) := by decide +kernel
theorem dX8_pays_63 : decode cX8_pays 63 = .ok (.getfield 7, 3) := by decide +kernel
theorem dX8_pays_66 : decode cX8_pays 66 = .ok (.bipush 11, 2) := by decide +kernel
theorem dX8_pays_68 : decode cX8_pays 68 = .ok (.dup2, 1) := by decide +kernel
theorem dX8_pays_69 : decode cX8_pays 69 = .ok (.iaload, 1) := by decide +kernel
theorem dX8_pays_70 : decode cX8_pays 70 = .ok (.iload_n 2, 1) := by decide +kernel
theorem dX8_pays_71 : decode cX8_pays 71 = .ok (.iadd, 1) := by decide +kernel
theorem dX8_pays_72 : decode cX8_pays 72 = .ok (.iastore, 1) := by decide +kernel
theorem dX8_pays_73 : decode cX8_pays 73 = .ok (.aload_n 0, 1) := by decide +kernel
theorem dX8_pays_74 : decode cX8_pays 74 = .ok (.getfield 7, 3) := by decide +kernel
theorem dX8_pays_77 : decode cX8_pays 77 = .ok (.iload 4, 2) := by decide +kernel
theorem dX8_pays_79 : decode cX8_pays 79 = .ok (.ifCond .eq 7, 3) := by decide +kernel
theorem dX8_pays_82 : decode cX8_pays 82 = .ok (.iconst 1, 1) := by decide +kernel
theorem dX8_pays_83 : decode cX8_pays 83 = .ok (.goto 4, 3) := by decide +kernel
theorem dX8_pays_86 : decode cX8_pays 86 = .ok (.iload_n 3, 1) := by decide +kernel
theorem dX8_pays_87 : decode cX8_pays 87 = .ok (.dup2, 1) := by decide +kernel
theorem dX8_pays_88 : decode cX8_pays 88 = .ok (.iaload, 1) := by decide +kernel
theorem dX8_pays_89 : decode cX8_pays 89 = .ok (.iload_n 2, 1) := by decide +kernel
theorem dX8_pays_90 : decode cX8_pays 90 = .ok (.iadd, 1) := by decide +kernel
theorem dX8_pays_91 : decode cX8_pays 91 = .ok (.iastore, 1) := by decide +kernel
theorem dX8_pays_92 : decode cX8_pays 92 = .ok (.aload_n 0, 1) := by decide +kernel
theorem dX8_pays_93 : decode cX8_pays 93 = .ok (.getfield 7, 3) := by decide +kernel
theorem dX8_pays_96 : decode cX8_pays 96 = .ok (.iload_n 1, 1) := by decide +kernel
theorem dX8_pays_97 : decode cX8_pays 97 = .ok (.iconst 2, 1) := by decide +kernel
theorem dX8_pays_98 : decode cX8_pays 98 = .ok (.invokestatic 59, 3) := by decide +kernel
theorem dX8_pays_101 : decode cX8_pays 101 = .ok (.iaload, 1) := by decide +kernel
theorem dX8_pays_102 : decode cX8_pays 102 = .ok (.aload_n 0, 1) := by decide +kernel
theorem dX8_pays_103 : decode cX8_pays 103 = .ok (.getfield 7, 3) := by decide +kernel
theorem dX8_pays_106 : decode cX8_pays 106 = .ok (.iload_n 1, 1) := by decide +kernel
theorem dX8_pays_107 : decode cX8_pays 107 = .ok (.iconst 5, 1) := by decide +kernel
theorem dX8_pays_108 : decode cX8_pays 108 = .ok (.invokestatic 59, 3) := by decide +kernel
theorem dX8_pays_111 : decode cX8_pays 111 = .ok (.iaload, 1) := by decide +kernel
theorem dX8_pays_112 : decode cX8_pays 112 = .ok (.isub, 1) := by decide +kernel
theorem dX8_pays_113 : decode cX8_pays 113 = .ok (.istore 6, 2) := by decide +kernel
theorem dX8_pays_115 : decode cX8_pays 115 = .ok (.iload 6, 2) := by decide +kernel
theorem dX8_pays_117 : decode cX8_pays 117 = .ok (.ifCond .le 6, 3) := by decide +kernel
theorem dX8_pays_120 : decode cX8_pays 120 = .ok (.iload 6, 2) := by decide +kernel
theorem dX8_pays_122 : decode cX8_pays 122 = .ok (.ireturn, 1) := by decide +kernel
theorem dX8_pays_123 : decode cX8_pays 123 = .ok (.aload_n 0, 1) := by decide +kernel
theorem dX8_pays_124 : decode cX8_pays 124 = .ok (.getfield 7, 3) := by decide +kernel
theorem dX8_pays_127 : decode cX8_pays 127 = .ok (.iload_n 1, 1) := by decide +kernel
theorem dX8_pays_128 : decode cX8_pays 128 = .ok (.iconst 4, 1) := by decide +kernel
theorem dX8_pays_129 : decode cX8_pays 129 = .ok (.invokestatic 59, 3) := by decide +kernel
theorem dX8_pays_132 : decode cX8_pays 132 = .ok (.iconst 2, 1) := by decide +kernel
theorem dX8_pays_133 : decode cX8_pays 133 = .ok (.iastore, 1) := by decide +kernel
theorem dX8_pays_134 : decode cX8_pays 134 = .ok (.aload_n 0, 1) := by decide +kernel
theorem dX8_pays_135 : decode cX8_pays 135 = .ok (.getfield 7, 3) := by decide +kernel
theorem dX8_pays_138 : decode cX8_pays 138 = .ok (.iload 5, 2) := by decide +kernel
theorem dX8_pays_140 : decode cX8_pays 140 = .ok (.iconst 0, 1) := by decide +kernel
theorem dX8_pays_141 : decode cX8_pays 141 = .ok (.invokestatic 55, 3) := by decide +kernel
theorem dX8_pays_144 : decode cX8_pays 144 = .ok (.dup2, 1) := by decide +kernel
theorem dX8_pays_145 : decode cX8_pays 145 = .ok (.iaload, 1) := by decide +kernel
theorem dX8_pays_146 : decode cX8_pays 146 = .ok (.iconst 1, 1) := by decide +kernel
theorem dX8_pays_147 : decode cX8_pays 147 = .ok (.iadd, 1) := by decide +kernel
theorem dX8_pays_148 : decode cX8_pays 148 = .ok (.iastore, 1) := by decide +kernel
theorem dX8_pays_149 : decode cX8_pays 149 = .ok (.aload_n 0, 1) := by decide +kernel
theorem dX8_pays_150 : decode cX8_pays 150 = .ok (.getfield 7, 3) := by decide +kernel
theorem dX8_pays_153 : decode cX8_pays 153 = .ok (.iload 5, 2) := by decide +kernel
theorem dX8_pays_155 : decode cX8_pays 155 = .ok (.iconst 2, 1) := by decide +kernel
theorem dX8_pays_156 : decode cX8_pays 156 = .ok (.invokestatic 55, 3) := by decide +kernel
theorem dX8_pays_159 : decode cX8_pays 159 = .ok (.dup2, 1) := by decide +kernel
theorem dX8_pays_160 : decode cX8_pays 160 = .ok (.iaload, 1) := by decide +kernel
theorem dX8_pays_161 : decode cX8_pays 161 = .ok (.aload_n 0, 1) := by decide +kernel
theorem dX8_pays_162 : decode cX8_pays 162 = .ok (.iload_n 1, 1) := by decide +kernel
theorem dX8_pays_163 : decode cX8_pays 163 = .ok (.iconst 0, 1) := by decide +kernel
theorem dX8_pays_164 : decode cX8_pays 164 = .ok (.invokevirtual 65, 3) := by decide +kernel
theorem dX8_pays_167 : decode cX8_pays 167 = .ok (.iadd, 1) := by decide +kernel
theorem dX8_pays_168 : decode cX8_pays 168 = .ok (.iastore, 1) := by decide +kernel
theorem dX8_pays_169 : decode cX8_pays 169 = .ok (.aload_n 0, 1) := by decide +kernel
theorem dX8_pays_170 : decode cX8_pays 170 = .ok (.getfield 7, 3) := by decide +kernel
theorem dX8_pays_173 : decode cX8_pays 173 = .ok (.iload_n 1, 1) := by decide +kernel
theorem dX8_pays_174 : decode cX8_pays 174 = .ok (.iconst 2, 1) := by decide +kernel
theorem dX8_pays_175 : decode cX8_pays 175 = .ok (.invokestatic 59, 3) := by decide +kernel
theorem dX8_pays_178 : decode cX8_pays 178 = .ok (.iaload, 1) := by decide +kernel
theorem dX8_pays_179 : decode cX8_pays 179 = .ok (.i2f, 1) := by decide +kernel
theorem dX8_pays_180 : decode cX8_pays 180 = .ok (.aload_n 0, 1) := by decide +kernel
theorem dX8_pays_181 : decode cX8_pays 181 = .ok (.iconst 2, 1) := by decide +kernel
theorem dX8_pays_182 : decode cX8_pays 182 = .ok (.invokevirtual 62, 3) := by decide +kernel
theorem dX8_pays_185 : decode cX8_pays 185 = .ok (.fmul, 1) := by decide +kernel
theorem dX8_pays_186 : decode cX8_pays 186 = .ok (.f2i, 1) := by decide +kernel
theorem dX8_pays_187 : decode cX8_pays 187 = .ok (.istore 7, 2) := by decide +kernel
theorem dX8_pays_189 : decode cX8_pays 189 = .ok (.aload_n 0, 1) := by decide +kernel
theorem dX8_pays_190 : decode cX8_pays 190 = .ok (.getfield 7, 3) := by decide +kernel
theorem dX8_pays_193 : decode cX8_pays 193 = .ok (.iload_n 1, 1) := by decide +kernel
theorem dX8_pays_194 : decode cX8_pays 194 = .ok (.iconst 2, 1) := by decide +kernel
theorem dX8_pays_195 : decode cX8_pays 195 = .ok (.invokestatic 59, 3) := by decide +kernel
theorem dX8_pays_198 : decode cX8_pays 198 = .ok (.iaload, 1) := by decide +kernel
theorem dX8_pays_199 : decode cX8_pays 199 = .ok (.aload_n 0, 1) := by decide +kernel
theorem dX8_pays_200 : decode cX8_pays 200 = .ok (.getfield 7, 3) := by decide +kernel
theorem dX8_pays_203 : decode cX8_pays 203 = .ok (.iload_n 1, 1) := by decide +kernel
theorem dX8_pays_204 : decode cX8_pays 204 = .ok (.bipush 6, 2) := by decide +kernel
theorem dX8_pays_206 : decode cX8_pays 206 = .ok (.invokestatic 59, 3) := by decide +kernel
theorem dX8_pays_209 : decode cX8_pays 209 = .ok (.iaload, 1) := by decide +kernel
theorem dX8_pays_210 : decode cX8_pays 210 = .ok (.isub, 1) := by decide +kernel
theorem dX8_pays_211 : decode cX8_pays 211 = .ok (.iload 7, 2) := by decide +kernel
theorem dX8_pays_213 : decode cX8_pays 213 = .ok (.isub, 1) := by decide +kernel
theorem dX8_pays_214 : decode cX8_pays 214 = .ok (.istore 8, 2) := by decide +kernel
theorem dX8_pays_216 : decode cX8_pays 216 = .ok (.iload 4, 2) := by decide +kernel
theorem dX8_pays_218 : decode cX8_pays 218 = .ok (.ifCond .eq 42, 3) := by decide +kernel
theorem dX8_pays_221 : decode cX8_pays 221 = .ok (.iload 8, 2) := by decide +kernel
theorem dX8_pays_223 : decode cX8_pays 223 = .ok (.ifCond .le 37, 3) := by decide +kernel
theorem dX8_pays_226 : decode cX8_pays 226 = .ok (.aload_n 0, 1) := by decide +kernel
theorem dX8_pays_227 : decode cX8_pays 227 = .ok (.getfield 7, 3) := by decide +kernel
theorem dX8_pays_230 : decode cX8_pays 230 = .ok (.iconst 1, 1) := by decide +kernel
theorem dX8_pays_231 : decode cX8_pays 231 = .ok (.dup2, 1) := by decide +kernel
theorem dX8_pays_232 : decode cX8_pays 232 = .ok (.iaload, 1) := by decide +kernel
theorem dX8_pays_233 : decode cX8_pays 233 = .ok (.iload 8, 2) := by decide +kernel
theorem dX8_pays_235 : decode cX8_pays 235 = .ok (.isub, 1) := by decide +kernel
theorem dX8_pays_236 : decode cX8_pays 236 = .ok (.iastore, 1) := by decide +kernel
theorem dX8_pays_237 : decode cX8_pays 237 = .ok (.aload_n 0, 1) := by decide +kernel
theorem dX8_pays_238 : decode cX8_pays 238 = .ok (.getfield 7, 3) := by decide +kernel
theorem dX8_pays_241 : decode cX8_pays 241 = .ok (.iload_n 3, 1) := by decide +kernel
theorem dX8_pays_242 : decode cX8_pays 242 = .ok (.dup2, 1) := by decide +kernel
theorem dX8_pays_243 : decode cX8_pays 243 = .ok (.iaload, 1) := by decide +kernel
theorem dX8_pays_244 : decode cX8_pays 244 = .ok (.iload 8, 2) := by decide +kernel
theorem dX8_pays_246 : decode cX8_pays 246 = .ok (.iadd, 1) := by decide +kernel
theorem dX8_pays_247 : decode cX8_pays 247 = .ok (.iastore, 1) := by decide +kernel
theorem dX8_pays_248 : decode cX8_pays 248 = .ok (.aload_n 0, 1) := by decide +kernel
theorem dX8_pays_249 : decode cX8_pays 249 = .ok (.getfield 7, 3) := by decide +kernel
theorem dX8_pays_252 : decode cX8_pays 252 = .ok (.bipush 12, 2) := by decide +kernel
theorem dX8_pays_254 : decode cX8_pays 254 = .ok (.dup2, 1) := by decide +kernel
theorem dX8_pays_255 : decode cX8_pays 255 = .ok (.iaload, 1) := by decide +kernel
theorem dX8_pays_256 : decode cX8_pays 256 = .ok (.iload 8, 2) := by decide +kernel
theorem dX8_pays_258 : decode cX8_pays 258 = .ok (.iadd, 1) := by decide +kernel
theorem dX8_pays_259 : decode cX8_pays 259 = .ok (.iastore, 1) := by decide +kernel
theorem dX8_pays_260 : decode cX8_pays 260 = .ok (.iconst 0, 1) := by decide +kernel
theorem dX8_pays_261 : decode cX8_pays 261 = .ok (.ireturn, 1) := by decide +kernel
theorem dX8_pay_0 : decode cX8_pay 0 = .ok (.aload_n 0, 1) := by decide +kernel
theorem dX8_pay_1 : decode cX8_pay 1 = .ok (.iload_n 1, 1) := by decide +kernel
theorem dX8_pay_2 : decode cX8_pay 2 = .ok (.iload_n 2, 1) := by decide +kernel
theorem dX8_pay_3 : decode cX8_pay 3 = .ok (.invokevirtual 111, 3) := by decide +kernel
theorem dX8_pay_6 : decode cX8_pay 6 = .ok (.istore_n 3, 1) := by decide +kernel
theorem dX8_pay_7 : decode cX8_pay 7 = .ok (.iload_n 3, 1) := by decide +kernel
theorem dX8_pay_8 : decode cX8_pay 8 = .ok (.ifCond .ge 5, 3) := by decide +kernel
theorem dX8_pay_11 : decode cX8_pay 11 = .ok (.iload_n 3, 1) := by decide +kernel
theorem dX8_pay_12 : decode cX8_pay 12 = .ok (.ireturn, 1) := by decide +kernel
theorem dX8_pay_13 : decode cX8_pay 13 = .ok (.aload_n 0, 1) := by decide +kernel
theorem dX8_pay_14 : decode cX8_pay 14 = .ok (.invokevirtual 81, 3) := by decide +kernel
theorem dX8_pay_17 : decode cX8_pay 17 = .ok (.aload_n 0, 1) := by decide +kernel
theorem dX8_pay_18 : decode cX8_pay 18 = .ok (.iload_n 1, 1) := by decide +kernel
theorem dX8_pay_19 : decode cX8_pay 19 = .ok (.iload_n 2, 1) := by decide +kernel
theorem dX8_pay_20 : decode cX8_pay 20 = .ok (.invokevirtual 114, 3) := by decide +kernel
theorem dX8_pay_23 : decode cX8_pay 23 = .ok (.ireturn, 1) := by decide +kernel
theorem dX8_mayGiveUp_0 : decode cX8_mayGiveUp 0 = .ok (.aload_n 0, 1) := by decide +kernel
theorem dX8_mayGiveUp_1 : decode cX8_mayGiveUp 1 = .ok (.getfield 7, 3) := by decide +kernel
theorem dX8_mayGiveUp_4 : decode cX8_mayGiveUp 4 = .ok (.iload_n 1, 1) := by decide +kernel
theorem dX8_mayGiveUp_5 : decode cX8_mayGiveUp 5 = .ok (.iconst 4, 1) := by decide +kernel
theorem dX8_mayGiveUp_6 : decode cX8_mayGiveUp 6 = .ok (.invokestatic 59, 3) := by decide +kernel
theorem dX8_mayGiveUp_9 : decode cX8_mayGiveUp 9 = .ok (.iaload, 1) := by decide +kernel
theorem dX8_mayGiveUp_10 : decode cX8_mayGiveUp 10 = .ok (.iconst 2, 1) := by decide +kernel
theorem dX8_mayGiveUp_11 : decode cX8_mayGiveUp 11 = .ok (.if_icmp .ge 34, 3) := by decide +kernel
theorem dX8_mayGiveUp_14 : decode cX8_mayGiveUp 14 = .ok (.aload_n 0, 1) := by decide +kernel
theorem dX8_mayGiveUp_15 : decode cX8_mayGiveUp 15 = .ok (.getfield 7, 3) := by decide +kernel
theorem dX8_mayGiveUp_18 : decode cX8_mayGiveUp 18 = .ok (.iconst 0, 1) := by decide +kernel
theorem dX8_mayGiveUp_19 : decode cX8_mayGiveUp 19 = .ok (.iaload, 1) := by decide +kernel
theorem dX8_mayGiveUp_20 : decode cX8_mayGiveUp 20 = .ok (.aload_n 0, 1) := by decide +kernel
theorem dX8_mayGiveUp_21 : decode cX8_mayGiveUp 21 = .ok (.getfield 7, 3) := by decide +kernel
theorem dX8_mayGiveUp_24 : decode cX8_mayGiveUp 24 = .ok (.iload_n 1, 1) := by decide +kernel
theorem dX8_mayGiveUp_25 : decode cX8_mayGiveUp 25 = .ok (.iconst 3, 1) := by decide +kernel
theorem dX8_mayGiveUp_26 : decode cX8_mayGiveUp 26 = .ok (.invokestatic 59, 3) := by decide +kernel
theorem dX8_mayGiveUp_29 : decode cX8_mayGiveUp 29 = .ok (.iaload, 1) := by decide +kernel
theorem dX8_mayGiveUp_30 : decode cX8_mayGiveUp 30 = .ok (.isub, 1) := by decide +kernel
theorem dX8_mayGiveUp_31 : decode cX8_mayGiveUp 31 = .ok (.aload_n 0, 1) := by decide +kernel
theorem dX8_mayGiveUp_32 : decode cX8_mayGiveUp 32 = .ok (.getfield 7, 3) := by decide +kernel
theorem dX8_mayGiveUp_35 : decode cX8_mayGiveUp 35 = .ok (.bipush 7, 2) := by decide +kernel
theorem dX8_mayGiveUp_37 : decode cX8_mayGiveUp 37 = .ok (.iaload, 1) := by decide +kernel
theorem dX8_mayGiveUp_38 : decode cX8_mayGiveUp 38 = .ok (.if_icmp .lt 7, 3) := by decide +kernel
theorem dX8_mayGiveUp_41 : decode cX8_mayGiveUp 41 = .ok (.iconst 1, 1) := by decide +kernel
theorem dX8_mayGiveUp_42 : decode cX8_mayGiveUp 42 = .ok (.goto 4, 3) := by decide +kernel
theorem dX8_mayGiveUp_45 : decode cX8_mayGiveUp 45 = .ok (.iconst 0, 1) := by decide +kernel
theorem dX8_mayGiveUp_46 : decode cX8_mayGiveUp 46 = .ok (.ireturn, 1) := by decide +kernel
theorem dX8_share_0 : decode cX8_share 0 = .ok (.aload_n 0, 1) := by decide +kernel
theorem dX8_share_1 : decode cX8_share 1 = .ok (.getfield 7, 3) := by decide +kernel
theorem dX8_share_4 : decode cX8_share 4 = .ok (.bipush 8, 2) := by decide +kernel
theorem dX8_share_6 : decode cX8_share 6 = .ok (.iaload, 1) := by decide +kernel
theorem dX8_share_7 : decode cX8_share 7 = .ok (.istore_n 2, 1) := by decide +kernel
theorem dX8_share_8 : decode cX8_share 8 = .ok (.iconst 0, 1) := by decide +kernel
theorem dX8_share_9 : decode cX8_share 9 = .ok (.istore_n 3, 1) := by decide +kernel
theorem dX8_share_10 : decode cX8_share 10 = .ok (.iconst 0, 1) := by decide +kernel
theorem dX8_share_11 : decode cX8_share 11 = .ok (.istore 4, 2) := by decide +kernel
theorem dX8_share_13 : decode cX8_share 13 = .ok (.iload 4, 2) := by decide +kernel
theorem dX8_share_15 : decode cX8_share 15 = .ok (.iload_n 2, 1) := by decide +kernel
theorem dX8_share_16 : decode cX8_share 16 = .ok (.if_icmp .ge 23, 3) := by decide +kernel
theorem dX8_share_19 : decode cX8_share 19 = .ok (.iload_n 3, 1) := by decide +kernel
theorem dX8_share_20 : decode cX8_share 20 = .ok (.aload_n 0, 1) := by decide +kernel
theorem dX8_share_21 : decode cX8_share 21 = .ok (.getfield 7, 3) := by decide +kernel
theorem dX8_share_24 : decode cX8_share 24 = .ok (.iload 4, 2) := by decide +kernel
theorem dX8_share_26 : decode cX8_share 26 = .ok (.iconst 0, 1) := by decide +kernel
theorem dX8_share_27 : decode cX8_share 27 = .ok (.invokestatic 84, 3) := by decide +kernel
theorem dX8_share_30 : decode cX8_share 30 = .ok (.iaload, 1) := by decide +kernel
theorem dX8_share_31 : decode cX8_share 31 = .ok (.iadd, 1) := by decide +kernel
theorem dX8_share_32 : decode cX8_share 32 = .ok (.istore_n 3, 1) := by decide +kernel
theorem dX8_share_33 : decode cX8_share 33 = .ok (.iinc 4 1, 3) := by decide +kernel
theorem dX8_share_36 : decode cX8_share 36 = .ok (.goto (-23), 3) := by decide +kernel
theorem dX8_share_39 : decode cX8_share 39 = .ok (.iload_n 1, 1) := by decide +kernel
theorem dX8_share_40 : decode cX8_share 40 = .ok (.istore 4, 2) := by decide +kernel
theorem dX8_share_42 : decode cX8_share 42 = .ok (.iconst 0, 1) := by decide +kernel
theorem dX8_share_43 : decode cX8_share 43 = .ok (.istore 5, 2) := by decide +kernel
theorem dX8_share_45 : decode cX8_share 45 = .ok (.iload 5, 2) := by decide +kernel
theorem dX8_share_47 : decode cX8_share 47 = .ok (.iload_n 2, 1) := by decide +kernel
theorem dX8_share_48 : decode cX8_share 48 = .ok (.if_icmp .ge 51, 3) := by decide +kernel
theorem dX8_share_51 : decode cX8_share 51 = .ok (.iload_n 1, 1) := by decide +kernel
theorem dX8_share_52 : decode cX8_share 52 = .ok (.i2f, 1) := by decide +kernel
theorem dX8_share_53 : decode cX8_share 53 = .ok (.aload_n 0, 1) := by decide +kernel
theorem dX8_share_54 : decode cX8_share 54 = .ok (.getfield 7, 3) := by decide +kernel
theorem dX8_share_57 : decode cX8_share 57 = .ok (.iload 5, 2) := by decide +kernel
theorem dX8_share_59 : decode cX8_share 59 = .ok (.iconst 0, 1) := by decide +kernel
theorem dX8_share_60 : decode cX8_share 60 = .ok (.invokestatic 84, 3) := by decide +kernel
theorem dX8_share_63 : decode cX8_share 63 = .ok (.iaload, 1) := by decide +kernel
theorem dX8_share_64 : decode cX8_share 64 = .ok (.i2f, 1) := by decide +kernel
theorem dX8_share_65 : decode cX8_share 65 = .ok (.fmul, 1) := by decide +kernel
theorem dX8_share_66 : decode cX8_share 66 = .ok (.fstore 6, 2) := by decide +kernel
theorem dX8_share_68 : decode cX8_share 68 = .ok (.aload_n 0, 1) := by decide +kernel
theorem dX8_share_69 : decode cX8_share 69 = .ok (.getfield 32, 3) := by decide +kernel
theorem dX8_share_72 : decode cX8_share 72 = .ok (.iload 5, 2) := by decide +kernel
theorem dX8_share_74 : decode cX8_share 74 = .ok (.fload 6, 2) := by decide +kernel
theorem dX8_share_76 : decode cX8_share 76 = .ok (.iload_n 3, 1) := by decide +kernel
theorem dX8_share_77 : decode cX8_share 77 = .ok (.i2f, 1) := by decide +kernel
theorem dX8_share_78 : decode cX8_share 78 = .ok (.fdiv, 1) := by decide +kernel
theorem dX8_share_79 : decode cX8_share 79 = .ok (.f2i, 1) := by decide +kernel
theorem dX8_share_80 : decode cX8_share 80 = .ok (.iastore, 1) := by decide +kernel
theorem dX8_share_81 : decode cX8_share 81 = .ok (.iload 4, 2) := by decide +kernel
theorem dX8_share_83 : decode cX8_share 83 = .ok (.aload_n 0, 1) := by decide +kernel
theorem dX8_share_84 : decode cX8_share 84 = .ok (.getfield 32, 3) := by decide +kernel
theorem dX8_share_87 : decode cX8_share 87 = .ok (.iload 5, 2) := by decide +kernel
theorem dX8_share_89 : decode cX8_share 89 = .ok (.iaload, 1) := by decide +kernel
theorem dX8_share_90 : decode cX8_share 90 = .ok (.isub, 1) := by decide +kernel
theorem dX8_share_91 : decode cX8_share 91 = .ok (.istore 4, 2) := by decide +kernel
theorem dX8_share_93 : decode cX8_share 93 = .ok (.iinc 5 1, 3) := by decide +kernel
theorem dX8_share_96 : decode cX8_share 96 = .ok (.goto (-51), 3) := by decide +kernel
theorem dX8_share_99 : decode cX8_share 99 = .ok (.iconst 0, 1) := by decide +kernel
theorem dX8_share_100 : decode cX8_share 100 = .ok (.istore 5, 2) := by decide +kernel
theorem dX8_share_102 : decode cX8_share 102 = .ok (.iload 4, 2) := by decide +kernel
theorem dX8_share_104 : decode cX8_share 104 = .ok (.ifCond .eq 45, 3) := by decide +kernel
theorem dX8_share_107 : decode cX8_share 107 = .ok (.iload 4, 2) := by decide +kernel
theorem dX8_share_109 : decode cX8_share 109 = .ok (.ifCond .le 7, 3) := by decide +kernel
theorem dX8_share_112 : decode cX8_share 112 = .ok (.iconst 1, 1) := by decide +kernel
theorem dX8_share_113 : decode cX8_share 113 = .ok (.goto 4, 3) := by decide +kernel
theorem dX8_share_116 : decode cX8_share 116 = .ok (.iconst (-1), 1) := by decide +kernel
theorem dX8_share_117 : decode cX8_share 117 = .ok (.istore 6, 2) := by decide +kernel
theorem dX8_share_119 : decode cX8_share 119 = .ok (.aload_n 0, 1) := by decide +kernel
theorem dX8_share_120 : decode cX8_share 120 = .ok (.getfield 32, 3) := by decide +kernel
theorem dX8_share_123 : decode cX8_share 123 = .ok (.iload 5, 2) := by decide +kernel
theorem dX8_share_125 : decode cX8_share 125 = .ok (.dup2, 1) := by decide +kernel
theorem dX8_share_126 : decode cX8_share 126 = .ok (.iaload, 1) := by decide +kernel
theorem dX8_share_127 : decode cX8_share 127 = .ok (.iload 6, 2) := by decide +kernel
theorem dX8_share_129 : decode cX8_share 129 = .ok (.iadd, 1) := by decide +kernel
theorem dX8_share_130 : decode cX8_share 130 = .ok (.iastore, 1) := by decide +kernel
theorem dX8_share_131 : decode cX8_share 131 = .ok (.iload 4, 2) := by decide +kernel
theorem dX8_share_133 : decode cX8_share 133 = .ok (.iload 6, 2) := by decide +kernel
theorem dX8_share_135 : decode cX8_share 135 = .ok (.isub, 1) := by decide +kernel
theorem dX8_share_136 : decode cX8_share 136 = .ok (.istore 4, 2) := by decide +kernel
theorem dX8_share_138 : decode cX8_share 138 = .ok (.iload 5, 2) := by decide +kernel
theorem dX8_share_140 : decode cX8_share 140 = .ok (.iconst 1, 1) := by decide +kernel
theorem dX8_share_141 : decode cX8_share 141 = .ok (.iadd, 1) := by decide +kernel
theorem dX8_share_142 : decode cX8_share 142 = .ok (.iload_n 2, 1) := by decide +kernel
theorem dX8_share_143 : decode cX8_share 143 = .ok (.irem, 1) := by decide +kernel
theorem dX8_share_144 : decode cX8_share 144 = .ok (.istore 5, 2) := by decide +kernel
theorem dX8_share_146 : decode cX8_share 146 = .ok (.goto (-44), 3) := by decide +kernel
theorem dX8_share_149 : decode cX8_share 149 = .ok (.iconst 0, 1) := by decide +kernel
theorem dX8_share_150 : decode cX8_share 150 = .ok (.istore 5, 2) := by decide +kernel
theorem dX8_share_152 : decode cX8_share 152 = .ok (.iload 5, 2) := by decide +kernel
theorem dX8_share_154 : decode cX8_share 154 = .ok (.iload_n 2, 1) := by decide +kernel
theorem dX8_share_155 : decode cX8_share 155 = .ok (.if_icmp .ge 51, 3) := by decide +kernel
theorem dX8_share_158 : decode cX8_share 158 = .ok (.aload_n 0, 1) := by decide +kernel
theorem dX8_share_159 : decode cX8_share 159 = .ok (.getfield 7, 3) := by decide +kernel
theorem dX8_share_162 : decode cX8_share 162 = .ok (.iload 5, 2) := by decide +kernel
theorem dX8_share_164 : decode cX8_share 164 = .ok (.iconst 2, 1) := by decide +kernel
theorem dX8_share_165 : decode cX8_share 165 = .ok (.invokestatic 84, 3) := by decide +kernel
theorem dX8_share_168 : decode cX8_share 168 = .ok (.dup2, 1) := by decide +kernel
theorem dX8_share_169 : decode cX8_share 169 = .ok (.iaload, 1) := by decide +kernel
theorem dX8_share_170 : decode cX8_share 170 = .ok (.aload_n 0, 1) := by decide +kernel
theorem dX8_share_171 : decode cX8_share 171 = .ok (.getfield 32, 3) := by decide +kernel
theorem dX8_share_174 : decode cX8_share 174 = .ok (.iload 5, 2) := by decide +kernel
theorem dX8_share_176 : decode cX8_share 176 = .ok (.iaload, 1) := by decide +kernel
theorem dX8_share_177 : decode cX8_share 177 = .ok (.isub, 1) := by decide +kernel
theorem dX8_share_178 : decode cX8_share 178 = .ok (.iastore, 1) := by decide +kernel
theorem dX8_share_179 : decode cX8_share 179 = .ok (.aload_n 0, 1) := by decide +kernel
theorem dX8_share_180 : decode cX8_share 180 = .ok (.getfield 7, 3) := by decide +kernel
theorem dX8_share_183 : decode cX8_share 183 = .ok (.iload 5, 2) := by decide +kernel
theorem dX8_share_185 : decode cX8_share 185 = .ok (.iconst 3, 1) := by decide +kernel
theorem dX8_share_186 : decode cX8_share 186 = .ok (.invokestatic 84, 3) := by decide +kernel
theorem dX8_share_189 : decode cX8_share 189 = .ok (.dup2, 1) := by decide +kernel
theorem dX8_share_190 : decode cX8_share 190 = .ok (.iaload, 1) := by decide +kernel
theorem dX8_share_191 : decode cX8_share 191 = .ok (.aload_n 0, 1) := by decide +kernel
theorem dX8_share_192 : decode cX8_share 192 = .ok (.getfield 32, 3) := by decide +kernel
theorem dX8_share_195 : decode cX8_share 195 = .ok (.iload 5, 2) := by decide +kernel
theorem dX8_share_197 : decode cX8_share 197 = .ok (.iaload, 1) := by decide +kernel
theorem dX8_share_198 : decode cX8_share 198 = .ok (.iadd, 1) := by decide +kernel
theorem dX8_share_199 : decode cX8_share 199 = .ok (.iastore, 1) := by decide +kernel
theorem dX8_share_200 : decode cX8_share 200 = .ok (.iinc 5 1, 3) := by decide +kernel
theorem dX8_share_203 : decode cX8_share 203 = .ok (.goto (-51), 3) := by decide +kernel
theorem dX8_share_206 : decode cX8_share 206 = .ok (.aload_n 0, 1) := by decide +kernel
theorem dX8_share_207 : decode cX8_share 207 = .ok (.getfield 7, 3) := by decide +kernel
theorem dX8_share_210 : decode cX8_share 210 = .ok (.iconst 1, 1) := by decide +kernel
theorem dX8_share_211 : decode cX8_share 211 = .ok (.dup2, 1) := by decide +kernel
theorem dX8_share_212 : decode cX8_share 212 = .ok (.iaload, 1) := by decide +kernel
theorem dX8_share_213 : decode cX8_share 213 = .ok (.iload_n 1, 1) := by decide +kernel
theorem dX8_share_214 : decode cX8_share 214 = .ok (.iadd, 1) := by decide +kernel
theorem dX8_share_215 : decode cX8_share 215 = .ok (.iastore, 1) := by decide +kernel
theorem dX8_share_216 : decode cX8_share 216 = .ok (.aload_n 0, 1) := by decide +kernel
theorem dX8_share_217 : decode cX8_share 217 = .ok (.getfield 7, 3) := by decide +kernel
theorem dX8_share_220 : decode cX8_share 220 = .ok (.bipush 13, 2) := by decide +kernel
theorem dX8_share_222 : decode cX8_share 222 = .ok (.dup2, 1) := by decide +kernel
theorem dX8_share_223 : decode cX8_share 223 = .ok (.iaload, 1) := by decide +kernel
theorem dX8_share_224 : decode cX8_share 224 = .ok (.iload_n 1, 1) := by decide +kernel
theorem dX8_share_225 : decode cX8_share 225 = .ok (.iadd, 1) := by decide +kernel
theorem dX8_share_226 : decode cX8_share 226 = .ok (.iastore, 1) := by decide +kernel
theorem dX8_share_227 : decode cX8_share 227 = .ok (.return_, 1) := by decide +kernel
theorem dX8_giveUp_0 : decode cX8_giveUp 0 = .ok (.aload_n 0, 1) := by decide +kernel
theorem dX8_giveUp_1 : decode cX8_giveUp 1 = .ok (.iload_n 1, 1) := by decide +kernel
theorem dX8_giveUp_2 : decode cX8_giveUp 2 = .ok (.invokevirtual 105, 3) := by decide +kernel
theorem dX8_giveUp_5 : decode cX8_giveUp 5 = .ok (.ifCond .ne 5, 3) := by decide +kernel
theorem dX8_giveUp_8 : decode cX8_giveUp 8 = .ok (.iconst (-1), 1) := by decide +kernel
theorem dX8_giveUp_9 : decode cX8_giveUp 9 = .ok (.ireturn, 1) := by decide +kernel
theorem dX8_giveUp_10 : decode cX8_giveUp 10 = .ok (.aload_n 0, 1) := by decide +kernel
theorem dX8_giveUp_11 : decode cX8_giveUp 11 = .ok (.iload_n 1, 1) := by decide +kernel
theorem dX8_giveUp_12 : decode cX8_giveUp 12 = .ok (.invokevirtual 117, 3) := by decide +kernel
theorem dX8_giveUp_15 : decode cX8_giveUp 15 = .ok (.ifCond .ne 6, 3) := by decide +kernel
theorem dX8_giveUp_18 : decode cX8_giveUp 18 = .ok (.bipush (-4), 2) := by decide +kernel
theorem dX8_giveUp_20 : decode cX8_giveUp 20 = .ok (.ireturn, 1) := by decide +kernel
theorem dX8_giveUp_21 : decode cX8_giveUp 21 = .ok (.aload_n 0, 1) := by decide +kernel
theorem dX8_giveUp_22 : decode cX8_giveUp 22 = .ok (.invokevirtual 81, 3) := by decide +kernel
theorem dX8_giveUp_25 : decode cX8_giveUp 25 = .ok (.aload_n 0, 1) := by decide +kernel
theorem dX8_giveUp_26 : decode cX8_giveUp 26 = .ok (.getfield 7, 3) := by decide +kernel
theorem dX8_giveUp_29 : decode cX8_giveUp 29 = .ok (.iload_n 1, 1) := by decide +kernel
theorem dX8_giveUp_30 : decode cX8_giveUp 30 = .ok (.iconst 4, 1) := by decide +kernel
theorem dX8_giveUp_31 : decode cX8_giveUp 31 = .ok (.invokestatic 59, 3) := by decide +kernel
theorem dX8_giveUp_34 : decode cX8_giveUp 34 = .ok (.iaload, 1) := by decide +kernel
theorem dX8_giveUp_35 : decode cX8_giveUp 35 = .ok (.iconst 1, 1) := by decide +kernel
theorem dX8_giveUp_36 : decode cX8_giveUp 36 = .ok (.if_icmp .ne 28, 3) := by decide +kernel
theorem dX8_giveUp_39 : decode cX8_giveUp 39 = .ok (.aload_n 0, 1) := by decide +kernel
theorem dX8_giveUp_40 : decode cX8_giveUp 40 = .ok (.getfield 7, 3) := by decide +kernel
theorem dX8_giveUp_43 : decode cX8_giveUp 43 = .ok (.iload_n 1, 1) := by decide +kernel
theorem dX8_giveUp_44 : decode cX8_giveUp 44 = .ok (.bipush 6, 2) := by decide +kernel
theorem dX8_giveUp_46 : decode cX8_giveUp 46 = .ok (.invokestatic 59, 3) := by decide +kernel
theorem dX8_giveUp_49 : decode cX8_giveUp 49 = .ok (.iaload, 1) := by decide +kernel
theorem dX8_giveUp_50 : decode cX8_giveUp 50 = .ok (.aload_n 0, 1) := by decide +kernel
theorem dX8_giveUp_51 : decode cX8_giveUp 51 = .ok (.getfield 7, 3) := by decide +kernel
theorem dX8_giveUp_54 : decode cX8_giveUp 54 = .ok (.iload_n 1, 1) := by decide +kernel
theorem dX8_giveUp_55 : decode cX8_giveUp 55 = .ok (.iconst 5, 1) := by decide +kernel
theorem dX8_giveUp_56 : decode cX8_giveUp 56 = .ok (.invokestatic 59, 3) := by decide +kernel
theorem dX8_giveUp_59 : decode cX8_giveUp 59 = .ok (.iaload, 1) := by decide +kernel
theorem dX8_giveUp_60 : decode cX8_giveUp 60 = .ok (.isub, 1) := by decide +kernel
theorem dX8_giveUp_61 : decode cX8_giveUp 61 = .ok (.goto 4, 3) := by decide +kernel
theorem dX8_giveUp_64 : decode cX8_giveUp 64 = .ok (.iconst 0, 1) := by decide +kernel
theorem dX8_giveUp_65 : decode cX8_giveUp 65 = .ok (.istore_n 2, 1) := by decide +kernel
theorem dX8_giveUp_66 : decode cX8_giveUp 66 = .ok (.aload_n 0, 1) := by decide +kernel
theorem dX8_giveUp_67 : decode cX8_giveUp 67 = .ok (.getfield 7, 3) := by decide +kernel
theorem dX8_giveUp_70 : decode cX8_giveUp 70 = .ok (.iload_n 1, 1) := by decide +kernel
theorem dX8_giveUp_71 : decode cX8_giveUp 71 = .ok (.iconst 4, 1) := by decide +kernel
theorem dX8_giveUp_72 : decode cX8_giveUp 72 = .ok (.invokestatic 59, 3) := by decide +kernel
theorem dX8_giveUp_75 : decode cX8_giveUp 75 = .ok (.iconst 3, 1) := by decide +kernel
theorem dX8_giveUp_76 : decode cX8_giveUp 76 = .ok (.iastore, 1) := by decide +kernel
theorem dX8_giveUp_77 : decode cX8_giveUp 77 = .ok (.aload_n 0, 1) := by decide +kernel
theorem dX8_giveUp_78 : decode cX8_giveUp 78 = .ok (.getfield 7, 3) := by decide +kernel
theorem dX8_giveUp_81 : decode cX8_giveUp 81 = .ok (.aload_n 0, 1) := by decide +kernel
theorem dX8_giveUp_82 : decode cX8_giveUp 82 = .ok (.getfield 7, 3) := by decide +kernel
theorem dX8_giveUp_85 : decode cX8_giveUp 85 = .ok (.iload_n 1, 1) := by decide +kernel
theorem dX8_giveUp_86 : decode cX8_giveUp 86 = .ok (.iconst 1, 1) := by decide +kernel
theorem dX8_giveUp_87 : decode cX8_giveUp 87 = .ok (.invokestatic 59, 3) := by decide +kernel
theorem dX8_giveUp_90 : decode cX8_giveUp 90 = .ok (.iaload, 1) := by decide +kernel
theorem dX8_giveUp_91 : decode cX8_giveUp 91 = .ok (.iconst 1, 1) := by decide +kernel
theorem dX8_giveUp_92 : decode cX8_giveUp 92 = .ok (.invokestatic 55, 3) := by decide +kernel
theorem dX8_giveUp_95 : decode cX8_giveUp 95 = .ok (.dup2, 1) := by decide +kernel
theorem dX8_giveUp_96 : decode cX8_giveUp 96 = .ok (.iaload, 1) := by decide +kernel
theorem dX8_giveUp_97 : decode cX8_giveUp 97 = .ok (.iconst 1, 1) := by decide +kernel
theorem dX8_giveUp_98 : decode cX8_giveUp 98 = .ok (.iadd, 1) := by decide +kernel
theorem dX8_giveUp_99 : decode cX8_giveUp 99 = .ok (.iastore, 1) := by decide +kernel
theorem dX8_giveUp_100 : decode cX8_giveUp 100 = .ok (.iload_n 2, 1) := by decide +kernel
theorem dX8_giveUp_101 : decode cX8_giveUp 101 = .ok (.ifCond .gt 5, 3) := by decide +kernel
theorem dX8_giveUp_104 : decode cX8_giveUp 104 = .ok (.iconst 0, 1) := by decide +kernel
theorem dX8_giveUp_105 : decode cX8_giveUp 105 = .ok (.ireturn, 1) := by decide +kernel
theorem dX8_giveUp_106 : decode cX8_giveUp 106 = .ok (.aload_n 0, 1) := by decide +kernel
theorem dX8_giveUp_107 : decode cX8_giveUp 107 = .ok (.iload_n 2, 1) := by decide +kernel
theorem dX8_giveUp_108 : decode cX8_giveUp 108 = .ok (.invokevirtual 120, 3) := by decide +kernel
theorem dX8_giveUp_111 : decode cX8_giveUp 111 = .ok (.iload_n 2, 1) := by decide +kernel
theorem dX8_giveUp_112 : decode cX8_giveUp 112 = .ok (.ireturn, 1) := by decide +kernel
theorem dX8_sign_0 : decode cX8_sign 0 = .ok (.aload_n 0, 1) := by decide +kernel
theorem dX8_sign_1 : decode cX8_sign 1 = .ok (.getfield 124, 3) := by decide +kernel
theorem dX8_sign_4 : decode cX8_sign 4 = .ok (.aload_n 0, 1) := by decide +kernel
theorem dX8_sign_5 : decode cX8_sign 5 = .ok (.getfield 127, 3) := by decide +kernel
theorem dX8_sign_8 : decode cX8_sign 8 = .ok (.if_icmp .ge 15, 3) := by decide +kernel
theorem dX8_sign_11 : decode cX8_sign 11 = .ok (.aload_n 0, 1) := by decide +kernel
theorem dX8_sign_12 : decode cX8_sign 12 = .ok (.getfield 22, 3) := by decide +kernel
theorem dX8_sign_15 : decode cX8_sign 15 = .ok (.aload_n 0, 1) := by decide +kernel
theorem dX8_sign_16 : decode cX8_sign 16 = .ok (.getfield 124, 3) := by decide +kernel
theorem dX8_sign_19 : decode cX8_sign 19 = .ok (.iaload, 1) := by decide +kernel
theorem dX8_sign_20 : decode cX8_sign 20 = .ok (.goto 4, 3) := by decide +kernel
theorem dX8_sign_23 : decode cX8_sign 23 = .ok (.iconst 0, 1) := by decide +kernel
theorem dX8_sign_24 : decode cX8_sign 24 = .ok (.istore_n 3, 1) := by decide +kernel
theorem dX8_sign_25 : decode cX8_sign 25 = .ok (.aload_n 0, 1) := by decide +kernel
theorem dX8_sign_26 : decode cX8_sign 26 = .ok (.aload_n 0, 1) := by decide +kernel
theorem dX8_sign_27 : decode cX8_sign 27 = .ok (.getfield 130, 3) := by decide +kernel
theorem dX8_sign_30 : decode cX8_sign 30 = .ok (.ifCond .ne 12, 3) := by decide +kernel
theorem dX8_sign_33 : decode cX8_sign 33 = .ok (.iload_n 3, 1) := by decide +kernel
theorem dX8_sign_34 : decode cX8_sign 34 = .ok (.iload_n 1, 1) := by decide +kernel
theorem dX8_sign_35 : decode cX8_sign 35 = .ok (.iload_n 2, 1) := by decide +kernel
theorem dX8_sign_36 : decode cX8_sign 36 = .ok (.invokestatic 38, 3) := by decide +kernel
theorem dX8_sign_39 : decode cX8_sign 39 = .ok (.ifCond .ne 7, 3) := by decide +kernel
theorem dX8_sign_42 : decode cX8_sign 42 = .ok (.iconst 1, 1) := by decide +kernel
theorem dX8_sign_43 : decode cX8_sign 43 = .ok (.goto 4, 3) := by decide +kernel
theorem dX8_sign_46 : decode cX8_sign 46 = .ok (.iconst 0, 1) := by decide +kernel
theorem dX8_sign_47 : decode cX8_sign 47 = .ok (.putfield 130, 3) := by decide +kernel
theorem dX8_sign_50 : decode cX8_sign 50 = .ok (.aload_n 0, 1) := by decide +kernel
theorem dX8_sign_51 : decode cX8_sign 51 = .ok (.dup, 1) := by decide +kernel
theorem dX8_sign_52 : decode cX8_sign 52 = .ok (.getfield 124, 3) := by decide +kernel
theorem dX8_sign_55 : decode cX8_sign 55 = .ok (.aload_n 0, 1) := by decide +kernel
theorem dX8_sign_56 : decode cX8_sign 56 = .ok (.getfield 130, 3) := by decide +kernel
theorem dX8_sign_59 : decode cX8_sign 59 = .ok (.ifCond .eq 7, 3) := by decide +kernel
theorem dX8_sign_62 : decode cX8_sign 62 = .ok (.iconst 0, 1) := by decide +kernel
theorem dX8_sign_63 : decode cX8_sign 63 = .ok (.goto 4, 3) := by decide +kernel
theorem dX8_sign_66 : decode cX8_sign 66 = .ok (.iconst 1, 1) := by decide +kernel
theorem dX8_sign_67 : decode cX8_sign 67 = .ok (.iadd, 1) := by decide +kernel
theorem dX8_sign_68 : decode cX8_sign 68 = .ok (.putfield 124, 3) := by decide +kernel
theorem dX8_sign_71 : decode cX8_sign 71 = .ok (.iload_n 3, 1) := by decide +kernel
theorem dX8_sign_72 : decode cX8_sign 72 = .ok (.ireturn, 1) := by decide +kernel
theorem dX8_number_0 : decode cX8_number 0 = .ok (.aload_n 0, 1) := by decide +kernel
theorem dX8_number_1 : decode cX8_number 1 = .ok (.iload_n 1, 1) := by decide +kernel
theorem dX8_number_2 : decode cX8_number 2 = .ok (.bipush 57, 2) := by decide +kernel
theorem dX8_number_4 : decode cX8_number 4 = .ok (.invokevirtual 134, 3) := by decide +kernel
theorem dX8_number_7 : decode cX8_number 7 = .ok (.bipush 48, 2) := by decide +kernel
theorem dX8_number_9 : decode cX8_number 9 = .ok (.isub, 1) := by decide +kernel
theorem dX8_number_10 : decode cX8_number 10 = .ok (.istore_n 3, 1) := by decide +kernel
theorem dX8_number_11 : decode cX8_number 11 = .ok (.iconst 1, 1) := by decide +kernel
theorem dX8_number_12 : decode cX8_number 12 = .ok (.istore 4, 2) := by decide +kernel
theorem dX8_number_14 : decode cX8_number 14 = .ok (.aload_n 0, 1) := by decide +kernel
theorem dX8_number_15 : decode cX8_number 15 = .ok (.getfield 130, 3) := by decide +kernel
theorem dX8_number_18 : decode cX8_number 18 = .ok (.ifCond .ne 66, 3) := by decide +kernel
theorem dX8_number_21 : decode cX8_number 21 = .ok (.iload_n 3, 1) := by decide +kernel
theorem dX8_number_22 : decode cX8_number 22 = .ok (.ifCond .le 62, 3) := by decide +kernel
theorem dX8_number_25 : decode cX8_number 25 = .ok (.iload 4, 2) := by decide +kernel
theorem dX8_number_27 : decode cX8_number 27 = .ok (.iload_n 2, 1) := by decide +kernel
theorem dX8_number_28 : decode cX8_number 28 = .ok (.if_icmp .ge 56, 3) := by decide +kernel
theorem dX8_number_31 : decode cX8_number 31 = .ok (.aload_n 0, 1) := by decide +kernel
theorem dX8_number_32 : decode cX8_number 32 = .ok (.getfield 124, 3) := by decide +kernel
theorem dX8_number_35 : decode cX8_number 35 = .ok (.aload_n 0, 1) := by decide +kernel
theorem dX8_number_36 : decode cX8_number 36 = .ok (.getfield 127, 3) := by decide +kernel
theorem dX8_number_39 : decode cX8_number 39 = .ok (.if_icmp .ge 45, 3) := by decide +kernel
theorem dX8_number_42 : decode cX8_number 42 = .ok (.aload_n 0, 1) := by decide +kernel
theorem dX8_number_43 : decode cX8_number 43 = .ok (.getfield 22, 3) := by decide +kernel
theorem dX8_number_46 : decode cX8_number 46 = .ok (.aload_n 0, 1) := by decide +kernel
theorem dX8_number_47 : decode cX8_number 47 = .ok (.getfield 124, 3) := by decide +kernel
theorem dX8_number_50 : decode cX8_number 50 = .ok (.iaload, 1) := by decide +kernel
theorem dX8_number_51 : decode cX8_number 51 = .ok (.bipush 48, 2) := by decide +kernel
theorem dX8_number_53 : decode cX8_number 53 = .ok (.bipush 57, 2) := by decide +kernel
theorem dX8_number_55 : decode cX8_number 55 = .ok (.invokestatic 38, 3) := by decide +kernel
theorem dX8_number_58 : decode cX8_number 58 = .ok (.ifCond .eq 26, 3) := by decide +kernel
theorem dX8_number_61 : decode cX8_number 61 = .ok (.bipush 10, 2) := by decide +kernel
theorem dX8_number_63 : decode cX8_number 63 = .ok (.iload_n 3, 1) := by decide +kernel
theorem dX8_number_64 : decode cX8_number 64 = .ok (.imul, 1) := by decide +kernel
theorem dX8_number_65 : decode cX8_number 65 = .ok (.aload_n 0, 1) := by decide +kernel
theorem dX8_number_66 : decode cX8_number 66 = .ok (.bipush 48, 2) := by decide +kernel
theorem dX8_number_68 : decode cX8_number 68 = .ok (.bipush 57, 2) := by decide +kernel
theorem dX8_number_70 : decode cX8_number 70 = .ok (.invokevirtual 134, 3) := by decide +kernel
theorem dX8_number_73 : decode cX8_number 73 = .ok (.iadd, 1) := by decide +kernel
theorem dX8_number_74 : decode cX8_number 74 = .ok (.bipush 48, 2) := by decide +kernel
theorem dX8_number_76 : decode cX8_number 76 = .ok (.isub, 1) := by decide +kernel
theorem dX8_number_77 : decode cX8_number 77 = .ok (.istore_n 3, 1) := by decide +kernel
theorem dX8_number_78 : decode cX8_number 78 = .ok (.iinc 4 1, 3) := by decide +kernel
theorem dX8_number_81 : decode cX8_number 81 = .ok (.goto (-67), 3) := by decide +kernel
theorem dX8_number_84 : decode cX8_number 84 = .ok (.iload_n 3, 1) := by decide +kernel
theorem dX8_number_85 : decode cX8_number 85 = .ok (.ireturn, 1) := by decide +kernel
theorem dX8_go_0 : decode cX8_go 0 = .ok (.aload_n 0, 1) := by decide +kernel
theorem dX8_go_1 : decode cX8_go 1 = .ok (.iconst 0, 1) := by decide +kernel
theorem dX8_go_2 : decode cX8_go 2 = .ok (.putfield 124, 3) := by decide +kernel
theorem dX8_go_5 : decode cX8_go 5 = .ok (.aload_n 0, 1) := by decide +kernel
theorem dX8_go_6 : decode cX8_go 6 = .ok (.iconst 0, 1) := by decide +kernel
theorem dX8_go_7 : decode cX8_go 7 = .ok (.putfield 130, 3) := by decide +kernel
theorem dX8_go_10 : decode cX8_go 10 = .ok (.aload_n 0, 1) := by decide +kernel
theorem dX8_go_11 : decode cX8_go 11 = .ok (.iconst 0, 1) := by decide +kernel
theorem dX8_go_12 : decode cX8_go 12 = .ok (.putfield 137, 3) := by decide +kernel
theorem dX8_go_15 : decode cX8_go 15 = .ok (.aload_n 0, 1) := by decide +kernel
theorem dX8_go_16 : decode cX8_go 16 = .ok (.iconst 0, 1) := by decide +kernel
theorem dX8_go_17 : decode cX8_go 17 = .ok (.putfield 140, 3) := by decide +kernel
theorem dX8_go_20 : decode cX8_go 20 = .ok (.iconst 0, 1) := by decide +kernel
theorem dX8_go_21 : decode cX8_go 21 = .ok (.istore_n 2, 1) := by decide +kernel
theorem dX8_go_22 : decode cX8_go 22 = .ok (.iconst 1, 1) := by decide +kernel
theorem dX8_go_23 : decode cX8_go 23 = .ok (.istore_n 3, 1) := by decide +kernel
theorem dX8_go_24 : decode cX8_go 24 = .ok (.iload_n 3, 1) := by decide +kernel
theorem dX8_go_25 : decode cX8_go 25 = .ok (.ifCond .eq 164, 3) := by decide +kernel
theorem dX8_go_28 : decode cX8_go 28 = .ok (.aload_n 0, 1) := by decide +kernel
theorem dX8_go_29 : decode cX8_go 29 = .ok (.bipush 48, 2) := by decide +kernel
theorem dX8_go_31 : decode cX8_go 31 = .ok (.iconst 2, 1) := by decide +kernel
theorem dX8_go_32 : decode cX8_go 32 = .ok (.invokevirtual 143, 3) := by decide +kernel
theorem dX8_go_35 : decode cX8_go 35 = .ok (.istore 4, 2) := by decide +kernel
theorem dX8_go_37 : decode cX8_go 37 = .ok (.aload_n 0, 1) := by decide +kernel
theorem dX8_go_38 : decode cX8_go 38 = .ok (.bipush 61, 2) := by decide +kernel
theorem dX8_go_40 : decode cX8_go 40 = .ok (.bipush 61, 2) := by decide +kernel
theorem dX8_go_42 : decode cX8_go 42 = .ok (.invokevirtual 134, 3) := by decide +kernel
theorem dX8_go_45 : decode cX8_go 45 = .ok (.istore 5, 2) := by decide +kernel
theorem dX8_go_47 : decode cX8_go 47 = .ok (.aload_n 0, 1) := by decide +kernel
theorem dX8_go_48 : decode cX8_go 48 = .ok (.bipush 49, 2) := by decide +kernel
theorem dX8_go_50 : decode cX8_go 50 = .ok (.bipush 7, 2) := by decide +kernel
theorem dX8_go_52 : decode cX8_go 52 = .ok (.invokevirtual 143, 3) := by decide +kernel
theorem dX8_go_55 : decode cX8_go 55 = .ok (.istore 6, 2) := by decide +kernel
theorem dX8_go_57 : decode cX8_go 57 = .ok (.aload_n 0, 1) := by decide +kernel
theorem dX8_go_58 : decode cX8_go 58 = .ok (.iload_n 1, 1) := by decide +kernel
theorem dX8_go_59 : decode cX8_go 59 = .ok (.ifCond .eq 14, 3) := by decide +kernel
theorem dX8_go_62 : decode cX8_go 62 = .ok (.aload_n 0, 1) := by decide +kernel
theorem dX8_go_63 : decode cX8_go 63 = .ok (.iload 4, 2) := by decide +kernel
theorem dX8_go_65 : decode cX8_go 65 = .ok (.iload 6, 2) := by decide +kernel
theorem dX8_go_67 : decode cX8_go 67 = .ok (.invokevirtual 111, 3) := by decide +kernel
theorem dX8_go_70 : decode cX8_go 70 = .ok (.goto 4, 3) := by decide +kernel
theorem dX8_go_73 : decode cX8_go 73 = .ok (.iconst 0, 1) := by decide +kernel
theorem dX8_go_74 : decode cX8_go 74 = .ok (.putfield 137, 3) := by decide +kernel
theorem dX8_go_77 : decode cX8_go 77 = .ok (.iload_n 1, 1) := by decide +kernel
theorem dX8_go_78 : decode cX8_go 78 = .ok (.ifCond .eq 35, 3) := by decide +kernel
theorem dX8_go_81 : decode cX8_go 81 = .ok (.aload_n 0, 1) := by decide +kernel
theorem dX8_go_82 : decode cX8_go 82 = .ok (.getfield 137, 3) := by decide +kernel
theorem dX8_go_85 : decode cX8_go 85 = .ok (.ifCond .ne 28, 3) := by decide +kernel
theorem dX8_go_88 : decode cX8_go 88 = .ok (.aload_n 0, 1) := by decide +kernel
theorem dX8_go_89 : decode cX8_go 89 = .ok (.dup, 1) := by decide +kernel
theorem dX8_go_90 : decode cX8_go 90 = .ok (.getfield 140, 3) := by decide +kernel
theorem dX8_go_93 : decode cX8_go 93 = .ok (.aload_n 0, 1) := by decide +kernel
theorem dX8_go_94 : decode cX8_go 94 = .ok (.iload 4, 2) := by decide +kernel
theorem dX8_go_96 : decode cX8_go 96 = .ok (.iload 6, 2) := by decide +kernel
theorem dX8_go_98 : decode cX8_go 98 = .ok (.invokevirtual 114, 3) := by decide +kernel
theorem dX8_go_101 : decode cX8_go 101 = .ok (.ifCond .ne 7, 3) := by decide +kernel
theorem dX8_go_104 : decode cX8_go 104 = .ok (.iconst 1, 1) := by decide +kernel
theorem dX8_go_105 : decode cX8_go 105 = .ok (.goto 4, 3) := by decide +kernel
theorem dX8_go_108 : decode cX8_go 108 = .ok (.iconst 0, 1) := by decide +kernel
theorem dX8_go_109 : decode cX8_go 109 = .ok (.iadd, 1) := by decide +kernel
theorem dX8_go_110 : decode cX8_go 110 = .ok (.putfield 140, 3) := by decide +kernel
theorem dX8_go_113 : decode cX8_go 113 = .ok (.iload_n 2, 1) := by decide +kernel
theorem dX8_go_114 : decode cX8_go 114 = .ok (.aload_n 0, 1) := by decide +kernel
theorem dX8_go_115 : decode cX8_go 115 = .ok (.getfield 137, 3) := by decide +kernel
theorem dX8_go_118 : decode cX8_go 118 = .ok (.ifCond .ne 7, 3) := by decide +kernel
theorem dX8_go_121 : decode cX8_go 121 = .ok (.iconst 1, 1) := by decide +kernel
theorem dX8_go_122 : decode cX8_go 122 = .ok (.goto 4, 3) := by decide +kernel
theorem dX8_go_125 : decode cX8_go 125 = .ok (.iconst 0, 1) := by decide +kernel
theorem dX8_go_126 : decode cX8_go 126 = .ok (.iadd, 1) := by decide +kernel
theorem dX8_go_127 : decode cX8_go 127 = .ok (.istore_n 2, 1) := by decide +kernel
theorem dX8_go_128 : decode cX8_go 128 = .ok (.aload_n 0, 1) := by decide +kernel
theorem dX8_go_129 : decode cX8_go 129 = .ok (.getfield 130, 3) := by decide +kernel
theorem dX8_go_132 : decode cX8_go 132 = .ok (.ifCond .ne 25, 3) := by decide +kernel
theorem dX8_go_135 : decode cX8_go 135 = .ok (.aload_n 0, 1) := by decide +kernel
theorem dX8_go_136 : decode cX8_go 136 = .ok (.getfield 137, 3) := by decide +kernel
theorem dX8_go_139 : decode cX8_go 139 = .ok (.ifCond .ne 18, 3) := by decide +kernel
theorem dX8_go_142 : decode cX8_go 142 = .ok (.aload_n 0, 1) := by decide +kernel
theorem dX8_go_143 : decode cX8_go 143 = .ok (.getfield 124, 3) := by decide +kernel
theorem dX8_go_146 : decode cX8_go 146 = .ok (.aload_n 0, 1) := by decide +kernel
theorem dX8_go_147 : decode cX8_go 147 = .ok (.getfield 127, 3) := by decide +kernel
theorem dX8_go_150 : decode cX8_go 150 = .ok (.if_icmp .ge 7, 3) := by decide +kernel
theorem dX8_go_153 : decode cX8_go 153 = .ok (.iconst 1, 1) := by decide +kernel
theorem dX8_go_154 : decode cX8_go 154 = .ok (.goto 4, 3) := by decide +kernel
theorem dX8_go_157 : decode cX8_go 157 = .ok (.iconst 0, 1) := by decide +kernel
theorem dX8_go_158 : decode cX8_go 158 = .ok (.istore_n 3, 1) := by decide +kernel
theorem dX8_go_159 : decode cX8_go 159 = .ok (.iload_n 3, 1) := by decide +kernel
theorem dX8_go_160 : decode cX8_go 160 = .ok (.ifCond .eq 26, 3) := by decide +kernel
theorem dX8_go_163 : decode cX8_go 163 = .ok (.aload_n 0, 1) := by decide +kernel
theorem dX8_go_164 : decode cX8_go 164 = .ok (.bipush 44, 2) := by decide +kernel
theorem dX8_go_166 : decode cX8_go 166 = .ok (.bipush 44, 2) := by decide +kernel
theorem dX8_go_168 : decode cX8_go 168 = .ok (.invokevirtual 134, 3) := by decide +kernel
theorem dX8_go_171 : decode cX8_go 171 = .ok (.istore 7, 2) := by decide +kernel
theorem dX8_go_173 : decode cX8_go 173 = .ok (.aload_n 0, 1) := by decide +kernel
theorem dX8_go_174 : decode cX8_go 174 = .ok (.getfield 130, 3) := by decide +kernel
theorem dX8_go_177 : decode cX8_go 177 = .ok (.ifCond .ne 7, 3) := by decide +kernel
theorem dX8_go_180 : decode cX8_go 180 = .ok (.iconst 1, 1) := by decide +kernel
theorem dX8_go_181 : decode cX8_go 181 = .ok (.goto 4, 3) := by decide +kernel
theorem dX8_go_184 : decode cX8_go 184 = .ok (.iconst 0, 1) := by decide +kernel
theorem dX8_go_185 : decode cX8_go 185 = .ok (.istore_n 3, 1) := by decide +kernel
theorem dX8_go_186 : decode cX8_go 186 = .ok (.goto (-162), 3) := by decide +kernel
theorem dX8_go_189 : decode cX8_go 189 = .ok (.iload_n 2, 1) := by decide +kernel
theorem dX8_go_190 : decode cX8_go 190 = .ok (.ireturn, 1) := by decide +kernel
theorem dX8_swap_0 : decode cX8_swap 0 = .ok (.iconst 0, 1) := by decide +kernel
theorem dX8_swap_1 : decode cX8_swap 1 = .ok (.istore_n 1, 1) := by decide +kernel
theorem dX8_swap_2 : decode cX8_swap 2 = .ok (.iload_n 1, 1) := by decide +kernel
theorem dX8_swap_3 : decode cX8_swap 3 = .ok (.sipush 204, 3) := by decide +kernel
theorem dX8_swap_6 : decode cX8_swap 6 = .ok (.if_icmp .ge 35, 3) := by decide +kernel
theorem dX8_swap_9 : decode cX8_swap 9 = .ok (.aload_n 0, 1) := by decide +kernel
theorem dX8_swap_10 : decode cX8_swap 10 = .ok (.getfield 7, 3) := by decide +kernel
theorem dX8_swap_13 : decode cX8_swap 13 = .ok (.iload_n 1, 1) := by decide +kernel
theorem dX8_swap_14 : decode cX8_swap 14 = .ok (.iaload, 1) := by decide +kernel
theorem dX8_swap_15 : decode cX8_swap 15 = .ok (.istore_n 2, 1) := by decide +kernel
theorem dX8_swap_16 : decode cX8_swap 16 = .ok (.aload_n 0, 1) := by decide +kernel
theorem dX8_swap_17 : decode cX8_swap 17 = .ok (.getfield 7, 3) := by decide +kernel
theorem dX8_swap_20 : decode cX8_swap 20 = .ok (.iload_n 1, 1) := by decide +kernel
theorem dX8_swap_21 : decode cX8_swap 21 = .ok (.aload_n 0, 1) := by decide +kernel
theorem dX8_swap_22 : decode cX8_swap 22 = .ok (.getfield 13, 3) := by decide +kernel
theorem dX8_swap_25 : decode cX8_swap 25 = .ok (.iload_n 1, 1) := by decide +kernel
theorem dX8_swap_26 : decode cX8_swap 26 = .ok (.iaload, 1) := by decide +kernel
theorem dX8_swap_27 : decode cX8_swap 27 = .ok (.iastore, 1) := by decide +kernel
theorem dX8_swap_28 : decode cX8_swap 28 = .ok (.aload_n 0, 1) := by decide +kernel
theorem dX8_swap_29 : decode cX8_swap 29 = .ok (.getfield 13, 3) := by decide +kernel
theorem dX8_swap_32 : decode cX8_swap 32 = .ok (.iload_n 1, 1) := by decide +kernel
theorem dX8_swap_33 : decode cX8_swap 33 = .ok (.iload_n 2, 1) := by decide +kernel
theorem dX8_swap_34 : decode cX8_swap 34 = .ok (.iastore, 1) := by decide +kernel
theorem dX8_swap_35 : decode cX8_swap 35 = .ok (.iinc 1 1, 3) := by decide +kernel
theorem dX8_swap_38 : decode cX8_swap 38 = .ok (.goto (-36), 3) := by decide +kernel
theorem dX8_swap_41 : decode cX8_swap 41 = .ok (.return_, 1) := by decide +kernel
theorem dX8_readPayments_0 : decode cX8_readPayments 0 = .ok (.aload_n 0, 1) := by decide +kernel
theorem dX8_readPayments_1 : decode cX8_readPayments 1 = .ok (.iconst 0, 1) := by decide +kernel
theorem dX8_readPayments_2 : decode cX8_readPayments 2 = .ok (.invokevirtual 146, 3) := by decide +kernel
theorem dX8_readPayments_5 : decode cX8_readPayments 5 = .ok (.istore_n 1, 1) := by decide +kernel
theorem dX8_readPayments_6 : decode cX8_readPayments 6 = .ok (.aload_n 0, 1) := by decide +kernel
theorem dX8_readPayments_7 : decode cX8_readPayments 7 = .ok (.getfield 130, 3) := by decide +kernel
theorem dX8_readPayments_10 : decode cX8_readPayments 10 = .ok (.ifCond .eq 11, 3) := by decide +kernel
theorem dX8_readPayments_13 : decode cX8_readPayments 13 = .ok (.bipush (-100), 2) := by decide +kernel
theorem dX8_readPayments_15 : decode cX8_readPayments 15 = .ok (.aload_n 0, 1) := by decide +kernel
theorem dX8_readPayments_16 : decode cX8_readPayments 16 = .ok (.getfield 124, 3) := by decide +kernel
theorem dX8_readPayments_19 : decode cX8_readPayments 19 = .ok (.isub, 1) := by decide +kernel
theorem dX8_readPayments_20 : decode cX8_readPayments 20 = .ok (.ireturn, 1) := by decide +kernel
theorem dX8_readPayments_21 : decode cX8_readPayments 21 = .ok (.iconst 0, 1) := by decide +kernel
theorem dX8_readPayments_22 : decode cX8_readPayments 22 = .ok (.istore_n 2, 1) := by decide +kernel
theorem dX8_readPayments_23 : decode cX8_readPayments 23 = .ok (.iload_n 2, 1) := by decide +kernel
theorem dX8_readPayments_24 : decode cX8_readPayments 24 = .ok (.sipush 204, 3) := by decide +kernel
theorem dX8_readPayments_27 : decode cX8_readPayments 27 = .ok (.if_icmp .ge 21, 3) := by decide +kernel
theorem dX8_readPayments_30 : decode cX8_readPayments 30 = .ok (.aload_n 0, 1) := by decide +kernel
theorem dX8_readPayments_31 : decode cX8_readPayments 31 = .ok (.getfield 13, 3) := by decide +kernel
theorem dX8_readPayments_34 : decode cX8_readPayments 34 = .ok (.iload_n 2, 1) := by decide +kernel
theorem dX8_readPayments_35 : decode cX8_readPayments 35 = .ok (.aload_n 0, 1) := by decide +kernel
theorem dX8_readPayments_36 : decode cX8_readPayments 36 = .ok (.getfield 7, 3) := by decide +kernel
theorem dX8_readPayments_39 : decode cX8_readPayments 39 = .ok (.iload_n 2, 1) := by decide +kernel
theorem dX8_readPayments_40 : decode cX8_readPayments 40 = .ok (.iaload, 1) := by decide +kernel
theorem dX8_readPayments_41 : decode cX8_readPayments 41 = .ok (.iastore, 1) := by decide +kernel
theorem dX8_readPayments_42 : decode cX8_readPayments 42 = .ok (.iinc 2 1, 3) := by decide +kernel
theorem dX8_readPayments_45 : decode cX8_readPayments 45 = .ok (.goto (-22), 3) := by decide +kernel
theorem dX8_readPayments_48 : decode cX8_readPayments 48 = .ok (.aload_n 0, 1) := by decide +kernel
theorem dX8_readPayments_49 : decode cX8_readPayments 49 = .ok (.iconst 1, 1) := by decide +kernel
theorem dX8_readPayments_50 : decode cX8_readPayments 50 = .ok (.invokevirtual 146, 3) := by decide +kernel
theorem dX8_readPayments_53 : decode cX8_readPayments 53 = .ok (.istore_n 1, 1) := by decide +kernel
theorem dX8_readPayments_54 : decode cX8_readPayments 54 = .ok (.aload_n 0, 1) := by decide +kernel
theorem dX8_readPayments_55 : decode cX8_readPayments 55 = .ok (.invokevirtual 150, 3) := by decide +kernel
theorem dX8_readPayments_58 : decode cX8_readPayments 58 = .ok (.aload_n 0, 1) := by decide +kernel
theorem dX8_readPayments_59 : decode cX8_readPayments 59 = .ok (.getfield 137, 3) := by decide +kernel
theorem dX8_readPayments_62 : decode cX8_readPayments 62 = .ok (.ifCond .ge 19, 3) := by decide +kernel
theorem dX8_readPayments_65 : decode cX8_readPayments 65 = .ok (.aload_n 0, 1) := by decide +kernel
theorem dX8_readPayments_66 : decode cX8_readPayments 66 = .ok (.iload_n 1, 1) := by decide +kernel
theorem dX8_readPayments_67 : decode cX8_readPayments 67 = .ok (.putfield 25, 3) := by decide +kernel
theorem dX8_readPayments_70 : decode cX8_readPayments 70 = .ok (.aload_n 0, 1) := by decide +kernel
theorem dX8_readPayments_71 : decode cX8_readPayments 71 = .ok (.aload_n 0, 1) := by decide +kernel
theorem dX8_readPayments_72 : decode cX8_readPayments 72 = .ok (.getfield 137, 3) := by decide +kernel
theorem dX8_readPayments_75 : decode cX8_readPayments 75 = .ok (.putfield 29, 3) := by decide +kernel
theorem dX8_readPayments_78 : decode cX8_readPayments 78 = .ok (.bipush (-4), 2) := by decide +kernel
theorem dX8_readPayments_80 : decode cX8_readPayments 80 = .ok (.ireturn, 1) := by decide +kernel
theorem dX8_readPayments_81 : decode cX8_readPayments 81 = .ok (.aload_n 0, 1) := by decide +kernel
theorem dX8_readPayments_82 : decode cX8_readPayments 82 = .ok (.invokevirtual 81, 3) := by decide +kernel
theorem dX8_readPayments_85 : decode cX8_readPayments 85 = .ok (.aload_n 0, 1) := by decide +kernel
theorem dX8_readPayments_86 : decode cX8_readPayments 86 = .ok (.invokevirtual 150, 3) := by decide +kernel
theorem dX8_readPayments_89 : decode cX8_readPayments 89 = .ok (.aload_n 0, 1) := by decide +kernel
theorem dX8_readPayments_90 : decode cX8_readPayments 90 = .ok (.getfield 140, 3) := by decide +kernel
theorem dX8_readPayments_93 : decode cX8_readPayments 93 = .ok (.ireturn, 1) := by decide +kernel
theorem dX8_refusal_0 : decode cX8_refusal 0 = .ok (.iload_n 1, 1) := by decide +kernel
theorem dX8_refusal_1 : decode cX8_refusal 1 = .ok (.iconst 0, 1) := by decide +kernel
theorem dX8_refusal_2 : decode cX8_refusal 2 = .ok (.iconst 1, 1) := by decide +kernel
theorem dX8_refusal_3 : decode cX8_refusal 3 = .ok (.invokestatic 38, 3) := by decide +kernel
theorem dX8_refusal_6 : decode cX8_refusal 6 = .ok (.ifCond .ne 8, 3) := by decide +kernel
theorem dX8_refusal_9 : decode cX8_refusal 9 = .ok (.bipush (-2), 2) := by decide +kernel
theorem dX8_refusal_11 : decode cX8_refusal 11 = .ok (.goto 18, 3) := by decide +kernel
theorem dX8_refusal_14 : decode cX8_refusal 14 = .ok (.iload_n 1, 1) := by decide +kernel
theorem dX8_refusal_15 : decode cX8_refusal 15 = .ok (.ifCond .ne 10, 3) := by decide +kernel
theorem dX8_refusal_18 : decode cX8_refusal 18 = .ok (.aload_n 0, 1) := by decide +kernel
theorem dX8_refusal_19 : decode cX8_refusal 19 = .ok (.getfield 25, 3) := by decide +kernel
theorem dX8_refusal_22 : decode cX8_refusal 22 = .ok (.goto 7, 3) := by decide +kernel
theorem dX8_refusal_25 : decode cX8_refusal 25 = .ok (.aload_n 0, 1) := by decide +kernel
theorem dX8_refusal_26 : decode cX8_refusal 26 = .ok (.getfield 29, 3) := by decide +kernel
theorem dX8_refusal_29 : decode cX8_refusal 29 = .ok (.ireturn, 1) := by decide +kernel
theorem dX8_pass_0 : decode cX8_pass 0 = .ok (.iload_n 1, 1) := by decide +kernel
theorem dX8_pass_1 : decode cX8_pass 1 = .ok (.iconst 1, 1) := by decide +kernel
theorem dX8_pass_2 : decode cX8_pass 2 = .ok (.sipush 365, 3) := by decide +kernel
theorem dX8_pass_5 : decode cX8_pass 5 = .ok (.invokestatic 38, 3) := by decide +kernel
theorem dX8_pass_8 : decode cX8_pass 8 = .ok (.ifCond .ne 6, 3) := by decide +kernel
theorem dX8_pass_11 : decode cX8_pass 11 = .ok (.bipush (-2), 2) := by decide +kernel
theorem dX8_pass_13 : decode cX8_pass 13 = .ok (.ireturn, 1) := by decide +kernel
theorem dX8_pass_14 : decode cX8_pass 14 = .ok (.aload_n 0, 1) := by decide +kernel
theorem dX8_pass_15 : decode cX8_pass 15 = .ok (.getfield 7, 3) := by decide +kernel
theorem dX8_pass_18 : decode cX8_pass 18 = .ok (.iconst 0, 1) := by decide +kernel
theorem dX8_pass_19 : decode cX8_pass 19 = .ok (.iaload, 1) := by decide +kernel
theorem dX8_pass_20 : decode cX8_pass 20 = .ok (.iload_n 1, 1) := by decide +kernel
theorem dX8_pass_21 : decode cX8_pass 21 = .ok (.iadd, 1) := by decide +kernel
theorem dX8_pass_22 : decode cX8_pass 22 = .ok (.ldc 153, 2) := by decide +kernel
theorem dX8_pass_24 : decode cX8_pass 24 = .ok (.if_icmp .le 6, 3) := by decide +kernel
theorem dX8_pass_27 : decode cX8_pass 27 = .ok (.bipush (-4), 2) := by decide +kernel
theorem dX8_pass_29 : decode cX8_pass 29 = .ok (.ireturn, 1) := by decide +kernel
theorem dX8_pass_30 : decode cX8_pass 30 = .ok (.aload_n 0, 1) := by decide +kernel
theorem dX8_pass_31 : decode cX8_pass 31 = .ok (.invokevirtual 81, 3) := by decide +kernel
theorem dX8_pass_34 : decode cX8_pass 34 = .ok (.aload_n 0, 1) := by decide +kernel
theorem dX8_pass_35 : decode cX8_pass 35 = .ok (.getfield 7, 3) := by decide +kernel
theorem dX8_pass_38 : decode cX8_pass 38 = .ok (.iconst 0, 1) := by decide +kernel
theorem dX8_pass_39 : decode cX8_pass 39 = .ok (.dup2, 1) := by decide +kernel
theorem dX8_pass_40 : decode cX8_pass 40 = .ok (.iaload, 1) := by decide +kernel
theorem dX8_pass_41 : decode cX8_pass 41 = .ok (.iload_n 1, 1) := by decide +kernel
theorem dX8_pass_42 : decode cX8_pass 42 = .ok (.iadd, 1) := by decide +kernel
theorem dX8_pass_43 : decode cX8_pass 43 = .ok (.iastore, 1) := by decide +kernel
theorem dX8_pass_44 : decode cX8_pass 44 = .ok (.aload_n 0, 1) := by decide +kernel
theorem dX8_pass_45 : decode cX8_pass 45 = .ok (.getfield 7, 3) := by decide +kernel
theorem dX8_pass_48 : decode cX8_pass 48 = .ok (.iconst 0, 1) := by decide +kernel
theorem dX8_pass_49 : decode cX8_pass 49 = .ok (.iaload, 1) := by decide +kernel
theorem dX8_pass_50 : decode cX8_pass 50 = .ok (.ireturn, 1) := by decide +kernel
theorem dX8_type_0 : decode cX8_type 0 = .ok (.aload_n 0, 1) := by decide +kernel
theorem dX8_type_1 : decode cX8_type 1 = .ok (.getfield 127, 3) := by decide +kernel
theorem dX8_type_4 : decode cX8_type 4 = .ok (.bipush 60, 2) := by decide +kernel
theorem dX8_type_6 : decode cX8_type 6 = .ok (.if_icmp .ne 6, 3) := by decide +kernel
theorem dX8_type_9 : decode cX8_type 9 = .ok (.bipush (-3), 2) := by decide +kernel
theorem dX8_type_11 : decode cX8_type 11 = .ok (.ireturn, 1) := by decide +kernel
theorem dX8_type_12 : decode cX8_type 12 = .ok (.aload_n 0, 1) := by decide +kernel
theorem dX8_type_13 : decode cX8_type 13 = .ok (.getfield 22, 3) := by decide +kernel
theorem dX8_type_16 : decode cX8_type 16 = .ok (.aload_n 0, 1) := by decide +kernel
theorem dX8_type_17 : decode cX8_type 17 = .ok (.getfield 127, 3) := by decide +kernel
theorem dX8_type_20 : decode cX8_type 20 = .ok (.iload_n 1, 1) := by decide +kernel
theorem dX8_type_21 : decode cX8_type 21 = .ok (.iastore, 1) := by decide +kernel
theorem dX8_type_22 : decode cX8_type 22 = .ok (.aload_n 0, 1) := by decide +kernel
theorem dX8_type_23 : decode cX8_type 23 = .ok (.dup, 1) := by decide +kernel
theorem dX8_type_24 : decode cX8_type 24 = .ok (.getfield 127, 3) := by decide +kernel
theorem dX8_type_27 : decode cX8_type 27 = .ok (.iconst 1, 1) := by decide +kernel
theorem dX8_type_28 : decode cX8_type 28 = .ok (.iadd, 1) := by decide +kernel
theorem dX8_type_29 : decode cX8_type 29 = .ok (.putfield 127, 3) := by decide +kernel
theorem dX8_type_32 : decode cX8_type 32 = .ok (.aload_n 0, 1) := by decide +kernel
theorem dX8_type_33 : decode cX8_type 33 = .ok (.getfield 127, 3) := by decide +kernel
theorem dX8_type_36 : decode cX8_type 36 = .ok (.ireturn, 1) := by decide +kernel
theorem dX8_clearText_0 : decode cX8_clearText 0 = .ok (.aload_n 0, 1) := by decide +kernel
theorem dX8_clearText_1 : decode cX8_clearText 1 = .ok (.getfield 127, 3) := by decide +kernel
theorem dX8_clearText_4 : decode cX8_clearText 4 = .ok (.istore_n 1, 1) := by decide +kernel
theorem dX8_clearText_5 : decode cX8_clearText 5 = .ok (.aload_n 0, 1) := by decide +kernel
theorem dX8_clearText_6 : decode cX8_clearText 6 = .ok (.iconst 0, 1) := by decide +kernel
theorem dX8_clearText_7 : decode cX8_clearText 7 = .ok (.putfield 127, 3) := by decide +kernel
theorem dX8_clearText_10 : decode cX8_clearText 10 = .ok (.iload_n 1, 1) := by decide +kernel
theorem dX8_clearText_11 : decode cX8_clearText 11 = .ok (.ireturn, 1) := by decide +kernel
theorem dX8_undo_0 : decode cX8_undo 0 = .ok (.aload_n 0, 1) := by decide +kernel
theorem dX8_undo_1 : decode cX8_undo 1 = .ok (.getfield 42, 3) := by decide +kernel
theorem dX8_undo_4 : decode cX8_undo 4 = .ok (.ifCond .ne 6, 3) := by decide +kernel
theorem dX8_undo_7 : decode cX8_undo 7 = .ok (.bipush (-5), 2) := by decide +kernel
theorem dX8_undo_9 : decode cX8_undo 9 = .ok (.ireturn, 1) := by decide +kernel
theorem dX8_undo_10 : decode cX8_undo 10 = .ok (.aload_n 0, 1) := by decide +kernel
theorem dX8_undo_11 : decode cX8_undo 11 = .ok (.dup, 1) := by decide +kernel
theorem dX8_undo_12 : decode cX8_undo 12 = .ok (.getfield 42, 3) := by decide +kernel
theorem dX8_undo_15 : decode cX8_undo 15 = .ok (.iconst 1, 1) := by decide +kernel
theorem dX8_undo_16 : decode cX8_undo 16 = .ok (.isub, 1) := by decide +kernel
theorem dX8_undo_17 : decode cX8_undo 17 = .ok (.putfield 42, 3) := by decide +kernel
theorem dX8_undo_20 : decode cX8_undo 20 = .ok (.iconst 0, 1) := by decide +kernel
theorem dX8_undo_21 : decode cX8_undo 21 = .ok (.istore_n 1, 1) := by decide +kernel
theorem dX8_undo_22 : decode cX8_undo 22 = .ok (.iload_n 1, 1) := by decide +kernel
theorem dX8_undo_23 : decode cX8_undo 23 = .ok (.sipush 204, 3) := by decide +kernel
theorem dX8_undo_26 : decode cX8_undo 26 = .ok (.if_icmp .ge 30, 3) := by decide +kernel
theorem dX8_undo_29 : decode cX8_undo 29 = .ok (.aload_n 0, 1) := by decide +kernel
theorem dX8_undo_30 : decode cX8_undo 30 = .ok (.getfield 7, 3) := by decide +kernel
theorem dX8_undo_33 : decode cX8_undo 33 = .ok (.iload_n 1, 1) := by decide +kernel
theorem dX8_undo_34 : decode cX8_undo 34 = .ok (.aload_n 0, 1) := by decide +kernel
theorem dX8_undo_35 : decode cX8_undo 35 = .ok (.getfield 16, 3) := by decide +kernel
theorem dX8_undo_38 : decode cX8_undo 38 = .ok (.sipush 204, 3) := by decide +kernel
theorem dX8_undo_41 : decode cX8_undo 41 = .ok (.aload_n 0, 1) := by decide +kernel
theorem dX8_undo_42 : decode cX8_undo 42 = .ok (.getfield 42, 3) := by decide +kernel
theorem dX8_undo_45 : decode cX8_undo 45 = .ok (.imul, 1) := by decide +kernel
theorem dX8_undo_46 : decode cX8_undo 46 = .ok (.iload_n 1, 1) := by decide +kernel
theorem dX8_undo_47 : decode cX8_undo 47 = .ok (.iadd, 1) := by decide +kernel
theorem dX8_undo_48 : decode cX8_undo 48 = .ok (.iaload, 1) := by decide +kernel
theorem dX8_undo_49 : decode cX8_undo 49 = .ok (.iastore, 1) := by decide +kernel
theorem dX8_undo_50 : decode cX8_undo 50 = .ok (.iinc 1 1, 3) := by decide +kernel
theorem dX8_undo_53 : decode cX8_undo 53 = .ok (.goto (-31), 3) := by decide +kernel
theorem dX8_undo_56 : decode cX8_undo 56 = .ok (.aload_n 0, 1) := by decide +kernel
theorem dX8_undo_57 : decode cX8_undo 57 = .ok (.getfield 42, 3) := by decide +kernel
theorem dX8_undo_60 : decode cX8_undo 60 = .ok (.ireturn, 1) := by decide +kernel
theorem dX8_keep_0 : decode cX8_keep 0 = .ok (.iconst 0, 1) := by decide +kernel
theorem dX8_keep_1 : decode cX8_keep 1 = .ok (.istore_n 1, 1) := by decide +kernel
theorem dX8_keep_2 : decode cX8_keep 2 = .ok (.iload_n 1, 1) := by decide +kernel
theorem dX8_keep_3 : decode cX8_keep 3 = .ok (.sipush 204, 3) := by decide +kernel
theorem dX8_keep_6 : decode cX8_keep 6 = .ok (.if_icmp .ge 21, 3) := by decide +kernel
theorem dX8_keep_9 : decode cX8_keep 9 = .ok (.aload_n 0, 1) := by decide +kernel
theorem dX8_keep_10 : decode cX8_keep 10 = .ok (.getfield 19, 3) := by decide +kernel
theorem dX8_keep_13 : decode cX8_keep 13 = .ok (.iload_n 1, 1) := by decide +kernel
theorem dX8_keep_14 : decode cX8_keep 14 = .ok (.aload_n 0, 1) := by decide +kernel
theorem dX8_keep_15 : decode cX8_keep 15 = .ok (.getfield 7, 3) := by decide +kernel
theorem dX8_keep_18 : decode cX8_keep 18 = .ok (.iload_n 1, 1) := by decide +kernel
theorem dX8_keep_19 : decode cX8_keep 19 = .ok (.iaload, 1) := by decide +kernel
theorem dX8_keep_20 : decode cX8_keep 20 = .ok (.iastore, 1) := by decide +kernel
theorem dX8_keep_21 : decode cX8_keep 21 = .ok (.iinc 1 1, 3) := by decide +kernel
theorem dX8_keep_24 : decode cX8_keep 24 = .ok (.goto (-22), 3) := by decide +kernel
theorem dX8_keep_27 : decode cX8_keep 27 = .ok (.aload_n 0, 1) := by decide +kernel
theorem dX8_keep_28 : decode cX8_keep 28 = .ok (.iconst 1, 1) := by decide +kernel
theorem dX8_keep_29 : decode cX8_keep 29 = .ok (.putfield 154, 3) := by decide +kernel
theorem dX8_keep_32 : decode cX8_keep 32 = .ok (.aload_n 0, 1) := by decide +kernel
theorem dX8_keep_33 : decode cX8_keep 33 = .ok (.getfield 7, 3) := by decide +kernel
theorem dX8_keep_36 : decode cX8_keep 36 = .ok (.iconst 0, 1) := by decide +kernel
theorem dX8_keep_37 : decode cX8_keep 37 = .ok (.iaload, 1) := by decide +kernel
theorem dX8_keep_38 : decode cX8_keep 38 = .ok (.ireturn, 1) := by decide +kernel
theorem dX8_restore_0 : decode cX8_restore 0 = .ok (.aload_n 0, 1) := by decide +kernel
theorem dX8_restore_1 : decode cX8_restore 1 = .ok (.getfield 154, 3) := by decide +kernel
theorem dX8_restore_4 : decode cX8_restore 4 = .ok (.ifCond .ne 6, 3) := by decide +kernel
theorem dX8_restore_7 : decode cX8_restore 7 = .ok (.bipush (-5), 2) := by decide +kernel
theorem dX8_restore_9 : decode cX8_restore 9 = .ok (.ireturn, 1) := by decide +kernel
theorem dX8_restore_10 : decode cX8_restore 10 = .ok (.aload_n 0, 1) := by decide +kernel
theorem dX8_restore_11 : decode cX8_restore 11 = .ok (.invokevirtual 81, 3) := by decide +kernel
theorem dX8_restore_14 : decode cX8_restore 14 = .ok (.iconst 0, 1) := by decide +kernel
theorem dX8_restore_15 : decode cX8_restore 15 = .ok (.istore_n 1, 1) := by decide +kernel
theorem dX8_restore_16 : decode cX8_restore 16 = .ok (.iload_n 1, 1) := by decide +kernel
theorem dX8_restore_17 : decode cX8_restore 17 = .ok (.sipush 204, 3) := by decide +kernel
theorem dX8_restore_20 : decode cX8_restore 20 = .ok (.if_icmp .ge 21, 3) := by decide +kernel
theorem dX8_restore_23 : decode cX8_restore 23 = .ok (.aload_n 0, 1) := by decide +kernel
theorem dX8_restore_24 : decode cX8_restore 24 = .ok (.getfield 7, 3) := by decide +kernel
theorem dX8_restore_27 : decode cX8_restore 27 = .ok (.iload_n 1, 1) := by decide +kernel
theorem dX8_restore_28 : decode cX8_restore 28 = .ok (.aload_n 0, 1) := by decide +kernel
theorem dX8_restore_29 : decode cX8_restore 29 = .ok (.getfield 19, 3) := by decide +kernel
theorem dX8_restore_32 : decode cX8_restore 32 = .ok (.iload_n 1, 1) := by decide +kernel
theorem dX8_restore_33 : decode cX8_restore 33 = .ok (.iaload, 1) := by decide +kernel
theorem dX8_restore_34 : decode cX8_restore 34 = .ok (.iastore, 1) := by decide +kernel
theorem dX8_restore_35 : decode cX8_restore 35 = .ok (.iinc 1 1, 3) := by decide +kernel
theorem dX8_restore_38 : decode cX8_restore 38 = .ok (.goto (-22), 3) := by decide +kernel
theorem dX8_restore_41 : decode cX8_restore 41 = .ok (.aload_n 0, 1) := by decide +kernel
theorem dX8_restore_42 : decode cX8_restore 42 = .ok (.getfield 7, 3) := by decide +kernel
theorem dX8_restore_45 : decode cX8_restore 45 = .ok (.iconst 0, 1) := by decide +kernel
theorem dX8_restore_46 : decode cX8_restore 46 = .ok (.iaload, 1) := by decide +kernel
theorem dX8_restore_47 : decode cX8_restore 47 = .ok (.ireturn, 1) := by decide +kernel
theorem dX8_rate_0 : decode cX8_rate 0 = .ok (.iload_n 1, 1) := by decide +kernel
theorem dX8_rate_1 : decode cX8_rate 1 = .ok (.iconst 0, 1) := by decide +kernel
theorem dX8_rate_2 : decode cX8_rate 2 = .ok (.iconst 2, 1) := by decide +kernel
theorem dX8_rate_3 : decode cX8_rate 3 = .ok (.invokestatic 38, 3) := by decide +kernel
theorem dX8_rate_6 : decode cX8_rate 6 = .ok (.ifCond .eq 11, 3) := by decide +kernel
theorem dX8_rate_9 : decode cX8_rate 9 = .ok (.aload_n 0, 1) := by decide +kernel
theorem dX8_rate_10 : decode cX8_rate 10 = .ok (.iload_n 1, 1) := by decide +kernel
theorem dX8_rate_11 : decode cX8_rate 11 = .ok (.invokevirtual 62, 3) := by decide +kernel
theorem dX8_rate_14 : decode cX8_rate 14 = .ok (.goto 6, 3) := by decide +kernel
theorem dX8_rate_17 : decode cX8_rate 17 = .ok (.invokestatic 157, 3) := by decide +kernel
theorem dX8_rate_20 : decode cX8_rate 20 = .ok (.freturn, 1) := by decide +kernel
theorem dX8_number__0 : decode cX8_number_ 0 = .ok (.iload_n 1, 1) := by decide +kernel
theorem dX8_number__1 : decode cX8_number_ 1 = .ok (.iconst 0, 1) := by decide +kernel
theorem dX8_number__2 : decode cX8_number_ 2 = .ok (.iconst 2, 1) := by decide +kernel
theorem dX8_number__3 : decode cX8_number_ 3 = .ok (.invokestatic 38, 3) := by decide +kernel
theorem dX8_number__6 : decode cX8_number_ 6 = .ok (.ifCond .eq 14, 3) := by decide +kernel
theorem dX8_number__9 : decode cX8_number_ 9 = .ok (.aload_n 0, 1) := by decide +kernel
theorem dX8_number__10 : decode cX8_number_ 10 = .ok (.getfield 7, 3) := by decide +kernel
theorem dX8_number__13 : decode cX8_number_ 13 = .ok (.iconst 5, 1) := by decide +kernel
theorem dX8_number__14 : decode cX8_number_ 14 = .ok (.iload_n 1, 1) := by decide +kernel
theorem dX8_number__15 : decode cX8_number_ 15 = .ok (.iadd, 1) := by decide +kernel
theorem dX8_number__16 : decode cX8_number_ 16 = .ok (.iaload, 1) := by decide +kernel
theorem dX8_number__17 : decode cX8_number_ 17 = .ok (.goto 4, 3) := by decide +kernel
theorem dX8_number__20 : decode cX8_number_ 20 = .ok (.iconst (-1), 1) := by decide +kernel
theorem dX8_number__21 : decode cX8_number_ 21 = .ok (.ireturn, 1) := by decide +kernel
theorem dX8_invoices_0 : decode cX8_invoices 0 = .ok (.iconst 0, 1) := by decide +kernel
theorem dX8_invoices_1 : decode cX8_invoices 1 = .ok (.istore 5, 2) := by decide +kernel
theorem dX8_invoices_3 : decode cX8_invoices 3 = .ok (.iconst 0, 1) := by decide +kernel
theorem dX8_invoices_4 : decode cX8_invoices 4 = .ok (.istore 6, 2) := by decide +kernel
theorem dX8_invoices_6 : decode cX8_invoices 6 = .ok (.iload 6, 2) := by decide +kernel
theorem dX8_invoices_8 : decode cX8_invoices 8 = .ok (.aload_n 0, 1) := by decide +kernel
theorem dX8_invoices_9 : decode cX8_invoices 9 = .ok (.getfield 7, 3) := by decide +kernel
theorem dX8_invoices_12 : decode cX8_invoices 12 = .ok (.bipush 9, 2) := by decide +kernel
theorem dX8_invoices_14 : decode cX8_invoices 14 = .ok (.iaload, 1) := by decide +kernel
theorem dX8_invoices_15 : decode cX8_invoices 15 = .ok (.if_icmp .ge 58, 3) := by decide +kernel
theorem dX8_invoices_18 : decode cX8_invoices 18 = .ok (.iload 5, 2) := by decide +kernel
theorem dX8_invoices_20 : decode cX8_invoices 20 = .ok (.iload_n 1, 1) := by decide +kernel
theorem dX8_invoices_21 : decode cX8_invoices 21 = .ok (.ifCond .lt 18, 3) := by decide +kernel
theorem dX8_invoices_24 : decode cX8_invoices 24 = .ok (.aload_n 0, 1) := by decide +kernel
theorem dX8_invoices_25 : decode cX8_invoices 25 = .ok (.getfield 7, 3) := by decide +kernel
theorem dX8_invoices_28 : decode cX8_invoices 28 = .ok (.iload 6, 2) := by decide +kernel
theorem dX8_invoices_30 : decode cX8_invoices 30 = .ok (.iload_n 1, 1) := by decide +kernel
theorem dX8_invoices_31 : decode cX8_invoices 31 = .ok (.invokestatic 59, 3) := by decide +kernel
theorem dX8_invoices_34 : decode cX8_invoices 34 = .ok (.iaload, 1) := by decide +kernel
theorem dX8_invoices_35 : decode cX8_invoices 35 = .ok (.iload_n 2, 1) := by decide +kernel
theorem dX8_invoices_36 : decode cX8_invoices 36 = .ok (.if_icmp .ne 27, 3) := by decide +kernel
theorem dX8_invoices_39 : decode cX8_invoices 39 = .ok (.aload_n 0, 1) := by decide +kernel
theorem dX8_invoices_40 : decode cX8_invoices 40 = .ok (.getfield 7, 3) := by decide +kernel
theorem dX8_invoices_43 : decode cX8_invoices 43 = .ok (.iload 6, 2) := by decide +kernel
theorem dX8_invoices_45 : decode cX8_invoices 45 = .ok (.iconst 4, 1) := by decide +kernel
theorem dX8_invoices_46 : decode cX8_invoices 46 = .ok (.invokestatic 59, 3) := by decide +kernel
theorem dX8_invoices_49 : decode cX8_invoices 49 = .ok (.iaload, 1) := by decide +kernel
theorem dX8_invoices_50 : decode cX8_invoices 50 = .ok (.iload_n 3, 1) := by decide +kernel
theorem dX8_invoices_51 : decode cX8_invoices 51 = .ok (.iload 4, 2) := by decide +kernel
theorem dX8_invoices_53 : decode cX8_invoices 53 = .ok (.invokestatic 38, 3) := by decide +kernel
theorem dX8_invoices_56 : decode cX8_invoices 56 = .ok (.ifCond .eq 7, 3) := by decide +kernel
theorem dX8_invoices_59 : decode cX8_invoices 59 = .ok (.iconst 1, 1) := by decide +kernel
theorem dX8_invoices_60 : decode cX8_invoices 60 = .ok (.goto 4, 3) := by decide +kernel
theorem dX8_invoices_63 : decode cX8_invoices 63 = .ok (.iconst 0, 1) := by decide +kernel
theorem dX8_invoices_64 : decode cX8_invoices 64 = .ok (.iadd, 1) := by decide +kernel
theorem dX8_invoices_65 : decode cX8_invoices 65 = .ok (.istore 5, 2) := by decide +kernel
theorem dX8_invoices_67 : decode cX8_invoices 67 = .ok (.iinc 6 1, 3) := by decide +kernel
theorem dX8_invoices_70 : decode cX8_invoices 70 = .ok (.goto (-64), 3) := by decide +kernel
theorem dX8_invoices_73 : decode cX8_invoices 73 = .ok (.iload 5, 2) := by decide +kernel
theorem dX8_invoices_75 : decode cX8_invoices 75 = .ok (.ireturn, 1) := by decide +kernel
theorem dX8_member_0 : decode cX8_member 0 = .ok (.aload_n 0, 1) := by decide +kernel
theorem dX8_member_1 : decode cX8_member 1 = .ok (.iload_n 1, 1) := by decide +kernel
theorem dX8_member_2 : decode cX8_member 2 = .ok (.invokevirtual 87, 3) := by decide +kernel
theorem dX8_member_5 : decode cX8_member 5 = .ok (.ifCond .ne 5, 3) := by decide +kernel
theorem dX8_member_8 : decode cX8_member 8 = .ok (.iconst (-1), 1) := by decide +kernel
theorem dX8_member_9 : decode cX8_member 9 = .ok (.ireturn, 1) := by decide +kernel
theorem dX8_member_10 : decode cX8_member 10 = .ok (.iload_n 2, 1) := by decide +kernel
theorem dX8_member_11 : decode cX8_member 11 = .ok (.tableswitch 94 0 5 #[37, 37, 48, 62, 71, 80], 37) := by decide +kernel
theorem dX8_member_48 : decode cX8_member 48 = .ok (.aload_n 0, 1) := by decide +kernel
theorem dX8_member_49 : decode cX8_member 49 = .ok (.getfield 7, 3) := by decide +kernel
theorem dX8_member_52 : decode cX8_member 52 = .ok (.iload_n 1, 1) := by decide +kernel
theorem dX8_member_53 : decode cX8_member 53 = .ok (.iload_n 2, 1) := by decide +kernel
theorem dX8_member_54 : decode cX8_member 54 = .ok (.invokestatic 84, 3) := by decide +kernel
theorem dX8_member_57 : decode cX8_member 57 = .ok (.iaload, 1) := by decide +kernel
theorem dX8_member_58 : decode cX8_member 58 = .ok (.ireturn, 1) := by decide +kernel
theorem dX8_member_59 : decode cX8_member 59 = .ok (.aload_n 0, 1) := by decide +kernel
theorem dX8_member_60 : decode cX8_member 60 = .ok (.getfield 7, 3) := by decide +kernel
theorem dX8_member_63 : decode cX8_member 63 = .ok (.iload_n 1, 1) := by decide +kernel
theorem dX8_member_64 : decode cX8_member 64 = .ok (.iconst 2, 1) := by decide +kernel
theorem dX8_member_65 : decode cX8_member 65 = .ok (.invokestatic 84, 3) := by decide +kernel
theorem dX8_member_68 : decode cX8_member 68 = .ok (.iaload, 1) := by decide +kernel
theorem dX8_member_69 : decode cX8_member 69 = .ok (.ldc 161, 2) := by decide +kernel
theorem dX8_member_71 : decode cX8_member 71 = .ok (.iadd, 1) := by decide +kernel
theorem dX8_member_72 : decode cX8_member 72 = .ok (.ireturn, 1) := by decide +kernel
theorem dX8_member_73 : decode cX8_member 73 = .ok (.aload_n 0, 1) := by decide +kernel
theorem dX8_member_74 : decode cX8_member 74 = .ok (.iconst 0, 1) := by decide +kernel
theorem dX8_member_75 : decode cX8_member 75 = .ok (.iload_n 1, 1) := by decide +kernel
theorem dX8_member_76 : decode cX8_member 76 = .ok (.iconst 0, 1) := by decide +kernel
theorem dX8_member_77 : decode cX8_member 77 = .ok (.iconst 3, 1) := by decide +kernel
theorem dX8_member_78 : decode cX8_member 78 = .ok (.invokevirtual 162, 3) := by decide +kernel
theorem dX8_member_81 : decode cX8_member 81 = .ok (.ireturn, 1) := by decide +kernel
theorem dX8_member_82 : decode cX8_member 82 = .ok (.aload_n 0, 1) := by decide +kernel
theorem dX8_member_83 : decode cX8_member 83 = .ok (.iconst 0, 1) := by decide +kernel
theorem dX8_member_84 : decode cX8_member 84 = .ok (.iload_n 1, 1) := by decide +kernel
theorem dX8_member_85 : decode cX8_member 85 = .ok (.iconst 1, 1) := by decide +kernel
theorem dX8_member_86 : decode cX8_member 86 = .ok (.iconst 1, 1) := by decide +kernel
theorem dX8_member_87 : decode cX8_member 87 = .ok (.invokevirtual 162, 3) := by decide +kernel
theorem dX8_member_90 : decode cX8_member 90 = .ok (.ireturn, 1) := by decide +kernel
theorem dX8_member_91 : decode cX8_member 91 = .ok (.aload_n 0, 1) := by decide +kernel
theorem dX8_member_92 : decode cX8_member 92 = .ok (.getfield 7, 3) := by decide +kernel
theorem dX8_member_95 : decode cX8_member 95 = .ok (.iload_n 1, 1) := by decide +kernel
theorem dX8_member_96 : decode cX8_member 96 = .ok (.iconst 3, 1) := by decide +kernel
theorem dX8_member_97 : decode cX8_member 97 = .ok (.invokestatic 84, 3) := by decide +kernel
theorem dX8_member_100 : decode cX8_member 100 = .ok (.iaload, 1) := by decide +kernel
theorem dX8_member_101 : decode cX8_member 101 = .ok (.ldc 161, 2) := by decide +kernel
theorem dX8_member_103 : decode cX8_member 103 = .ok (.iadd, 1) := by decide +kernel
theorem dX8_member_104 : decode cX8_member 104 = .ok (.ireturn, 1) := by decide +kernel
theorem dX8_member_105 : decode cX8_member 105 = .ok (.bipush (-2), 2) := by decide +kernel
theorem dX8_member_107 : decode cX8_member 107 = .ok (.ireturn, 1) := by decide +kernel
theorem dX8_client_0 : decode cX8_client 0 = .ok (.iload_n 1, 1) := by decide +kernel
theorem dX8_client_1 : decode cX8_client 1 = .ok (.invokestatic 93, 3) := by decide +kernel
theorem dX8_client_4 : decode cX8_client 4 = .ok (.ifCond .ne 5, 3) := by decide +kernel
theorem dX8_client_7 : decode cX8_client 7 = .ok (.iconst (-1), 1) := by decide +kernel
theorem dX8_client_8 : decode cX8_client 8 = .ok (.ireturn, 1) := by decide +kernel
theorem dX8_client_9 : decode cX8_client 9 = .ok (.iload_n 2, 1) := by decide +kernel
theorem dX8_client_10 : decode cX8_client 10 = .ok (.iconst 0, 1) := by decide +kernel
theorem dX8_client_11 : decode cX8_client 11 = .ok (.iconst 3, 1) := by decide +kernel
theorem dX8_client_12 : decode cX8_client 12 = .ok (.invokestatic 38, 3) := by decide +kernel
theorem dX8_client_15 : decode cX8_client 15 = .ok (.ifCond .ne 8, 3) := by decide +kernel
theorem dX8_client_18 : decode cX8_client 18 = .ok (.bipush (-2), 2) := by decide +kernel
theorem dX8_client_20 : decode cX8_client 20 = .ok (.goto 29, 3) := by decide +kernel
theorem dX8_client_23 : decode cX8_client 23 = .ok (.iload_n 2, 1) := by decide +kernel
theorem dX8_client_24 : decode cX8_client 24 = .ok (.iconst 3, 1) := by decide +kernel
theorem dX8_client_25 : decode cX8_client 25 = .ok (.if_icmp .ne 14, 3) := by decide +kernel
theorem dX8_client_28 : decode cX8_client 28 = .ok (.aload_n 0, 1) := by decide +kernel
theorem dX8_client_29 : decode cX8_client 29 = .ok (.iconst 1, 1) := by decide +kernel
theorem dX8_client_30 : decode cX8_client 30 = .ok (.iload_n 1, 1) := by decide +kernel
theorem dX8_client_31 : decode cX8_client 31 = .ok (.iconst 0, 1) := by decide +kernel
theorem dX8_client_32 : decode cX8_client 32 = .ok (.iconst 1, 1) := by decide +kernel
theorem dX8_client_33 : decode cX8_client 33 = .ok (.invokevirtual 162, 3) := by decide +kernel
theorem dX8_client_36 : decode cX8_client 36 = .ok (.goto 13, 3) := by decide +kernel
theorem dX8_client_39 : decode cX8_client 39 = .ok (.aload_n 0, 1) := by decide +kernel
theorem dX8_client_40 : decode cX8_client 40 = .ok (.getfield 7, 3) := by decide +kernel
theorem dX8_client_43 : decode cX8_client 43 = .ok (.iload_n 1, 1) := by decide +kernel
theorem dX8_client_44 : decode cX8_client 44 = .ok (.iload_n 2, 1) := by decide +kernel
theorem dX8_client_45 : decode cX8_client 45 = .ok (.invokestatic 55, 3) := by decide +kernel
theorem dX8_client_48 : decode cX8_client 48 = .ok (.iaload, 1) := by decide +kernel
theorem dX8_client_49 : decode cX8_client 49 = .ok (.ireturn, 1) := by decide +kernel
theorem dX8_risk_0 : decode cX8_risk 0 = .ok (.iload_n 1, 1) := by decide +kernel
theorem dX8_risk_1 : decode cX8_risk 1 = .ok (.invokestatic 93, 3) := by decide +kernel
theorem dX8_risk_4 : decode cX8_risk 4 = .ok (.ifCond .eq 11, 3) := by decide +kernel
theorem dX8_risk_7 : decode cX8_risk 7 = .ok (.aload_n 0, 1) := by decide +kernel
theorem dX8_risk_8 : decode cX8_risk 8 = .ok (.iload_n 1, 1) := by decide +kernel
theorem dX8_risk_9 : decode cX8_risk 9 = .ok (.invokevirtual 68, 3) := by decide +kernel
theorem dX8_risk_12 : decode cX8_risk 12 = .ok (.goto 6, 3) := by decide +kernel
theorem dX8_risk_15 : decode cX8_risk 15 = .ok (.invokestatic 157, 3) := by decide +kernel
theorem dX8_risk_18 : decode cX8_risk 18 = .ok (.freturn, 1) := by decide +kernel
theorem dX8_lateness_0 : decode cX8_lateness 0 = .ok (.iload_n 1, 1) := by decide +kernel
theorem dX8_lateness_1 : decode cX8_lateness 1 = .ok (.invokestatic 93, 3) := by decide +kernel
theorem dX8_lateness_4 : decode cX8_lateness 4 = .ok (.ifCond .ne 7, 3) := by decide +kernel
theorem dX8_lateness_7 : decode cX8_lateness 7 = .ok (.invokestatic 157, 3) := by decide +kernel
theorem dX8_lateness_10 : decode cX8_lateness 10 = .ok (.freturn, 1) := by decide +kernel
theorem dX8_lateness_11 : decode cX8_lateness 11 = .ok (.aload_n 0, 1) := by decide +kernel
theorem dX8_lateness_12 : decode cX8_lateness 12 = .ok (.getfield 7, 3) := by decide +kernel
theorem dX8_lateness_15 : decode cX8_lateness 15 = .ok (.iload_n 1, 1) := by decide +kernel
theorem dX8_lateness_16 : decode cX8_lateness 16 = .ok (.iconst 0, 1) := by decide +kernel
theorem dX8_lateness_17 : decode cX8_lateness 17 = .ok (.invokestatic 55, 3) := by decide +kernel
theorem dX8_lateness_20 : decode cX8_lateness 20 = .ok (.iaload, 1) := by decide +kernel
theorem dX8_lateness_21 : decode cX8_lateness 21 = .ok (.istore_n 2, 1) := by decide +kernel
theorem dX8_lateness_22 : decode cX8_lateness 22 = .ok (.iload_n 2, 1) := by decide +kernel
theorem dX8_lateness_23 : decode cX8_lateness 23 = .ok (.ifCond .ne 7, 3) := by decide +kernel
theorem dX8_lateness_26 : decode cX8_lateness 26 = .ok (.fconst 0, 1) := by decide +kernel
theorem dX8_lateness_27 : decode cX8_lateness 27 = .ok (.goto 17, 3) := by decide +kernel
theorem dX8_lateness_30 : decode cX8_lateness 30 = .ok (.aload_n 0, 1) := by decide +kernel
theorem dX8_lateness_31 : decode cX8_lateness 31 = .ok (.getfield 7, 3) := by decide +kernel
theorem dX8_lateness_34 : decode cX8_lateness 34 = .ok (.iload_n 1, 1) := by decide +kernel
theorem dX8_lateness_35 : decode cX8_lateness 35 = .ok (.iconst 2, 1) := by decide +kernel
theorem dX8_lateness_36 : decode cX8_lateness 36 = .ok (.invokestatic 55, 3) := by decide +kernel
theorem dX8_lateness_39 : decode cX8_lateness 39 = .ok (.iaload, 1) := by decide +kernel
theorem dX8_lateness_40 : decode cX8_lateness 40 = .ok (.i2f, 1) := by decide +kernel
theorem dX8_lateness_41 : decode cX8_lateness 41 = .ok (.iload_n 2, 1) := by decide +kernel
theorem dX8_lateness_42 : decode cX8_lateness 42 = .ok (.i2f, 1) := by decide +kernel
theorem dX8_lateness_43 : decode cX8_lateness 43 = .ok (.fdiv, 1) := by decide +kernel
theorem dX8_lateness_44 : decode cX8_lateness 44 = .ok (.freturn, 1) := by decide +kernel
theorem dX8_invoice_0 : decode cX8_invoice 0 = .ok (.aload_n 0, 1) := by decide +kernel
theorem dX8_invoice_1 : decode cX8_invoice 1 = .ok (.iload_n 1, 1) := by decide +kernel
theorem dX8_invoice_2 : decode cX8_invoice 2 = .ok (.invokevirtual 105, 3) := by decide +kernel
theorem dX8_invoice_5 : decode cX8_invoice 5 = .ok (.ifCond .ne 5, 3) := by decide +kernel
theorem dX8_invoice_8 : decode cX8_invoice 8 = .ok (.iconst (-1), 1) := by decide +kernel
theorem dX8_invoice_9 : decode cX8_invoice 9 = .ok (.ireturn, 1) := by decide +kernel
theorem dX8_invoice_10 : decode cX8_invoice 10 = .ok (.iload_n 2, 1) := by decide +kernel
theorem dX8_invoice_11 : decode cX8_invoice 11 = .ok (.tableswitch 85 7 10 #[29, 50, 57, 71], 29) := by decide +kernel
theorem dX8_invoice_40 : decode cX8_invoice 40 = .ok (.aload_n 0, 1) := by decide +kernel
theorem dX8_invoice_41 : decode cX8_invoice 41 = .ok (.getfield 7, 3) := by decide +kernel
theorem dX8_invoice_44 : decode cX8_invoice 44 = .ok (.iconst 0, 1) := by decide +kernel
theorem dX8_invoice_45 : decode cX8_invoice 45 = .ok (.iaload, 1) := by decide +kernel
theorem dX8_invoice_46 : decode cX8_invoice 46 = .ok (.aload_n 0, 1) := by decide +kernel
theorem dX8_invoice_47 : decode cX8_invoice 47 = .ok (.getfield 7, 3) := by decide +kernel
theorem dX8_invoice_50 : decode cX8_invoice 50 = .ok (.iload_n 1, 1) := by decide +kernel
theorem dX8_invoice_51 : decode cX8_invoice 51 = .ok (.iconst 3, 1) := by decide +kernel
theorem dX8_invoice_52 : decode cX8_invoice 52 = .ok (.invokestatic 59, 3) := by decide +kernel
theorem dX8_invoice_55 : decode cX8_invoice 55 = .ok (.iaload, 1) := by decide +kernel
theorem dX8_invoice_56 : decode cX8_invoice 56 = .ok (.isub, 1) := by decide +kernel
theorem dX8_invoice_57 : decode cX8_invoice 57 = .ok (.ldc 166, 2) := by decide +kernel
theorem dX8_invoice_59 : decode cX8_invoice 59 = .ok (.iadd, 1) := by decide +kernel
theorem dX8_invoice_60 : decode cX8_invoice 60 = .ok (.ireturn, 1) := by decide +kernel
theorem dX8_invoice_61 : decode cX8_invoice 61 = .ok (.aload_n 0, 1) := by decide +kernel
theorem dX8_invoice_62 : decode cX8_invoice 62 = .ok (.iload_n 1, 1) := by decide +kernel
theorem dX8_invoice_63 : decode cX8_invoice 63 = .ok (.iconst 0, 1) := by decide +kernel
theorem dX8_invoice_64 : decode cX8_invoice 64 = .ok (.invokevirtual 75, 3) := by decide +kernel
theorem dX8_invoice_67 : decode cX8_invoice 67 = .ok (.ireturn, 1) := by decide +kernel
theorem dX8_invoice_68 : decode cX8_invoice 68 = .ok (.aload_n 0, 1) := by decide +kernel
theorem dX8_invoice_69 : decode cX8_invoice 69 = .ok (.iload_n 1, 1) := by decide +kernel
theorem dX8_invoice_70 : decode cX8_invoice 70 = .ok (.invokevirtual 108, 3) := by decide +kernel
theorem dX8_invoice_73 : decode cX8_invoice 73 = .ok (.ifCond .eq 7, 3) := by decide +kernel
theorem dX8_invoice_76 : decode cX8_invoice 76 = .ok (.iconst 1, 1) := by decide +kernel
theorem dX8_invoice_77 : decode cX8_invoice 77 = .ok (.goto 4, 3) := by decide +kernel
theorem dX8_invoice_80 : decode cX8_invoice 80 = .ok (.iconst 0, 1) := by decide +kernel
theorem dX8_invoice_81 : decode cX8_invoice 81 = .ok (.ireturn, 1) := by decide +kernel
theorem dX8_invoice_82 : decode cX8_invoice 82 = .ok (.aload_n 0, 1) := by decide +kernel
theorem dX8_invoice_83 : decode cX8_invoice 83 = .ok (.iload_n 1, 1) := by decide +kernel
theorem dX8_invoice_84 : decode cX8_invoice 84 = .ok (.invokevirtual 117, 3) := by decide +kernel
theorem dX8_invoice_87 : decode cX8_invoice 87 = .ok (.ifCond .eq 7, 3) := by decide +kernel
theorem dX8_invoice_90 : decode cX8_invoice 90 = .ok (.iconst 1, 1) := by decide +kernel
theorem dX8_invoice_91 : decode cX8_invoice 91 = .ok (.goto 4, 3) := by decide +kernel
theorem dX8_invoice_94 : decode cX8_invoice 94 = .ok (.iconst 0, 1) := by decide +kernel
theorem dX8_invoice_95 : decode cX8_invoice 95 = .ok (.ireturn, 1) := by decide +kernel
theorem dX8_invoice_96 : decode cX8_invoice 96 = .ok (.iload_n 2, 1) := by decide +kernel
theorem dX8_invoice_97 : decode cX8_invoice 97 = .ok (.iconst 0, 1) := by decide +kernel
theorem dX8_invoice_98 : decode cX8_invoice 98 = .ok (.bipush 6, 2) := by decide +kernel
theorem dX8_invoice_100 : decode cX8_invoice 100 = .ok (.invokestatic 38, 3) := by decide +kernel
theorem dX8_invoice_103 : decode cX8_invoice 103 = .ok (.ifCond .eq 16, 3) := by decide +kernel
theorem dX8_invoice_106 : decode cX8_invoice 106 = .ok (.aload_n 0, 1) := by decide +kernel
theorem dX8_invoice_107 : decode cX8_invoice 107 = .ok (.getfield 7, 3) := by decide +kernel
theorem dX8_invoice_110 : decode cX8_invoice 110 = .ok (.iload_n 1, 1) := by decide +kernel
theorem dX8_invoice_111 : decode cX8_invoice 111 = .ok (.iload_n 2, 1) := by decide +kernel
theorem dX8_invoice_112 : decode cX8_invoice 112 = .ok (.invokestatic 59, 3) := by decide +kernel
theorem dX8_invoice_115 : decode cX8_invoice 115 = .ok (.iaload, 1) := by decide +kernel
theorem dX8_invoice_116 : decode cX8_invoice 116 = .ok (.goto 5, 3) := by decide +kernel
theorem dX8_invoice_119 : decode cX8_invoice 119 = .ok (.bipush (-2), 2) := by decide +kernel
theorem dX8_invoice_121 : decode cX8_invoice 121 = .ok (.ireturn, 1) := by decide +kernel
theorem dX8_rateIn_0 : decode cX8_rateIn 0 = .ok (.aload_n 0, 1) := by decide +kernel
theorem dX8_rateIn_1 : decode cX8_rateIn 1 = .ok (.iload_n 1, 1) := by decide +kernel
theorem dX8_rateIn_2 : decode cX8_rateIn 2 = .ok (.invokevirtual 105, 3) := by decide +kernel
theorem dX8_rateIn_5 : decode cX8_rateIn 5 = .ok (.ifCond .eq 23, 3) := by decide +kernel
theorem dX8_rateIn_8 : decode cX8_rateIn 8 = .ok (.iload_n 2, 1) := by decide +kernel
theorem dX8_rateIn_9 : decode cX8_rateIn 9 = .ok (.iconst 0, 1) := by decide +kernel
theorem dX8_rateIn_10 : decode cX8_rateIn 10 = .ok (.sipush 1000, 3) := by decide +kernel
theorem dX8_rateIn_13 : decode cX8_rateIn 13 = .ok (.invokestatic 38, 3) := by decide +kernel
theorem dX8_rateIn_16 : decode cX8_rateIn 16 = .ok (.ifCond .eq 12, 3) := by decide +kernel
theorem dX8_rateIn_19 : decode cX8_rateIn 19 = .ok (.aload_n 0, 1) := by decide +kernel
theorem dX8_rateIn_20 : decode cX8_rateIn 20 = .ok (.iload_n 1, 1) := by decide +kernel
theorem dX8_rateIn_21 : decode cX8_rateIn 21 = .ok (.iload_n 2, 1) := by decide +kernel
theorem dX8_rateIn_22 : decode cX8_rateIn 22 = .ok (.invokevirtual 71, 3) := by decide +kernel
theorem dX8_rateIn_25 : decode cX8_rateIn 25 = .ok (.goto 6, 3) := by decide +kernel
theorem dX8_rateIn_28 : decode cX8_rateIn 28 = .ok (.invokestatic 157, 3) := by decide +kernel
theorem dX8_rateIn_31 : decode cX8_rateIn 31 = .ok (.freturn, 1) := by decide +kernel
theorem dX8_worth_0 : decode cX8_worth 0 = .ok (.aload_n 0, 1) := by decide +kernel
theorem dX8_worth_1 : decode cX8_worth 1 = .ok (.iload_n 1, 1) := by decide +kernel
theorem dX8_worth_2 : decode cX8_worth 2 = .ok (.invokevirtual 105, 3) := by decide +kernel
theorem dX8_worth_5 : decode cX8_worth 5 = .ok (.ifCond .eq 11, 3) := by decide +kernel
theorem dX8_worth_8 : decode cX8_worth 8 = .ok (.aload_n 0, 1) := by decide +kernel
theorem dX8_worth_9 : decode cX8_worth 9 = .ok (.iload_n 1, 1) := by decide +kernel
theorem dX8_worth_10 : decode cX8_worth 10 = .ok (.invokevirtual 167, 3) := by decide +kernel
theorem dX8_worth_13 : decode cX8_worth 13 = .ok (.goto 6, 3) := by decide +kernel
theorem dX8_worth_16 : decode cX8_worth 16 = .ok (.invokestatic 157, 3) := by decide +kernel
theorem dX8_worth_19 : decode cX8_worth 19 = .ok (.freturn, 1) := by decide +kernel
theorem dX8_best_0 : decode cX8_best 0 = .ok (.iload_n 1, 1) := by decide +kernel
theorem dX8_best_1 : decode cX8_best 1 = .ok (.ifCond .ge 6, 3) := by decide +kernel
theorem dX8_best_4 : decode cX8_best 4 = .ok (.bipush (-2), 2) := by decide +kernel
theorem dX8_best_6 : decode cX8_best 6 = .ok (.ireturn, 1) := by decide +kernel
theorem dX8_best_7 : decode cX8_best 7 = .ok (.iconst 0, 1) := by decide +kernel
theorem dX8_best_8 : decode cX8_best 8 = .ok (.istore_n 2, 1) := by decide +kernel
theorem dX8_best_9 : decode cX8_best 9 = .ok (.iload_n 2, 1) := by decide +kernel
theorem dX8_best_10 : decode cX8_best 10 = .ok (.aload_n 0, 1) := by decide +kernel
theorem dX8_best_11 : decode cX8_best 11 = .ok (.getfield 7, 3) := by decide +kernel
theorem dX8_best_14 : decode cX8_best 14 = .ok (.bipush 9, 2) := by decide +kernel
theorem dX8_best_16 : decode cX8_best 16 = .ok (.iaload, 1) := by decide +kernel
theorem dX8_best_17 : decode cX8_best 17 = .ok (.if_icmp .ge 100, 3) := by decide +kernel
theorem dX8_best_20 : decode cX8_best 20 = .ok (.iconst 0, 1) := by decide +kernel
theorem dX8_best_21 : decode cX8_best 21 = .ok (.istore_n 3, 1) := by decide +kernel
theorem dX8_best_22 : decode cX8_best 22 = .ok (.iconst 0, 1) := by decide +kernel
theorem dX8_best_23 : decode cX8_best 23 = .ok (.istore 4, 2) := by decide +kernel
theorem dX8_best_25 : decode cX8_best 25 = .ok (.iload 4, 2) := by decide +kernel
theorem dX8_best_27 : decode cX8_best 27 = .ok (.aload_n 0, 1) := by decide +kernel
theorem dX8_best_28 : decode cX8_best 28 = .ok (.getfield 7, 3) := by decide +kernel
theorem dX8_best_31 : decode cX8_best 31 = .ok (.bipush 9, 2) := by decide +kernel
theorem dX8_best_33 : decode cX8_best 33 = .ok (.iaload, 1) := by decide +kernel
theorem dX8_best_34 : decode cX8_best 34 = .ok (.if_icmp .ge 62, 3) := by decide +kernel
theorem dX8_best_37 : decode cX8_best 37 = .ok (.iload_n 3, 1) := by decide +kernel
theorem dX8_best_38 : decode cX8_best 38 = .ok (.aload_n 0, 1) := by decide +kernel
theorem dX8_best_39 : decode cX8_best 39 = .ok (.iload 4, 2) := by decide +kernel
theorem dX8_best_41 : decode cX8_best 41 = .ok (.invokevirtual 108, 3) := by decide +kernel
theorem dX8_best_44 : decode cX8_best 44 = .ok (.ifCond .eq 43, 3) := by decide +kernel
theorem dX8_best_47 : decode cX8_best 47 = .ok (.aload_n 0, 1) := by decide +kernel
theorem dX8_best_48 : decode cX8_best 48 = .ok (.iload 4, 2) := by decide +kernel
theorem dX8_best_50 : decode cX8_best 50 = .ok (.invokevirtual 167, 3) := by decide +kernel
theorem dX8_best_53 : decode cX8_best 53 = .ok (.aload_n 0, 1) := by decide +kernel
theorem dX8_best_54 : decode cX8_best 54 = .ok (.iload_n 2, 1) := by decide +kernel
theorem dX8_best_55 : decode cX8_best 55 = .ok (.invokevirtual 167, 3) := by decide +kernel
theorem dX8_best_58 : decode cX8_best 58 = .ok (.fcmp .l, 1) := by decide +kernel
theorem dX8_best_59 : decode cX8_best 59 = .ok (.ifCond .gt 24, 3) := by decide +kernel
theorem dX8_best_62 : decode cX8_best 62 = .ok (.aload_n 0, 1) := by decide +kernel
theorem dX8_best_63 : decode cX8_best 63 = .ok (.iload 4, 2) := by decide +kernel
theorem dX8_best_65 : decode cX8_best 65 = .ok (.invokevirtual 167, 3) := by decide +kernel
theorem dX8_best_68 : decode cX8_best 68 = .ok (.aload_n 0, 1) := by decide +kernel
theorem dX8_best_69 : decode cX8_best 69 = .ok (.iload_n 2, 1) := by decide +kernel
theorem dX8_best_70 : decode cX8_best 70 = .ok (.invokevirtual 167, 3) := by decide +kernel
theorem dX8_best_73 : decode cX8_best 73 = .ok (.fcmp .l, 1) := by decide +kernel
theorem dX8_best_74 : decode cX8_best 74 = .ok (.ifCond .ne 13, 3) := by decide +kernel
theorem dX8_best_77 : decode cX8_best 77 = .ok (.iload 4, 2) := by decide +kernel
theorem dX8_best_79 : decode cX8_best 79 = .ok (.iload_n 2, 1) := by decide +kernel
theorem dX8_best_80 : decode cX8_best 80 = .ok (.if_icmp .ge 7, 3) := by decide +kernel
theorem dX8_best_83 : decode cX8_best 83 = .ok (.iconst 1, 1) := by decide +kernel
theorem dX8_best_84 : decode cX8_best 84 = .ok (.goto 4, 3) := by decide +kernel
theorem dX8_best_87 : decode cX8_best 87 = .ok (.iconst 0, 1) := by decide +kernel
theorem dX8_best_88 : decode cX8_best 88 = .ok (.iadd, 1) := by decide +kernel
theorem dX8_best_89 : decode cX8_best 89 = .ok (.istore_n 3, 1) := by decide +kernel
theorem dX8_best_90 : decode cX8_best 90 = .ok (.iinc 4 1, 3) := by decide +kernel
theorem dX8_best_93 : decode cX8_best 93 = .ok (.goto (-68), 3) := by decide +kernel
theorem dX8_best_96 : decode cX8_best 96 = .ok (.aload_n 0, 1) := by decide +kernel
theorem dX8_best_97 : decode cX8_best 97 = .ok (.iload_n 2, 1) := by decide +kernel
theorem dX8_best_98 : decode cX8_best 98 = .ok (.invokevirtual 108, 3) := by decide +kernel
theorem dX8_best_101 : decode cX8_best 101 = .ok (.ifCond .eq 10, 3) := by decide +kernel
theorem dX8_best_104 : decode cX8_best 104 = .ok (.iload_n 3, 1) := by decide +kernel
theorem dX8_best_105 : decode cX8_best 105 = .ok (.iload_n 1, 1) := by decide +kernel
theorem dX8_best_106 : decode cX8_best 106 = .ok (.if_icmp .ne 5, 3) := by decide +kernel
theorem dX8_best_109 : decode cX8_best 109 = .ok (.iload_n 2, 1) := by decide +kernel
theorem dX8_best_110 : decode cX8_best 110 = .ok (.ireturn, 1) := by decide +kernel
theorem dX8_best_111 : decode cX8_best 111 = .ok (.iinc 2 1, 3) := by decide +kernel
theorem dX8_best_114 : decode cX8_best 114 = .ok (.goto (-105), 3) := by decide +kernel
theorem dX8_best_117 : decode cX8_best 117 = .ok (.bipush (-5), 2) := by decide +kernel
theorem dX8_best_119 : decode cX8_best 119 = .ok (.ireturn, 1) := by decide +kernel
theorem dX8_worthlessIn_0 : decode cX8_worthlessIn 0 = .ok (.aload_n 0, 1) := by decide +kernel
theorem dX8_worthlessIn_1 : decode cX8_worthlessIn 1 = .ok (.iload_n 1, 1) := by decide +kernel
theorem dX8_worthlessIn_2 : decode cX8_worthlessIn 2 = .ok (.invokevirtual 105, 3) := by decide +kernel
theorem dX8_worthlessIn_5 : decode cX8_worthlessIn 5 = .ok (.ifCond .ne 5, 3) := by decide +kernel
theorem dX8_worthlessIn_8 : decode cX8_worthlessIn 8 = .ok (.iconst (-1), 1) := by decide +kernel
theorem dX8_worthlessIn_9 : decode cX8_worthlessIn 9 = .ok (.ireturn, 1) := by decide +kernel
theorem dX8_worthlessIn_10 : decode cX8_worthlessIn 10 = .ok (.iconst 0, 1) := by decide +kernel
theorem dX8_worthlessIn_11 : decode cX8_worthlessIn 11 = .ok (.istore_n 2, 1) := by decide +kernel
theorem dX8_worthlessIn_12 : decode cX8_worthlessIn 12 = .ok (.iload_n 2, 1) := by decide +kernel
theorem dX8_worthlessIn_13 : decode cX8_worthlessIn 13 = .ok (.sipush 1000, 3) := by decide +kernel
theorem dX8_worthlessIn_16 : decode cX8_worthlessIn 16 = .ok (.if_icmp .gt 20, 3) := by decide +kernel
theorem dX8_worthlessIn_19 : decode cX8_worthlessIn 19 = .ok (.aload_n 0, 1) := by decide +kernel
theorem dX8_worthlessIn_20 : decode cX8_worthlessIn 20 = .ok (.iload_n 1, 1) := by decide +kernel
theorem dX8_worthlessIn_21 : decode cX8_worthlessIn 21 = .ok (.iload_n 2, 1) := by decide +kernel
theorem dX8_worthlessIn_22 : decode cX8_worthlessIn 22 = .ok (.invokevirtual 75, 3) := by decide +kernel
theorem dX8_worthlessIn_25 : decode cX8_worthlessIn 25 = .ok (.ifCond .ne 5, 3) := by decide +kernel
theorem dX8_worthlessIn_28 : decode cX8_worthlessIn 28 = .ok (.iload_n 2, 1) := by decide +kernel
theorem dX8_worthlessIn_29 : decode cX8_worthlessIn 29 = .ok (.ireturn, 1) := by decide +kernel
theorem dX8_worthlessIn_30 : decode cX8_worthlessIn 30 = .ok (.iinc 2 1, 3) := by decide +kernel
theorem dX8_worthlessIn_33 : decode cX8_worthlessIn 33 = .ok (.goto (-21), 3) := by decide +kernel
theorem dX8_worthlessIn_36 : decode cX8_worthlessIn 36 = .ok (.bipush (-5), 2) := by decide +kernel
theorem dX8_worthlessIn_38 : decode cX8_worthlessIn 38 = .ok (.ireturn, 1) := by decide +kernel
theorem dX8_exposure_0 : decode cX8_exposure 0 = .ok (.iconst 0, 1) := by decide +kernel
theorem dX8_exposure_1 : decode cX8_exposure 1 = .ok (.istore_n 1, 1) := by decide +kernel
theorem dX8_exposure_2 : decode cX8_exposure 2 = .ok (.iconst 0, 1) := by decide +kernel
theorem dX8_exposure_3 : decode cX8_exposure 3 = .ok (.istore_n 2, 1) := by decide +kernel
theorem dX8_exposure_4 : decode cX8_exposure 4 = .ok (.iload_n 2, 1) := by decide +kernel
theorem dX8_exposure_5 : decode cX8_exposure 5 = .ok (.aload_n 0, 1) := by decide +kernel
theorem dX8_exposure_6 : decode cX8_exposure 6 = .ok (.getfield 7, 3) := by decide +kernel
theorem dX8_exposure_9 : decode cX8_exposure 9 = .ok (.bipush 9, 2) := by decide +kernel
theorem dX8_exposure_11 : decode cX8_exposure 11 = .ok (.iaload, 1) := by decide +kernel
theorem dX8_exposure_12 : decode cX8_exposure 12 = .ok (.if_icmp .ge 41, 3) := by decide +kernel
theorem dX8_exposure_15 : decode cX8_exposure 15 = .ok (.iload_n 1, 1) := by decide +kernel
theorem dX8_exposure_16 : decode cX8_exposure 16 = .ok (.aload_n 0, 1) := by decide +kernel
theorem dX8_exposure_17 : decode cX8_exposure 17 = .ok (.getfield 7, 3) := by decide +kernel
theorem dX8_exposure_20 : decode cX8_exposure 20 = .ok (.iload_n 2, 1) := by decide +kernel
theorem dX8_exposure_21 : decode cX8_exposure 21 = .ok (.iconst 4, 1) := by decide +kernel
theorem dX8_exposure_22 : decode cX8_exposure 22 = .ok (.invokestatic 59, 3) := by decide +kernel
theorem dX8_exposure_25 : decode cX8_exposure 25 = .ok (.iaload, 1) := by decide +kernel
theorem dX8_exposure_26 : decode cX8_exposure 26 = .ok (.iconst 1, 1) := by decide +kernel
theorem dX8_exposure_27 : decode cX8_exposure 27 = .ok (.if_icmp .ne 17, 3) := by decide +kernel
theorem dX8_exposure_30 : decode cX8_exposure 30 = .ok (.aload_n 0, 1) := by decide +kernel
theorem dX8_exposure_31 : decode cX8_exposure 31 = .ok (.getfield 7, 3) := by decide +kernel
theorem dX8_exposure_34 : decode cX8_exposure 34 = .ok (.iload_n 2, 1) := by decide +kernel
theorem dX8_exposure_35 : decode cX8_exposure 35 = .ok (.bipush 6, 2) := by decide +kernel
theorem dX8_exposure_37 : decode cX8_exposure 37 = .ok (.invokestatic 59, 3) := by decide +kernel
theorem dX8_exposure_40 : decode cX8_exposure 40 = .ok (.iaload, 1) := by decide +kernel
theorem dX8_exposure_41 : decode cX8_exposure 41 = .ok (.goto 4, 3) := by decide +kernel
theorem dX8_exposure_44 : decode cX8_exposure 44 = .ok (.iconst 0, 1) := by decide +kernel
theorem dX8_exposure_45 : decode cX8_exposure 45 = .ok (.iadd, 1) := by decide +kernel
theorem dX8_exposure_46 : decode cX8_exposure 46 = .ok (.istore_n 1, 1) := by decide +kernel
theorem dX8_exposure_47 : decode cX8_exposure 47 = .ok (.iinc 2 1, 3) := by decide +kernel
theorem dX8_exposure_50 : decode cX8_exposure 50 = .ok (.goto (-46), 3) := by decide +kernel
theorem dX8_exposure_53 : decode cX8_exposure 53 = .ok (.aload_n 0, 1) := by decide +kernel
theorem dX8_exposure_54 : decode cX8_exposure 54 = .ok (.invokevirtual 96, 3) := by decide +kernel
theorem dX8_exposure_57 : decode cX8_exposure 57 = .ok (.ifCond .ne 9, 3) := by decide +kernel
theorem dX8_exposure_60 : decode cX8_exposure 60 = .ok (.invokestatic 157, 3) := by decide +kernel
theorem dX8_exposure_63 : decode cX8_exposure 63 = .ok (.goto 11, 3) := by decide +kernel
theorem dX8_exposure_66 : decode cX8_exposure 66 = .ok (.iload_n 1, 1) := by decide +kernel
theorem dX8_exposure_67 : decode cX8_exposure 67 = .ok (.i2f, 1) := by decide +kernel
theorem dX8_exposure_68 : decode cX8_exposure 68 = .ok (.aload_n 0, 1) := by decide +kernel
theorem dX8_exposure_69 : decode cX8_exposure 69 = .ok (.invokevirtual 96, 3) := by decide +kernel
theorem dX8_exposure_72 : decode cX8_exposure 72 = .ok (.i2f, 1) := by decide +kernel
theorem dX8_exposure_73 : decode cX8_exposure 73 = .ok (.fdiv, 1) := by decide +kernel
theorem dX8_exposure_74 : decode cX8_exposure 74 = .ok (.freturn, 1) := by decide +kernel
theorem dX8_count_0 : decode cX8_count 0 = .ok (.iload_n 1, 1) := by decide +kernel
theorem dX8_count_1 : decode cX8_count 1 = .ok (.tableswitch 160 0 15 #[79, 86, 96, 101, 106, 114, 122, 122, 122, 122, 137, 137, 137, 137, 150, 155], 79) := by decide +kernel
theorem dX8_count_80 : decode cX8_count 80 = .ok (.aload_n 0, 1) := by decide +kernel
theorem dX8_count_81 : decode cX8_count 81 = .ok (.getfield 7, 3) := by decide +kernel
theorem dX8_count_84 : decode cX8_count 84 = .ok (.iconst 0, 1) := by decide +kernel
theorem dX8_count_85 : decode cX8_count 85 = .ok (.iaload, 1) := by decide +kernel
theorem dX8_count_86 : decode cX8_count 86 = .ok (.ireturn, 1) := by decide +kernel
theorem dX8_count_87 : decode cX8_count 87 = .ok (.aload_n 0, 1) := by decide +kernel
theorem dX8_count_88 : decode cX8_count 88 = .ok (.getfield 7, 3) := by decide +kernel
theorem dX8_count_91 : decode cX8_count 91 = .ok (.iconst 1, 1) := by decide +kernel
theorem dX8_count_92 : decode cX8_count 92 = .ok (.iaload, 1) := by decide +kernel
theorem dX8_count_93 : decode cX8_count 93 = .ok (.ldc 161, 2) := by decide +kernel
theorem dX8_count_95 : decode cX8_count 95 = .ok (.iadd, 1) := by decide +kernel
theorem dX8_count_96 : decode cX8_count 96 = .ok (.ireturn, 1) := by decide +kernel
theorem dX8_count_97 : decode cX8_count 97 = .ok (.aload_n 0, 1) := by decide +kernel
theorem dX8_count_98 : decode cX8_count 98 = .ok (.invokevirtual 96, 3) := by decide +kernel
theorem dX8_count_101 : decode cX8_count 101 = .ok (.ireturn, 1) := by decide +kernel
theorem dX8_count_102 : decode cX8_count 102 = .ok (.aload_n 0, 1) := by decide +kernel
theorem dX8_count_103 : decode cX8_count 103 = .ok (.invokevirtual 102, 3) := by decide +kernel
theorem dX8_count_106 : decode cX8_count 106 = .ok (.ireturn, 1) := by decide +kernel
theorem dX8_count_107 : decode cX8_count 107 = .ok (.aload_n 0, 1) := by decide +kernel
theorem dX8_count_108 : decode cX8_count 108 = .ok (.getfield 7, 3) := by decide +kernel
theorem dX8_count_111 : decode cX8_count 111 = .ok (.bipush 8, 2) := by decide +kernel
theorem dX8_count_113 : decode cX8_count 113 = .ok (.iaload, 1) := by decide +kernel
theorem dX8_count_114 : decode cX8_count 114 = .ok (.ireturn, 1) := by decide +kernel
theorem dX8_count_115 : decode cX8_count 115 = .ok (.aload_n 0, 1) := by decide +kernel
theorem dX8_count_116 : decode cX8_count 116 = .ok (.getfield 7, 3) := by decide +kernel
theorem dX8_count_119 : decode cX8_count 119 = .ok (.bipush 9, 2) := by decide +kernel
theorem dX8_count_121 : decode cX8_count 121 = .ok (.iaload, 1) := by decide +kernel
theorem dX8_count_122 : decode cX8_count 122 = .ok (.ireturn, 1) := by decide +kernel
theorem dX8_count_123 : decode cX8_count 123 = .ok (.aload_n 0, 1) := by decide +kernel
theorem dX8_count_124 : decode cX8_count 124 = .ok (.iconst (-1), 1) := by decide +kernel
theorem dX8_count_125 : decode cX8_count 125 = .ok (.iconst 0, 1) := by decide +kernel
theorem dX8_count_126 : decode cX8_count 126 = .ok (.iload_n 1, 1) := by decide +kernel
theorem dX8_count_127 : decode cX8_count 127 = .ok (.bipush 6, 2) := by decide +kernel
theorem dX8_count_129 : decode cX8_count 129 = .ok (.isub, 1) := by decide +kernel
theorem dX8_count_130 : decode cX8_count 130 = .ok (.iload_n 1, 1) := by decide +kernel
theorem dX8_count_131 : decode cX8_count 131 = .ok (.bipush 6, 2) := by decide +kernel
theorem dX8_count_133 : decode cX8_count 133 = .ok (.isub, 1) := by decide +kernel
theorem dX8_count_134 : decode cX8_count 134 = .ok (.invokevirtual 162, 3) := by decide +kernel
theorem dX8_count_137 : decode cX8_count 137 = .ok (.ireturn, 1) := by decide +kernel
theorem dX8_count_138 : decode cX8_count 138 = .ok (.aload_n 0, 1) := by decide +kernel
theorem dX8_count_139 : decode cX8_count 139 = .ok (.getfield 7, 3) := by decide +kernel
theorem dX8_count_142 : decode cX8_count 142 = .ok (.bipush 10, 2) := by decide +kernel
theorem dX8_count_144 : decode cX8_count 144 = .ok (.iload_n 1, 1) := by decide +kernel
theorem dX8_count_145 : decode cX8_count 145 = .ok (.iadd, 1) := by decide +kernel
theorem dX8_count_146 : decode cX8_count 146 = .ok (.bipush 10, 2) := by decide +kernel
theorem dX8_count_148 : decode cX8_count 148 = .ok (.isub, 1) := by decide +kernel
theorem dX8_count_149 : decode cX8_count 149 = .ok (.iaload, 1) := by decide +kernel
theorem dX8_count_150 : decode cX8_count 150 = .ok (.ireturn, 1) := by decide +kernel
theorem dX8_count_151 : decode cX8_count 151 = .ok (.aload_n 0, 1) := by decide +kernel
theorem dX8_count_152 : decode cX8_count 152 = .ok (.getfield 42, 3) := by decide +kernel
theorem dX8_count_155 : decode cX8_count 155 = .ok (.ireturn, 1) := by decide +kernel
theorem dX8_count_156 : decode cX8_count 156 = .ok (.aload_n 0, 1) := by decide +kernel
theorem dX8_count_157 : decode cX8_count 157 = .ok (.getfield 127, 3) := by decide +kernel
theorem dX8_count_160 : decode cX8_count 160 = .ok (.ireturn, 1) := by decide +kernel
theorem dX8_count_161 : decode cX8_count 161 = .ok (.bipush (-2), 2) := by decide +kernel
theorem dX8_count_163 : decode cX8_count 163 = .ok (.ireturn, 1) := by decide +kernel
theorem dL_law_0 : decode cL_law 0 = .ok (.new 7, 3) := by decide +kernel
theorem dL_law_3 : decode cL_law 3 = .ok (.dup, 1) := by decide +kernel
theorem dL_law_4 : decode cL_law 4 = .ok (.invokespecial 9, 3) := by decide +kernel
theorem dL_law_7 : decode cL_law 7 = .ok (.astore_n 1, 1) := by decide +kernel
theorem dL_law_8 : decode cL_law 8 = .ok (.new 10, 3) := by decide +kernel
theorem dL_law_11 : decode cL_law 11 = .ok (.dup, 1) := by decide +kernel
theorem dL_law_12 : decode cL_law 12 = .ok (.invokespecial 12, 3) := by decide +kernel
theorem dL_law_15 : decode cL_law 15 = .ok (.astore_n 2, 1) := by decide +kernel
theorem dL_law_16 : decode cL_law 16 = .ok (.iconst 0, 1) := by decide +kernel
theorem dL_law_17 : decode cL_law 17 = .ok (.istore_n 3, 1) := by decide +kernel
theorem dL_law_18 : decode cL_law 18 = .ok (.iload_n 3, 1) := by decide +kernel
theorem dL_law_19 : decode cL_law 19 = .ok (.aload_n 0, 1) := by decide +kernel
theorem dL_law_20 : decode cL_law 20 = .ok (.arraylength, 1) := by decide +kernel
theorem dL_law_21 : decode cL_law 21 = .ok (.iconst 5, 1) := by decide +kernel
theorem dL_law_22 : decode cL_law 22 = .ok (.isub, 1) := by decide +kernel
theorem dL_law_23 : decode cL_law 23 = .ok (.if_icmp .gt 1046, 3) := by decide +kernel
theorem dL_law_26 : decode cL_law 26 = .ok (.aload_n 0, 1) := by decide +kernel
theorem dL_law_27 : decode cL_law 27 = .ok (.iload_n 3, 1) := by decide +kernel
theorem dL_law_28 : decode cL_law 28 = .ok (.iaload, 1) := by decide +kernel
theorem dL_law_29 : decode cL_law 29 = .ok (.bipush 31, 2) := by decide +kernel
theorem dL_law_31 : decode cL_law 31 = .ok (.iand, 1) := by decide +kernel
theorem dL_law_32 : decode cL_law 32 = .ok (.tableswitch 1031 0 28 #[132, 165, 198, 221, 254, 307, 330, 363, 386, 399, 422, 445, 470, 483, 496, 509, 522, 575, 598, 631, 664, 717, 770, 803, 866, 919, 942, 965, 1008], 132) := by decide +kernel
theorem dL_law_164 : decode cL_law 164 = .ok (.aload_n 1, 1) := by decide +kernel
theorem dL_law_165 : decode cL_law 165 = .ok (.aload_n 0, 1) := by decide +kernel
theorem dL_law_166 : decode cL_law 166 = .ok (.iload_n 3, 1) := by decide +kernel
theorem dL_law_167 : decode cL_law 167 = .ok (.iconst 1, 1) := by decide +kernel
theorem dL_law_168 : decode cL_law 168 = .ok (.iadd, 1) := by decide +kernel
theorem dL_law_169 : decode cL_law 169 = .ok (.iaload, 1) := by decide +kernel
theorem dL_law_170 : decode cL_law 170 = .ok (.aload_n 0, 1) := by decide +kernel
theorem dL_law_171 : decode cL_law 171 = .ok (.iload_n 3, 1) := by decide +kernel
theorem dL_law_172 : decode cL_law 172 = .ok (.iconst 2, 1) := by decide +kernel
theorem dL_law_173 : decode cL_law 173 = .ok (.iadd, 1) := by decide +kernel
theorem dL_law_174 : decode cL_law 174 = .ok (.iaload, 1) := by decide +kernel
theorem dL_law_175 : decode cL_law 175 = .ok (.invokevirtual 13, 3) := by decide +kernel
theorem dL_law_178 : decode cL_law 178 = .ok (.aload_n 2, 1) := by decide +kernel
theorem dL_law_179 : decode cL_law 179 = .ok (.aload_n 0, 1) := by decide +kernel
theorem dL_law_180 : decode cL_law 180 = .ok (.iload_n 3, 1) := by decide +kernel
theorem dL_law_181 : decode cL_law 181 = .ok (.iconst 1, 1) := by decide +kernel
theorem dL_law_182 : decode cL_law 182 = .ok (.iadd, 1) := by decide +kernel
theorem dL_law_183 : decode cL_law 183 = .ok (.iaload, 1) := by decide +kernel
theorem dL_law_184 : decode cL_law 184 = .ok (.aload_n 0, 1) := by decide +kernel
theorem dL_law_185 : decode cL_law 185 = .ok (.iload_n 3, 1) := by decide +kernel
theorem dL_law_186 : decode cL_law 186 = .ok (.iconst 2, 1) := by decide +kernel
theorem dL_law_187 : decode cL_law 187 = .ok (.iadd, 1) := by decide +kernel
theorem dL_law_188 : decode cL_law 188 = .ok (.iaload, 1) := by decide +kernel
theorem dL_law_189 : decode cL_law 189 = .ok (.invokevirtual 17, 3) := by decide +kernel
theorem dL_law_192 : decode cL_law 192 = .ok (.if_icmp .eq 871, 3) := by decide +kernel
theorem dL_law_195 : decode cL_law 195 = .ok (.iconst 0, 1) := by decide +kernel
theorem dL_law_196 : decode cL_law 196 = .ok (.ireturn, 1) := by decide +kernel
theorem dL_law_197 : decode cL_law 197 = .ok (.aload_n 1, 1) := by decide +kernel
theorem dL_law_198 : decode cL_law 198 = .ok (.aload_n 0, 1) := by decide +kernel
theorem dL_law_199 : decode cL_law 199 = .ok (.iload_n 3, 1) := by decide +kernel
theorem dL_law_200 : decode cL_law 200 = .ok (.iconst 1, 1) := by decide +kernel
theorem dL_law_201 : decode cL_law 201 = .ok (.iadd, 1) := by decide +kernel
theorem dL_law_202 : decode cL_law 202 = .ok (.iaload, 1) := by decide +kernel
theorem dL_law_203 : decode cL_law 203 = .ok (.aload_n 0, 1) := by decide +kernel
theorem dL_law_204 : decode cL_law 204 = .ok (.iload_n 3, 1) := by decide +kernel
theorem dL_law_205 : decode cL_law 205 = .ok (.iconst 2, 1) := by decide +kernel
theorem dL_law_206 : decode cL_law 206 = .ok (.iadd, 1) := by decide +kernel
theorem dL_law_207 : decode cL_law 207 = .ok (.iaload, 1) := by decide +kernel
theorem dL_law_208 : decode cL_law 208 = .ok (.invokevirtual 18, 3) := by decide +kernel
theorem dL_law_211 : decode cL_law 211 = .ok (.aload_n 2, 1) := by decide +kernel
theorem dL_law_212 : decode cL_law 212 = .ok (.aload_n 0, 1) := by decide +kernel
theorem dL_law_213 : decode cL_law 213 = .ok (.iload_n 3, 1) := by decide +kernel
theorem dL_law_214 : decode cL_law 214 = .ok (.iconst 1, 1) := by decide +kernel
theorem dL_law_215 : decode cL_law 215 = .ok (.iadd, 1) := by decide +kernel
theorem dL_law_216 : decode cL_law 216 = .ok (.iaload, 1) := by decide +kernel
theorem dL_law_217 : decode cL_law 217 = .ok (.aload_n 0, 1) := by decide +kernel
theorem dL_law_218 : decode cL_law 218 = .ok (.iload_n 3, 1) := by decide +kernel
theorem dL_law_219 : decode cL_law 219 = .ok (.iconst 2, 1) := by decide +kernel
theorem dL_law_220 : decode cL_law 220 = .ok (.iadd, 1) := by decide +kernel
theorem dL_law_221 : decode cL_law 221 = .ok (.iaload, 1) := by decide +kernel
theorem dL_law_222 : decode cL_law 222 = .ok (.invokevirtual 21, 3) := by decide +kernel
theorem dL_law_225 : decode cL_law 225 = .ok (.if_icmp .eq 838, 3) := by decide +kernel
theorem dL_law_228 : decode cL_law 228 = .ok (.iconst 0, 1) := by decide +kernel
theorem dL_law_229 : decode cL_law 229 = .ok (.ireturn, 1) := by decide +kernel
theorem dL_law_230 : decode cL_law 230 = .ok (.aload_n 1, 1) := by decide +kernel
theorem dL_law_231 : decode cL_law 231 = .ok (.aload_n 0, 1) := by decide +kernel
theorem dL_law_232 : decode cL_law 232 = .ok (.iload_n 3, 1) := by decide +kernel
theorem dL_law_233 : decode cL_law 233 = .ok (.iconst 1, 1) := by decide +kernel
theorem dL_law_234 : decode cL_law 234 = .ok (.iadd, 1) := by decide +kernel
theorem dL_law_235 : decode cL_law 235 = .ok (.iaload, 1) := by decide +kernel
theorem dL_law_236 : decode cL_law 236 = .ok (.invokevirtual 22, 3) := by decide +kernel
theorem dL_law_239 : decode cL_law 239 = .ok (.aload_n 2, 1) := by decide +kernel
theorem dL_law_240 : decode cL_law 240 = .ok (.aload_n 0, 1) := by decide +kernel
theorem dL_law_241 : decode cL_law 241 = .ok (.iload_n 3, 1) := by decide +kernel
theorem dL_law_242 : decode cL_law 242 = .ok (.iconst 1, 1) := by decide +kernel
theorem dL_law_243 : decode cL_law 243 = .ok (.iadd, 1) := by decide +kernel
theorem dL_law_244 : decode cL_law 244 = .ok (.iaload, 1) := by decide +kernel
theorem dL_law_245 : decode cL_law 245 = .ok (.invokevirtual 26, 3) := by decide +kernel
theorem dL_law_248 : decode cL_law 248 = .ok (.if_icmp .eq 815, 3) := by decide +kernel
theorem dL_law_251 : decode cL_law 251 = .ok (.iconst 0, 1) := by decide +kernel
theorem dL_law_252 : decode cL_law 252 = .ok (.ireturn, 1) := by decide +kernel
theorem dL_law_253 : decode cL_law 253 = .ok (.aload_n 1, 1) := by decide +kernel
theorem dL_law_254 : decode cL_law 254 = .ok (.aload_n 0, 1) := by decide +kernel
theorem dL_law_255 : decode cL_law 255 = .ok (.iload_n 3, 1) := by decide +kernel
theorem dL_law_256 : decode cL_law 256 = .ok (.iconst 1, 1) := by decide +kernel
theorem dL_law_257 : decode cL_law 257 = .ok (.iadd, 1) := by decide +kernel
theorem dL_law_258 : decode cL_law 258 = .ok (.iaload, 1) := by decide +kernel
theorem dL_law_259 : decode cL_law 259 = .ok (.aload_n 0, 1) := by decide +kernel
theorem dL_law_260 : decode cL_law 260 = .ok (.iload_n 3, 1) := by decide +kernel
theorem dL_law_261 : decode cL_law 261 = .ok (.iconst 2, 1) := by decide +kernel
theorem dL_law_262 : decode cL_law 262 = .ok (.iadd, 1) := by decide +kernel
theorem dL_law_263 : decode cL_law 263 = .ok (.iaload, 1) := by decide +kernel
theorem dL_law_264 : decode cL_law 264 = .ok (.invokevirtual 27, 3) := by decide +kernel
theorem dL_law_267 : decode cL_law 267 = .ok (.aload_n 2, 1) := by decide +kernel
theorem dL_law_268 : decode cL_law 268 = .ok (.aload_n 0, 1) := by decide +kernel
theorem dL_law_269 : decode cL_law 269 = .ok (.iload_n 3, 1) := by decide +kernel
theorem dL_law_270 : decode cL_law 270 = .ok (.iconst 1, 1) := by decide +kernel
theorem dL_law_271 : decode cL_law 271 = .ok (.iadd, 1) := by decide +kernel
theorem dL_law_272 : decode cL_law 272 = .ok (.iaload, 1) := by decide +kernel
theorem dL_law_273 : decode cL_law 273 = .ok (.aload_n 0, 1) := by decide +kernel
theorem dL_law_274 : decode cL_law 274 = .ok (.iload_n 3, 1) := by decide +kernel
theorem dL_law_275 : decode cL_law 275 = .ok (.iconst 2, 1) := by decide +kernel
theorem dL_law_276 : decode cL_law 276 = .ok (.iadd, 1) := by decide +kernel
theorem dL_law_277 : decode cL_law 277 = .ok (.iaload, 1) := by decide +kernel
theorem dL_law_278 : decode cL_law 278 = .ok (.invokevirtual 30, 3) := by decide +kernel
theorem dL_law_281 : decode cL_law 281 = .ok (.if_icmp .eq 782, 3) := by decide +kernel
theorem dL_law_284 : decode cL_law 284 = .ok (.iconst 0, 1) := by decide +kernel
theorem dL_law_285 : decode cL_law 285 = .ok (.ireturn, 1) := by decide +kernel
theorem dL_law_286 : decode cL_law 286 = .ok (.aload_n 1, 1) := by decide +kernel
theorem dL_law_287 : decode cL_law 287 = .ok (.aload_n 0, 1) := by decide +kernel
theorem dL_law_288 : decode cL_law 288 = .ok (.iload_n 3, 1) := by decide +kernel
theorem dL_law_289 : decode cL_law 289 = .ok (.iconst 1, 1) := by decide +kernel
theorem dL_law_290 : decode cL_law 290 = .ok (.iadd, 1) := by decide +kernel
theorem dL_law_291 : decode cL_law 291 = .ok (.iaload, 1) := by decide +kernel
theorem dL_law_292 : decode cL_law 292 = .ok (.aload_n 0, 1) := by decide +kernel
theorem dL_law_293 : decode cL_law 293 = .ok (.iload_n 3, 1) := by decide +kernel
theorem dL_law_294 : decode cL_law 294 = .ok (.iconst 2, 1) := by decide +kernel
theorem dL_law_295 : decode cL_law 295 = .ok (.iadd, 1) := by decide +kernel
theorem dL_law_296 : decode cL_law 296 = .ok (.iaload, 1) := by decide +kernel
theorem dL_law_297 : decode cL_law 297 = .ok (.aload_n 0, 1) := by decide +kernel
theorem dL_law_298 : decode cL_law 298 = .ok (.iload_n 3, 1) := by decide +kernel
theorem dL_law_299 : decode cL_law 299 = .ok (.iconst 3, 1) := by decide +kernel
theorem dL_law_300 : decode cL_law 300 = .ok (.iadd, 1) := by decide +kernel
theorem dL_law_301 : decode cL_law 301 = .ok (.iaload, 1) := by decide +kernel
theorem dL_law_302 : decode cL_law 302 = .ok (.aload_n 0, 1) := by decide +kernel
theorem dL_law_303 : decode cL_law 303 = .ok (.iload_n 3, 1) := by decide +kernel
theorem dL_law_304 : decode cL_law 304 = .ok (.iconst 4, 1) := by decide +kernel
theorem dL_law_305 : decode cL_law 305 = .ok (.iadd, 1) := by decide +kernel
theorem dL_law_306 : decode cL_law 306 = .ok (.iaload, 1) := by decide +kernel
theorem dL_law_307 : decode cL_law 307 = .ok (.invokevirtual 31, 3) := by decide +kernel
theorem dL_law_310 : decode cL_law 310 = .ok (.aload_n 2, 1) := by decide +kernel
theorem dL_law_311 : decode cL_law 311 = .ok (.aload_n 0, 1) := by decide +kernel
theorem dL_law_312 : decode cL_law 312 = .ok (.iload_n 3, 1) := by decide +kernel
theorem dL_law_313 : decode cL_law 313 = .ok (.iconst 1, 1) := by decide +kernel
theorem dL_law_314 : decode cL_law 314 = .ok (.iadd, 1) := by decide +kernel
theorem dL_law_315 : decode cL_law 315 = .ok (.iaload, 1) := by decide +kernel
theorem dL_law_316 : decode cL_law 316 = .ok (.aload_n 0, 1) := by decide +kernel
theorem dL_law_317 : decode cL_law 317 = .ok (.iload_n 3, 1) := by decide +kernel
theorem dL_law_318 : decode cL_law 318 = .ok (.iconst 2, 1) := by decide +kernel
theorem dL_law_319 : decode cL_law 319 = .ok (.iadd, 1) := by decide +kernel
theorem dL_law_320 : decode cL_law 320 = .ok (.iaload, 1) := by decide +kernel
theorem dL_law_321 : decode cL_law 321 = .ok (.aload_n 0, 1) := by decide +kernel
theorem dL_law_322 : decode cL_law 322 = .ok (.iload_n 3, 1) := by decide +kernel
theorem dL_law_323 : decode cL_law 323 = .ok (.iconst 3, 1) := by decide +kernel
theorem dL_law_324 : decode cL_law 324 = .ok (.iadd, 1) := by decide +kernel
theorem dL_law_325 : decode cL_law 325 = .ok (.iaload, 1) := by decide +kernel
theorem dL_law_326 : decode cL_law 326 = .ok (.aload_n 0, 1) := by decide +kernel
theorem dL_law_327 : decode cL_law 327 = .ok (.iload_n 3, 1) := by decide +kernel
theorem dL_law_328 : decode cL_law 328 = .ok (.iconst 4, 1) := by decide +kernel
theorem dL_law_329 : decode cL_law 329 = .ok (.iadd, 1) := by decide +kernel
theorem dL_law_330 : decode cL_law 330 = .ok (.iaload, 1) := by decide +kernel
theorem dL_law_331 : decode cL_law 331 = .ok (.invokevirtual 35, 3) := by decide +kernel
theorem dL_law_334 : decode cL_law 334 = .ok (.if_icmp .eq 729, 3) := by decide +kernel
theorem dL_law_337 : decode cL_law 337 = .ok (.iconst 0, 1) := by decide +kernel
theorem dL_law_338 : decode cL_law 338 = .ok (.ireturn, 1) := by decide +kernel
theorem dL_law_339 : decode cL_law 339 = .ok (.aload_n 1, 1) := by decide +kernel
theorem dL_law_340 : decode cL_law 340 = .ok (.aload_n 0, 1) := by decide +kernel
theorem dL_law_341 : decode cL_law 341 = .ok (.iload_n 3, 1) := by decide +kernel
theorem dL_law_342 : decode cL_law 342 = .ok (.iconst 1, 1) := by decide +kernel
theorem dL_law_343 : decode cL_law 343 = .ok (.iadd, 1) := by decide +kernel
theorem dL_law_344 : decode cL_law 344 = .ok (.iaload, 1) := by decide +kernel
theorem dL_law_345 : decode cL_law 345 = .ok (.invokevirtual 36, 3) := by decide +kernel
theorem dL_law_348 : decode cL_law 348 = .ok (.aload_n 2, 1) := by decide +kernel
theorem dL_law_349 : decode cL_law 349 = .ok (.aload_n 0, 1) := by decide +kernel
theorem dL_law_350 : decode cL_law 350 = .ok (.iload_n 3, 1) := by decide +kernel
theorem dL_law_351 : decode cL_law 351 = .ok (.iconst 1, 1) := by decide +kernel
theorem dL_law_352 : decode cL_law 352 = .ok (.iadd, 1) := by decide +kernel
theorem dL_law_353 : decode cL_law 353 = .ok (.iaload, 1) := by decide +kernel
theorem dL_law_354 : decode cL_law 354 = .ok (.invokevirtual 39, 3) := by decide +kernel
theorem dL_law_357 : decode cL_law 357 = .ok (.if_icmp .eq 706, 3) := by decide +kernel
theorem dL_law_360 : decode cL_law 360 = .ok (.iconst 0, 1) := by decide +kernel
theorem dL_law_361 : decode cL_law 361 = .ok (.ireturn, 1) := by decide +kernel
theorem dL_law_362 : decode cL_law 362 = .ok (.aload_n 1, 1) := by decide +kernel
theorem dL_law_363 : decode cL_law 363 = .ok (.aload_n 0, 1) := by decide +kernel
theorem dL_law_364 : decode cL_law 364 = .ok (.iload_n 3, 1) := by decide +kernel
theorem dL_law_365 : decode cL_law 365 = .ok (.iconst 1, 1) := by decide +kernel
theorem dL_law_366 : decode cL_law 366 = .ok (.iadd, 1) := by decide +kernel
theorem dL_law_367 : decode cL_law 367 = .ok (.iaload, 1) := by decide +kernel
theorem dL_law_368 : decode cL_law 368 = .ok (.aload_n 0, 1) := by decide +kernel
theorem dL_law_369 : decode cL_law 369 = .ok (.iload_n 3, 1) := by decide +kernel
theorem dL_law_370 : decode cL_law 370 = .ok (.iconst 2, 1) := by decide +kernel
theorem dL_law_371 : decode cL_law 371 = .ok (.iadd, 1) := by decide +kernel
theorem dL_law_372 : decode cL_law 372 = .ok (.iaload, 1) := by decide +kernel
theorem dL_law_373 : decode cL_law 373 = .ok (.invokevirtual 40, 3) := by decide +kernel
theorem dL_law_376 : decode cL_law 376 = .ok (.aload_n 2, 1) := by decide +kernel
theorem dL_law_377 : decode cL_law 377 = .ok (.aload_n 0, 1) := by decide +kernel
theorem dL_law_378 : decode cL_law 378 = .ok (.iload_n 3, 1) := by decide +kernel
theorem dL_law_379 : decode cL_law 379 = .ok (.iconst 1, 1) := by decide +kernel
theorem dL_law_380 : decode cL_law 380 = .ok (.iadd, 1) := by decide +kernel
theorem dL_law_381 : decode cL_law 381 = .ok (.iaload, 1) := by decide +kernel
theorem dL_law_382 : decode cL_law 382 = .ok (.aload_n 0, 1) := by decide +kernel
theorem dL_law_383 : decode cL_law 383 = .ok (.iload_n 3, 1) := by decide +kernel
theorem dL_law_384 : decode cL_law 384 = .ok (.iconst 2, 1) := by decide +kernel
theorem dL_law_385 : decode cL_law 385 = .ok (.iadd, 1) := by decide +kernel
theorem dL_law_386 : decode cL_law 386 = .ok (.iaload, 1) := by decide +kernel
theorem dL_law_387 : decode cL_law 387 = .ok (.invokevirtual 43, 3) := by decide +kernel
theorem dL_law_390 : decode cL_law 390 = .ok (.if_icmp .eq 673, 3) := by decide +kernel
theorem dL_law_393 : decode cL_law 393 = .ok (.iconst 0, 1) := by decide +kernel
theorem dL_law_394 : decode cL_law 394 = .ok (.ireturn, 1) := by decide +kernel
theorem dL_law_395 : decode cL_law 395 = .ok (.aload_n 1, 1) := by decide +kernel
theorem dL_law_396 : decode cL_law 396 = .ok (.aload_n 0, 1) := by decide +kernel
theorem dL_law_397 : decode cL_law 397 = .ok (.iload_n 3, 1) := by decide +kernel
theorem dL_law_398 : decode cL_law 398 = .ok (.iconst 1, 1) := by decide +kernel
theorem dL_law_399 : decode cL_law 399 = .ok (.iadd, 1) := by decide +kernel
theorem dL_law_400 : decode cL_law 400 = .ok (.iaload, 1) := by decide +kernel
theorem dL_law_401 : decode cL_law 401 = .ok (.invokevirtual 44, 3) := by decide +kernel
theorem dL_law_404 : decode cL_law 404 = .ok (.aload_n 2, 1) := by decide +kernel
theorem dL_law_405 : decode cL_law 405 = .ok (.aload_n 0, 1) := by decide +kernel
theorem dL_law_406 : decode cL_law 406 = .ok (.iload_n 3, 1) := by decide +kernel
theorem dL_law_407 : decode cL_law 407 = .ok (.iconst 1, 1) := by decide +kernel
theorem dL_law_408 : decode cL_law 408 = .ok (.iadd, 1) := by decide +kernel
theorem dL_law_409 : decode cL_law 409 = .ok (.iaload, 1) := by decide +kernel
theorem dL_law_410 : decode cL_law 410 = .ok (.invokevirtual 47, 3) := by decide +kernel
theorem dL_law_413 : decode cL_law 413 = .ok (.if_icmp .eq 650, 3) := by decide +kernel
theorem dL_law_416 : decode cL_law 416 = .ok (.iconst 0, 1) := by decide +kernel
theorem dL_law_417 : decode cL_law 417 = .ok (.ireturn, 1) := by decide +kernel
theorem dL_law_418 : decode cL_law 418 = .ok (.aload_n 1, 1) := by decide +kernel
theorem dL_law_419 : decode cL_law 419 = .ok (.invokevirtual 48, 3) := by decide +kernel
theorem dL_law_422 : decode cL_law 422 = .ok (.aload_n 2, 1) := by decide +kernel
theorem dL_law_423 : decode cL_law 423 = .ok (.invokevirtual 52, 3) := by decide +kernel
theorem dL_law_426 : decode cL_law 426 = .ok (.if_icmp .eq 637, 3) := by decide +kernel
theorem dL_law_429 : decode cL_law 429 = .ok (.iconst 0, 1) := by decide +kernel
theorem dL_law_430 : decode cL_law 430 = .ok (.ireturn, 1) := by decide +kernel
theorem dL_law_431 : decode cL_law 431 = .ok (.aload_n 1, 1) := by decide +kernel
theorem dL_law_432 : decode cL_law 432 = .ok (.aload_n 0, 1) := by decide +kernel
theorem dL_law_433 : decode cL_law 433 = .ok (.iload_n 3, 1) := by decide +kernel
theorem dL_law_434 : decode cL_law 434 = .ok (.iconst 1, 1) := by decide +kernel
theorem dL_law_435 : decode cL_law 435 = .ok (.iadd, 1) := by decide +kernel
theorem dL_law_436 : decode cL_law 436 = .ok (.iaload, 1) := by decide +kernel
theorem dL_law_437 : decode cL_law 437 = .ok (.invokevirtual 53, 3) := by decide +kernel
theorem dL_law_440 : decode cL_law 440 = .ok (.aload_n 2, 1) := by decide +kernel
theorem dL_law_441 : decode cL_law 441 = .ok (.aload_n 0, 1) := by decide +kernel
theorem dL_law_442 : decode cL_law 442 = .ok (.iload_n 3, 1) := by decide +kernel
theorem dL_law_443 : decode cL_law 443 = .ok (.iconst 1, 1) := by decide +kernel
theorem dL_law_444 : decode cL_law 444 = .ok (.iadd, 1) := by decide +kernel
theorem dL_law_445 : decode cL_law 445 = .ok (.iaload, 1) := by decide +kernel
theorem dL_law_446 : decode cL_law 446 = .ok (.invokevirtual 56, 3) := by decide +kernel
theorem dL_law_449 : decode cL_law 449 = .ok (.if_icmp .eq 614, 3) := by decide +kernel
theorem dL_law_452 : decode cL_law 452 = .ok (.iconst 0, 1) := by decide +kernel
theorem dL_law_453 : decode cL_law 453 = .ok (.ireturn, 1) := by decide +kernel
theorem dL_law_454 : decode cL_law 454 = .ok (.aload_n 1, 1) := by decide +kernel
theorem dL_law_455 : decode cL_law 455 = .ok (.aload_n 0, 1) := by decide +kernel
theorem dL_law_456 : decode cL_law 456 = .ok (.iload_n 3, 1) := by decide +kernel
theorem dL_law_457 : decode cL_law 457 = .ok (.iconst 1, 1) := by decide +kernel
theorem dL_law_458 : decode cL_law 458 = .ok (.iadd, 1) := by decide +kernel
theorem dL_law_459 : decode cL_law 459 = .ok (.iaload, 1) := by decide +kernel
theorem dL_law_460 : decode cL_law 460 = .ok (.invokevirtual 57, 3) := by decide +kernel
theorem dL_law_463 : decode cL_law 463 = .ok (.aload_n 2, 1) := by decide +kernel
theorem dL_law_464 : decode cL_law 464 = .ok (.aload_n 0, 1) := by decide +kernel
theorem dL_law_465 : decode cL_law 465 = .ok (.iload_n 3, 1) := by decide +kernel
theorem dL_law_466 : decode cL_law 466 = .ok (.iconst 1, 1) := by decide +kernel
theorem dL_law_467 : decode cL_law 467 = .ok (.iadd, 1) := by decide +kernel
theorem dL_law_468 : decode cL_law 468 = .ok (.iaload, 1) := by decide +kernel
theorem dL_law_469 : decode cL_law 469 = .ok (.invokevirtual 60, 3) := by decide +kernel
theorem dL_law_472 : decode cL_law 472 = .ok (.if_icmp .eq 591, 3) := by decide +kernel
theorem dL_law_475 : decode cL_law 475 = .ok (.iconst 0, 1) := by decide +kernel
theorem dL_law_476 : decode cL_law 476 = .ok (.ireturn, 1) := by decide +kernel
theorem dL_law_477 : decode cL_law 477 = .ok (.aload_n 1, 1) := by decide +kernel
theorem dL_law_478 : decode cL_law 478 = .ok (.aload_n 0, 1) := by decide +kernel
theorem dL_law_479 : decode cL_law 479 = .ok (.iload_n 3, 1) := by decide +kernel
theorem dL_law_480 : decode cL_law 480 = .ok (.iconst 1, 1) := by decide +kernel
theorem dL_law_481 : decode cL_law 481 = .ok (.iadd, 1) := by decide +kernel
theorem dL_law_482 : decode cL_law 482 = .ok (.iaload, 1) := by decide +kernel
theorem dL_law_483 : decode cL_law 483 = .ok (.i2c, 1) := by decide +kernel
theorem dL_law_484 : decode cL_law 484 = .ok (.invokevirtual 61, 3) := by decide +kernel
theorem dL_law_487 : decode cL_law 487 = .ok (.aload_n 2, 1) := by decide +kernel
theorem dL_law_488 : decode cL_law 488 = .ok (.aload_n 0, 1) := by decide +kernel
theorem dL_law_489 : decode cL_law 489 = .ok (.iload_n 3, 1) := by decide +kernel
theorem dL_law_490 : decode cL_law 490 = .ok (.iconst 1, 1) := by decide +kernel
theorem dL_law_491 : decode cL_law 491 = .ok (.iadd, 1) := by decide +kernel
theorem dL_law_492 : decode cL_law 492 = .ok (.iaload, 1) := by decide +kernel
theorem dL_law_493 : decode cL_law 493 = .ok (.i2c, 1) := by decide +kernel
theorem dL_law_494 : decode cL_law 494 = .ok (.invokevirtual 65, 3) := by decide +kernel
theorem dL_law_497 : decode cL_law 497 = .ok (.if_icmp .eq 566, 3) := by decide +kernel
theorem dL_law_500 : decode cL_law 500 = .ok (.iconst 0, 1) := by decide +kernel
theorem dL_law_501 : decode cL_law 501 = .ok (.ireturn, 1) := by decide +kernel
theorem dL_law_502 : decode cL_law 502 = .ok (.aload_n 1, 1) := by decide +kernel
theorem dL_law_503 : decode cL_law 503 = .ok (.invokevirtual 66, 3) := by decide +kernel
theorem dL_law_506 : decode cL_law 506 = .ok (.aload_n 2, 1) := by decide +kernel
theorem dL_law_507 : decode cL_law 507 = .ok (.invokevirtual 69, 3) := by decide +kernel
theorem dL_law_510 : decode cL_law 510 = .ok (.if_icmp .eq 553, 3) := by decide +kernel
theorem dL_law_513 : decode cL_law 513 = .ok (.iconst 0, 1) := by decide +kernel
theorem dL_law_514 : decode cL_law 514 = .ok (.ireturn, 1) := by decide +kernel
theorem dL_law_515 : decode cL_law 515 = .ok (.aload_n 1, 1) := by decide +kernel
theorem dL_law_516 : decode cL_law 516 = .ok (.invokevirtual 70, 3) := by decide +kernel
theorem dL_law_519 : decode cL_law 519 = .ok (.aload_n 2, 1) := by decide +kernel
theorem dL_law_520 : decode cL_law 520 = .ok (.invokevirtual 73, 3) := by decide +kernel
theorem dL_law_523 : decode cL_law 523 = .ok (.if_icmp .eq 540, 3) := by decide +kernel
theorem dL_law_526 : decode cL_law 526 = .ok (.iconst 0, 1) := by decide +kernel
theorem dL_law_527 : decode cL_law 527 = .ok (.ireturn, 1) := by decide +kernel
theorem dL_law_528 : decode cL_law 528 = .ok (.aload_n 1, 1) := by decide +kernel
theorem dL_law_529 : decode cL_law 529 = .ok (.invokevirtual 74, 3) := by decide +kernel
theorem dL_law_532 : decode cL_law 532 = .ok (.aload_n 2, 1) := by decide +kernel
theorem dL_law_533 : decode cL_law 533 = .ok (.invokevirtual 77, 3) := by decide +kernel
theorem dL_law_536 : decode cL_law 536 = .ok (.if_icmp .eq 527, 3) := by decide +kernel
theorem dL_law_539 : decode cL_law 539 = .ok (.iconst 0, 1) := by decide +kernel
theorem dL_law_540 : decode cL_law 540 = .ok (.ireturn, 1) := by decide +kernel
theorem dL_law_541 : decode cL_law 541 = .ok (.aload_n 1, 1) := by decide +kernel
theorem dL_law_542 : decode cL_law 542 = .ok (.invokevirtual 78, 3) := by decide +kernel
theorem dL_law_545 : decode cL_law 545 = .ok (.aload_n 2, 1) := by decide +kernel
theorem dL_law_546 : decode cL_law 546 = .ok (.invokevirtual 81, 3) := by decide +kernel
theorem dL_law_549 : decode cL_law 549 = .ok (.if_icmp .eq 514, 3) := by decide +kernel
theorem dL_law_552 : decode cL_law 552 = .ok (.iconst 0, 1) := by decide +kernel
theorem dL_law_553 : decode cL_law 553 = .ok (.ireturn, 1) := by decide +kernel
theorem dL_law_554 : decode cL_law 554 = .ok (.aload_n 1, 1) := by decide +kernel
theorem dL_law_555 : decode cL_law 555 = .ok (.aload_n 0, 1) := by decide +kernel
theorem dL_law_556 : decode cL_law 556 = .ok (.iload_n 3, 1) := by decide +kernel
theorem dL_law_557 : decode cL_law 557 = .ok (.iconst 1, 1) := by decide +kernel
theorem dL_law_558 : decode cL_law 558 = .ok (.iadd, 1) := by decide +kernel
theorem dL_law_559 : decode cL_law 559 = .ok (.iaload, 1) := by decide +kernel
theorem dL_law_560 : decode cL_law 560 = .ok (.invokevirtual 82, 3) := by decide +kernel
theorem dL_law_563 : decode cL_law 563 = .ok (.f2d, 1) := by decide +kernel
theorem dL_law_564 : decode cL_law 564 = .ok (.dstore 4, 2) := by decide +kernel
theorem dL_law_566 : decode cL_law 566 = .ok (.aload_n 2, 1) := by decide +kernel
theorem dL_law_567 : decode cL_law 567 = .ok (.aload_n 0, 1) := by decide +kernel
theorem dL_law_568 : decode cL_law 568 = .ok (.iload_n 3, 1) := by decide +kernel
theorem dL_law_569 : decode cL_law 569 = .ok (.iconst 1, 1) := by decide +kernel
theorem dL_law_570 : decode cL_law 570 = .ok (.iadd, 1) := by decide +kernel
theorem dL_law_571 : decode cL_law 571 = .ok (.iaload, 1) := by decide +kernel
theorem dL_law_572 : decode cL_law 572 = .ok (.invokevirtual 86, 3) := by decide +kernel
theorem dL_law_575 : decode cL_law 575 = .ok (.f2d, 1) := by decide +kernel
theorem dL_law_576 : decode cL_law 576 = .ok (.dstore 6, 2) := by decide +kernel
theorem dL_law_578 : decode cL_law 578 = .ok (.dload 4, 2) := by decide +kernel
theorem dL_law_580 : decode cL_law 580 = .ok (.dload 6, 2) := by decide +kernel
theorem dL_law_582 : decode cL_law 582 = .ok (.dcmp .l, 1) := by decide +kernel
theorem dL_law_583 : decode cL_law 583 = .ok (.ifCond .eq 21, 3) := by decide +kernel
theorem dL_law_586 : decode cL_law 586 = .ok (.dload 4, 2) := by decide +kernel
theorem dL_law_588 : decode cL_law 588 = .ok (.dload 4, 2) := by decide +kernel
theorem dL_law_590 : decode cL_law 590 = .ok (.dcmp .l, 1) := by decide +kernel
theorem dL_law_591 : decode cL_law 591 = .ok (.ifCond .eq 11, 3) := by decide +kernel
theorem dL_law_594 : decode cL_law 594 = .ok (.dload 6, 2) := by decide +kernel
theorem dL_law_596 : decode cL_law 596 = .ok (.dload 6, 2) := by decide +kernel
theorem dL_law_598 : decode cL_law 598 = .ok (.dcmp .l, 1) := by decide +kernel
theorem dL_law_599 : decode cL_law 599 = .ok (.ifCond .ne 5, 3) := by decide +kernel
theorem dL_law_602 : decode cL_law 602 = .ok (.iconst 0, 1) := by decide +kernel
theorem dL_law_603 : decode cL_law 603 = .ok (.ireturn, 1) := by decide +kernel
theorem dL_law_604 : decode cL_law 604 = .ok (.goto 459, 3) := by decide +kernel
theorem dL_law_607 : decode cL_law 607 = .ok (.aload_n 1, 1) := by decide +kernel
theorem dL_law_608 : decode cL_law 608 = .ok (.aload_n 0, 1) := by decide +kernel
theorem dL_law_609 : decode cL_law 609 = .ok (.iload_n 3, 1) := by decide +kernel
theorem dL_law_610 : decode cL_law 610 = .ok (.iconst 1, 1) := by decide +kernel
theorem dL_law_611 : decode cL_law 611 = .ok (.iadd, 1) := by decide +kernel
theorem dL_law_612 : decode cL_law 612 = .ok (.iaload, 1) := by decide +kernel
theorem dL_law_613 : decode cL_law 613 = .ok (.invokevirtual 87, 3) := by decide +kernel
theorem dL_law_616 : decode cL_law 616 = .ok (.aload_n 2, 1) := by decide +kernel
theorem dL_law_617 : decode cL_law 617 = .ok (.aload_n 0, 1) := by decide +kernel
theorem dL_law_618 : decode cL_law 618 = .ok (.iload_n 3, 1) := by decide +kernel
theorem dL_law_619 : decode cL_law 619 = .ok (.iconst 1, 1) := by decide +kernel
theorem dL_law_620 : decode cL_law 620 = .ok (.iadd, 1) := by decide +kernel
theorem dL_law_621 : decode cL_law 621 = .ok (.iaload, 1) := by decide +kernel
theorem dL_law_622 : decode cL_law 622 = .ok (.invokevirtual 90, 3) := by decide +kernel
theorem dL_law_625 : decode cL_law 625 = .ok (.if_icmp .eq 438, 3) := by decide +kernel
theorem dL_law_628 : decode cL_law 628 = .ok (.iconst 0, 1) := by decide +kernel
theorem dL_law_629 : decode cL_law 629 = .ok (.ireturn, 1) := by decide +kernel
theorem dL_law_630 : decode cL_law 630 = .ok (.aload_n 1, 1) := by decide +kernel
theorem dL_law_631 : decode cL_law 631 = .ok (.aload_n 0, 1) := by decide +kernel
theorem dL_law_632 : decode cL_law 632 = .ok (.iload_n 3, 1) := by decide +kernel
theorem dL_law_633 : decode cL_law 633 = .ok (.iconst 1, 1) := by decide +kernel
theorem dL_law_634 : decode cL_law 634 = .ok (.iadd, 1) := by decide +kernel
theorem dL_law_635 : decode cL_law 635 = .ok (.iaload, 1) := by decide +kernel
theorem dL_law_636 : decode cL_law 636 = .ok (.aload_n 0, 1) := by decide +kernel
theorem dL_law_637 : decode cL_law 637 = .ok (.iload_n 3, 1) := by decide +kernel
theorem dL_law_638 : decode cL_law 638 = .ok (.iconst 2, 1) := by decide +kernel
theorem dL_law_639 : decode cL_law 639 = .ok (.iadd, 1) := by decide +kernel
theorem dL_law_640 : decode cL_law 640 = .ok (.iaload, 1) := by decide +kernel
theorem dL_law_641 : decode cL_law 641 = .ok (.invokevirtual 91, 3) := by decide +kernel
theorem dL_law_644 : decode cL_law 644 = .ok (.aload_n 2, 1) := by decide +kernel
theorem dL_law_645 : decode cL_law 645 = .ok (.aload_n 0, 1) := by decide +kernel
theorem dL_law_646 : decode cL_law 646 = .ok (.iload_n 3, 1) := by decide +kernel
theorem dL_law_647 : decode cL_law 647 = .ok (.iconst 1, 1) := by decide +kernel
theorem dL_law_648 : decode cL_law 648 = .ok (.iadd, 1) := by decide +kernel
theorem dL_law_649 : decode cL_law 649 = .ok (.iaload, 1) := by decide +kernel
theorem dL_law_650 : decode cL_law 650 = .ok (.aload_n 0, 1) := by decide +kernel
theorem dL_law_651 : decode cL_law 651 = .ok (.iload_n 3, 1) := by decide +kernel
theorem dL_law_652 : decode cL_law 652 = .ok (.iconst 2, 1) := by decide +kernel
theorem dL_law_653 : decode cL_law 653 = .ok (.iadd, 1) := by decide +kernel
theorem dL_law_654 : decode cL_law 654 = .ok (.iaload, 1) := by decide +kernel
theorem dL_law_655 : decode cL_law 655 = .ok (.invokevirtual 94, 3) := by decide +kernel
theorem dL_law_658 : decode cL_law 658 = .ok (.if_icmp .eq 405, 3) := by decide +kernel
theorem dL_law_661 : decode cL_law 661 = .ok (.iconst 0, 1) := by decide +kernel
theorem dL_law_662 : decode cL_law 662 = .ok (.ireturn, 1) := by decide +kernel
theorem dL_law_663 : decode cL_law 663 = .ok (.aload_n 1, 1) := by decide +kernel
theorem dL_law_664 : decode cL_law 664 = .ok (.aload_n 0, 1) := by decide +kernel
theorem dL_law_665 : decode cL_law 665 = .ok (.iload_n 3, 1) := by decide +kernel
theorem dL_law_666 : decode cL_law 666 = .ok (.iconst 1, 1) := by decide +kernel
theorem dL_law_667 : decode cL_law 667 = .ok (.iadd, 1) := by decide +kernel
theorem dL_law_668 : decode cL_law 668 = .ok (.iaload, 1) := by decide +kernel
theorem dL_law_669 : decode cL_law 669 = .ok (.aload_n 0, 1) := by decide +kernel
theorem dL_law_670 : decode cL_law 670 = .ok (.iload_n 3, 1) := by decide +kernel
theorem dL_law_671 : decode cL_law 671 = .ok (.iconst 2, 1) := by decide +kernel
theorem dL_law_672 : decode cL_law 672 = .ok (.iadd, 1) := by decide +kernel
theorem dL_law_673 : decode cL_law 673 = .ok (.iaload, 1) := by decide +kernel
theorem dL_law_674 : decode cL_law 674 = .ok (.invokevirtual 95, 3) := by decide +kernel
theorem dL_law_677 : decode cL_law 677 = .ok (.aload_n 2, 1) := by decide +kernel
theorem dL_law_678 : decode cL_law 678 = .ok (.aload_n 0, 1) := by decide +kernel
theorem dL_law_679 : decode cL_law 679 = .ok (.iload_n 3, 1) := by decide +kernel
theorem dL_law_680 : decode cL_law 680 = .ok (.iconst 1, 1) := by decide +kernel
theorem dL_law_681 : decode cL_law 681 = .ok (.iadd, 1) := by decide +kernel
theorem dL_law_682 : decode cL_law 682 = .ok (.iaload, 1) := by decide +kernel
theorem dL_law_683 : decode cL_law 683 = .ok (.aload_n 0, 1) := by decide +kernel
theorem dL_law_684 : decode cL_law 684 = .ok (.iload_n 3, 1) := by decide +kernel
theorem dL_law_685 : decode cL_law 685 = .ok (.iconst 2, 1) := by decide +kernel
theorem dL_law_686 : decode cL_law 686 = .ok (.iadd, 1) := by decide +kernel
theorem dL_law_687 : decode cL_law 687 = .ok (.iaload, 1) := by decide +kernel
theorem dL_law_688 : decode cL_law 688 = .ok (.invokevirtual 98, 3) := by decide +kernel
theorem dL_law_691 : decode cL_law 691 = .ok (.if_icmp .eq 372, 3) := by decide +kernel
theorem dL_law_694 : decode cL_law 694 = .ok (.iconst 0, 1) := by decide +kernel
theorem dL_law_695 : decode cL_law 695 = .ok (.ireturn, 1) := by decide +kernel
theorem dL_law_696 : decode cL_law 696 = .ok (.aload_n 1, 1) := by decide +kernel
theorem dL_law_697 : decode cL_law 697 = .ok (.aload_n 0, 1) := by decide +kernel
theorem dL_law_698 : decode cL_law 698 = .ok (.iload_n 3, 1) := by decide +kernel
theorem dL_law_699 : decode cL_law 699 = .ok (.iconst 1, 1) := by decide +kernel
theorem dL_law_700 : decode cL_law 700 = .ok (.iadd, 1) := by decide +kernel
theorem dL_law_701 : decode cL_law 701 = .ok (.iaload, 1) := by decide +kernel
theorem dL_law_702 : decode cL_law 702 = .ok (.invokevirtual 99, 3) := by decide +kernel
theorem dL_law_705 : decode cL_law 705 = .ok (.f2d, 1) := by decide +kernel
theorem dL_law_706 : decode cL_law 706 = .ok (.dstore 4, 2) := by decide +kernel
theorem dL_law_708 : decode cL_law 708 = .ok (.aload_n 2, 1) := by decide +kernel
theorem dL_law_709 : decode cL_law 709 = .ok (.aload_n 0, 1) := by decide +kernel
theorem dL_law_710 : decode cL_law 710 = .ok (.iload_n 3, 1) := by decide +kernel
theorem dL_law_711 : decode cL_law 711 = .ok (.iconst 1, 1) := by decide +kernel
theorem dL_law_712 : decode cL_law 712 = .ok (.iadd, 1) := by decide +kernel
theorem dL_law_713 : decode cL_law 713 = .ok (.iaload, 1) := by decide +kernel
theorem dL_law_714 : decode cL_law 714 = .ok (.invokevirtual 102, 3) := by decide +kernel
theorem dL_law_717 : decode cL_law 717 = .ok (.f2d, 1) := by decide +kernel
theorem dL_law_718 : decode cL_law 718 = .ok (.dstore 6, 2) := by decide +kernel
theorem dL_law_720 : decode cL_law 720 = .ok (.dload 4, 2) := by decide +kernel
theorem dL_law_722 : decode cL_law 722 = .ok (.dload 6, 2) := by decide +kernel
theorem dL_law_724 : decode cL_law 724 = .ok (.dcmp .l, 1) := by decide +kernel
theorem dL_law_725 : decode cL_law 725 = .ok (.ifCond .eq 21, 3) := by decide +kernel
theorem dL_law_728 : decode cL_law 728 = .ok (.dload 4, 2) := by decide +kernel
theorem dL_law_730 : decode cL_law 730 = .ok (.dload 4, 2) := by decide +kernel
theorem dL_law_732 : decode cL_law 732 = .ok (.dcmp .l, 1) := by decide +kernel
theorem dL_law_733 : decode cL_law 733 = .ok (.ifCond .eq 11, 3) := by decide +kernel
theorem dL_law_736 : decode cL_law 736 = .ok (.dload 6, 2) := by decide +kernel
theorem dL_law_738 : decode cL_law 738 = .ok (.dload 6, 2) := by decide +kernel
theorem dL_law_740 : decode cL_law 740 = .ok (.dcmp .l, 1) := by decide +kernel
theorem dL_law_741 : decode cL_law 741 = .ok (.ifCond .ne 5, 3) := by decide +kernel
theorem dL_law_744 : decode cL_law 744 = .ok (.iconst 0, 1) := by decide +kernel
theorem dL_law_745 : decode cL_law 745 = .ok (.ireturn, 1) := by decide +kernel
theorem dL_law_746 : decode cL_law 746 = .ok (.goto 317, 3) := by decide +kernel
theorem dL_law_749 : decode cL_law 749 = .ok (.aload_n 1, 1) := by decide +kernel
theorem dL_law_750 : decode cL_law 750 = .ok (.aload_n 0, 1) := by decide +kernel
theorem dL_law_751 : decode cL_law 751 = .ok (.iload_n 3, 1) := by decide +kernel
theorem dL_law_752 : decode cL_law 752 = .ok (.iconst 1, 1) := by decide +kernel
theorem dL_law_753 : decode cL_law 753 = .ok (.iadd, 1) := by decide +kernel
theorem dL_law_754 : decode cL_law 754 = .ok (.iaload, 1) := by decide +kernel
theorem dL_law_755 : decode cL_law 755 = .ok (.invokevirtual 103, 3) := by decide +kernel
theorem dL_law_758 : decode cL_law 758 = .ok (.f2d, 1) := by decide +kernel
theorem dL_law_759 : decode cL_law 759 = .ok (.dstore 4, 2) := by decide +kernel
theorem dL_law_761 : decode cL_law 761 = .ok (.aload_n 2, 1) := by decide +kernel
theorem dL_law_762 : decode cL_law 762 = .ok (.aload_n 0, 1) := by decide +kernel
theorem dL_law_763 : decode cL_law 763 = .ok (.iload_n 3, 1) := by decide +kernel
theorem dL_law_764 : decode cL_law 764 = .ok (.iconst 1, 1) := by decide +kernel
theorem dL_law_765 : decode cL_law 765 = .ok (.iadd, 1) := by decide +kernel
theorem dL_law_766 : decode cL_law 766 = .ok (.iaload, 1) := by decide +kernel
theorem dL_law_767 : decode cL_law 767 = .ok (.invokevirtual 106, 3) := by decide +kernel
theorem dL_law_770 : decode cL_law 770 = .ok (.f2d, 1) := by decide +kernel
theorem dL_law_771 : decode cL_law 771 = .ok (.dstore 6, 2) := by decide +kernel
theorem dL_law_773 : decode cL_law 773 = .ok (.dload 4, 2) := by decide +kernel
theorem dL_law_775 : decode cL_law 775 = .ok (.dload 6, 2) := by decide +kernel
theorem dL_law_777 : decode cL_law 777 = .ok (.dcmp .l, 1) := by decide +kernel
theorem dL_law_778 : decode cL_law 778 = .ok (.ifCond .eq 21, 3) := by decide +kernel
theorem dL_law_781 : decode cL_law 781 = .ok (.dload 4, 2) := by decide +kernel
theorem dL_law_783 : decode cL_law 783 = .ok (.dload 4, 2) := by decide +kernel
theorem dL_law_785 : decode cL_law 785 = .ok (.dcmp .l, 1) := by decide +kernel
theorem dL_law_786 : decode cL_law 786 = .ok (.ifCond .eq 11, 3) := by decide +kernel
theorem dL_law_789 : decode cL_law 789 = .ok (.dload 6, 2) := by decide +kernel
theorem dL_law_791 : decode cL_law 791 = .ok (.dload 6, 2) := by decide +kernel
theorem dL_law_793 : decode cL_law 793 = .ok (.dcmp .l, 1) := by decide +kernel
theorem dL_law_794 : decode cL_law 794 = .ok (.ifCond .ne 5, 3) := by decide +kernel
theorem dL_law_797 : decode cL_law 797 = .ok (.iconst 0, 1) := by decide +kernel
theorem dL_law_798 : decode cL_law 798 = .ok (.ireturn, 1) := by decide +kernel
theorem dL_law_799 : decode cL_law 799 = .ok (.goto 264, 3) := by decide +kernel
theorem dL_law_802 : decode cL_law 802 = .ok (.aload_n 1, 1) := by decide +kernel
theorem dL_law_803 : decode cL_law 803 = .ok (.aload_n 0, 1) := by decide +kernel
theorem dL_law_804 : decode cL_law 804 = .ok (.iload_n 3, 1) := by decide +kernel
theorem dL_law_805 : decode cL_law 805 = .ok (.iconst 1, 1) := by decide +kernel
theorem dL_law_806 : decode cL_law 806 = .ok (.iadd, 1) := by decide +kernel
theorem dL_law_807 : decode cL_law 807 = .ok (.iaload, 1) := by decide +kernel
theorem dL_law_808 : decode cL_law 808 = .ok (.aload_n 0, 1) := by decide +kernel
theorem dL_law_809 : decode cL_law 809 = .ok (.iload_n 3, 1) := by decide +kernel
theorem dL_law_810 : decode cL_law 810 = .ok (.iconst 2, 1) := by decide +kernel
theorem dL_law_811 : decode cL_law 811 = .ok (.iadd, 1) := by decide +kernel
theorem dL_law_812 : decode cL_law 812 = .ok (.iaload, 1) := by decide +kernel
theorem dL_law_813 : decode cL_law 813 = .ok (.invokevirtual 107, 3) := by decide +kernel
theorem dL_law_816 : decode cL_law 816 = .ok (.aload_n 2, 1) := by decide +kernel
theorem dL_law_817 : decode cL_law 817 = .ok (.aload_n 0, 1) := by decide +kernel
theorem dL_law_818 : decode cL_law 818 = .ok (.iload_n 3, 1) := by decide +kernel
theorem dL_law_819 : decode cL_law 819 = .ok (.iconst 1, 1) := by decide +kernel
theorem dL_law_820 : decode cL_law 820 = .ok (.iadd, 1) := by decide +kernel
theorem dL_law_821 : decode cL_law 821 = .ok (.iaload, 1) := by decide +kernel
theorem dL_law_822 : decode cL_law 822 = .ok (.aload_n 0, 1) := by decide +kernel
theorem dL_law_823 : decode cL_law 823 = .ok (.iload_n 3, 1) := by decide +kernel
theorem dL_law_824 : decode cL_law 824 = .ok (.iconst 2, 1) := by decide +kernel
theorem dL_law_825 : decode cL_law 825 = .ok (.iadd, 1) := by decide +kernel
theorem dL_law_826 : decode cL_law 826 = .ok (.iaload, 1) := by decide +kernel
theorem dL_law_827 : decode cL_law 827 = .ok (.invokevirtual 110, 3) := by decide +kernel
theorem dL_law_830 : decode cL_law 830 = .ok (.if_icmp .eq 233, 3) := by decide +kernel
theorem dL_law_833 : decode cL_law 833 = .ok (.iconst 0, 1) := by decide +kernel
theorem dL_law_834 : decode cL_law 834 = .ok (.ireturn, 1) := by decide +kernel
theorem dL_law_835 : decode cL_law 835 = .ok (.aload_n 1, 1) := by decide +kernel
theorem dL_law_836 : decode cL_law 836 = .ok (.aload_n 0, 1) := by decide +kernel
theorem dL_law_837 : decode cL_law 837 = .ok (.iload_n 3, 1) := by decide +kernel
theorem dL_law_838 : decode cL_law 838 = .ok (.iconst 1, 1) := by decide +kernel
theorem dL_law_839 : decode cL_law 839 = .ok (.iadd, 1) := by decide +kernel
theorem dL_law_840 : decode cL_law 840 = .ok (.iaload, 1) := by decide +kernel
theorem dL_law_841 : decode cL_law 841 = .ok (.aload_n 0, 1) := by decide +kernel
theorem dL_law_842 : decode cL_law 842 = .ok (.iload_n 3, 1) := by decide +kernel
theorem dL_law_843 : decode cL_law 843 = .ok (.iconst 2, 1) := by decide +kernel
theorem dL_law_844 : decode cL_law 844 = .ok (.iadd, 1) := by decide +kernel
theorem dL_law_845 : decode cL_law 845 = .ok (.iaload, 1) := by decide +kernel
theorem dL_law_846 : decode cL_law 846 = .ok (.invokevirtual 111, 3) := by decide +kernel
theorem dL_law_849 : decode cL_law 849 = .ok (.f2d, 1) := by decide +kernel
theorem dL_law_850 : decode cL_law 850 = .ok (.dstore 4, 2) := by decide +kernel
theorem dL_law_852 : decode cL_law 852 = .ok (.aload_n 2, 1) := by decide +kernel
theorem dL_law_853 : decode cL_law 853 = .ok (.aload_n 0, 1) := by decide +kernel
theorem dL_law_854 : decode cL_law 854 = .ok (.iload_n 3, 1) := by decide +kernel
theorem dL_law_855 : decode cL_law 855 = .ok (.iconst 1, 1) := by decide +kernel
theorem dL_law_856 : decode cL_law 856 = .ok (.iadd, 1) := by decide +kernel
theorem dL_law_857 : decode cL_law 857 = .ok (.iaload, 1) := by decide +kernel
theorem dL_law_858 : decode cL_law 858 = .ok (.aload_n 0, 1) := by decide +kernel
theorem dL_law_859 : decode cL_law 859 = .ok (.iload_n 3, 1) := by decide +kernel
theorem dL_law_860 : decode cL_law 860 = .ok (.iconst 2, 1) := by decide +kernel
theorem dL_law_861 : decode cL_law 861 = .ok (.iadd, 1) := by decide +kernel
theorem dL_law_862 : decode cL_law 862 = .ok (.iaload, 1) := by decide +kernel
theorem dL_law_863 : decode cL_law 863 = .ok (.invokevirtual 115, 3) := by decide +kernel
theorem dL_law_866 : decode cL_law 866 = .ok (.f2d, 1) := by decide +kernel
theorem dL_law_867 : decode cL_law 867 = .ok (.dstore 6, 2) := by decide +kernel
theorem dL_law_869 : decode cL_law 869 = .ok (.dload 4, 2) := by decide +kernel
theorem dL_law_871 : decode cL_law 871 = .ok (.dload 6, 2) := by decide +kernel
theorem dL_law_873 : decode cL_law 873 = .ok (.dcmp .l, 1) := by decide +kernel
theorem dL_law_874 : decode cL_law 874 = .ok (.ifCond .eq 21, 3) := by decide +kernel
theorem dL_law_877 : decode cL_law 877 = .ok (.dload 4, 2) := by decide +kernel
theorem dL_law_879 : decode cL_law 879 = .ok (.dload 4, 2) := by decide +kernel
theorem dL_law_881 : decode cL_law 881 = .ok (.dcmp .l, 1) := by decide +kernel
theorem dL_law_882 : decode cL_law 882 = .ok (.ifCond .eq 11, 3) := by decide +kernel
theorem dL_law_885 : decode cL_law 885 = .ok (.dload 6, 2) := by decide +kernel
theorem dL_law_887 : decode cL_law 887 = .ok (.dload 6, 2) := by decide +kernel
theorem dL_law_889 : decode cL_law 889 = .ok (.dcmp .l, 1) := by decide +kernel
theorem dL_law_890 : decode cL_law 890 = .ok (.ifCond .ne 5, 3) := by decide +kernel
theorem dL_law_893 : decode cL_law 893 = .ok (.iconst 0, 1) := by decide +kernel
theorem dL_law_894 : decode cL_law 894 = .ok (.ireturn, 1) := by decide +kernel
theorem dL_law_895 : decode cL_law 895 = .ok (.goto 168, 3) := by decide +kernel
theorem dL_law_898 : decode cL_law 898 = .ok (.aload_n 1, 1) := by decide +kernel
theorem dL_law_899 : decode cL_law 899 = .ok (.aload_n 0, 1) := by decide +kernel
theorem dL_law_900 : decode cL_law 900 = .ok (.iload_n 3, 1) := by decide +kernel
theorem dL_law_901 : decode cL_law 901 = .ok (.iconst 1, 1) := by decide +kernel
theorem dL_law_902 : decode cL_law 902 = .ok (.iadd, 1) := by decide +kernel
theorem dL_law_903 : decode cL_law 903 = .ok (.iaload, 1) := by decide +kernel
theorem dL_law_904 : decode cL_law 904 = .ok (.invokevirtual 116, 3) := by decide +kernel
theorem dL_law_907 : decode cL_law 907 = .ok (.f2d, 1) := by decide +kernel
theorem dL_law_908 : decode cL_law 908 = .ok (.dstore 4, 2) := by decide +kernel
theorem dL_law_910 : decode cL_law 910 = .ok (.aload_n 2, 1) := by decide +kernel
theorem dL_law_911 : decode cL_law 911 = .ok (.aload_n 0, 1) := by decide +kernel
theorem dL_law_912 : decode cL_law 912 = .ok (.iload_n 3, 1) := by decide +kernel
theorem dL_law_913 : decode cL_law 913 = .ok (.iconst 1, 1) := by decide +kernel
theorem dL_law_914 : decode cL_law 914 = .ok (.iadd, 1) := by decide +kernel
theorem dL_law_915 : decode cL_law 915 = .ok (.iaload, 1) := by decide +kernel
theorem dL_law_916 : decode cL_law 916 = .ok (.invokevirtual 119, 3) := by decide +kernel
theorem dL_law_919 : decode cL_law 919 = .ok (.f2d, 1) := by decide +kernel
theorem dL_law_920 : decode cL_law 920 = .ok (.dstore 6, 2) := by decide +kernel
theorem dL_law_922 : decode cL_law 922 = .ok (.dload 4, 2) := by decide +kernel
theorem dL_law_924 : decode cL_law 924 = .ok (.dload 6, 2) := by decide +kernel
theorem dL_law_926 : decode cL_law 926 = .ok (.dcmp .l, 1) := by decide +kernel
theorem dL_law_927 : decode cL_law 927 = .ok (.ifCond .eq 21, 3) := by decide +kernel
theorem dL_law_930 : decode cL_law 930 = .ok (.dload 4, 2) := by decide +kernel
theorem dL_law_932 : decode cL_law 932 = .ok (.dload 4, 2) := by decide +kernel
theorem dL_law_934 : decode cL_law 934 = .ok (.dcmp .l, 1) := by decide +kernel
theorem dL_law_935 : decode cL_law 935 = .ok (.ifCond .eq 11, 3) := by decide +kernel
theorem dL_law_938 : decode cL_law 938 = .ok (.dload 6, 2) := by decide +kernel
theorem dL_law_940 : decode cL_law 940 = .ok (.dload 6, 2) := by decide +kernel
theorem dL_law_942 : decode cL_law 942 = .ok (.dcmp .l, 1) := by decide +kernel
theorem dL_law_943 : decode cL_law 943 = .ok (.ifCond .ne 5, 3) := by decide +kernel
theorem dL_law_946 : decode cL_law 946 = .ok (.iconst 0, 1) := by decide +kernel
theorem dL_law_947 : decode cL_law 947 = .ok (.ireturn, 1) := by decide +kernel
theorem dL_law_948 : decode cL_law 948 = .ok (.goto 115, 3) := by decide +kernel
theorem dL_law_951 : decode cL_law 951 = .ok (.aload_n 1, 1) := by decide +kernel
theorem dL_law_952 : decode cL_law 952 = .ok (.aload_n 0, 1) := by decide +kernel
theorem dL_law_953 : decode cL_law 953 = .ok (.iload_n 3, 1) := by decide +kernel
theorem dL_law_954 : decode cL_law 954 = .ok (.iconst 1, 1) := by decide +kernel
theorem dL_law_955 : decode cL_law 955 = .ok (.iadd, 1) := by decide +kernel
theorem dL_law_956 : decode cL_law 956 = .ok (.iaload, 1) := by decide +kernel
theorem dL_law_957 : decode cL_law 957 = .ok (.invokevirtual 120, 3) := by decide +kernel
theorem dL_law_960 : decode cL_law 960 = .ok (.aload_n 2, 1) := by decide +kernel
theorem dL_law_961 : decode cL_law 961 = .ok (.aload_n 0, 1) := by decide +kernel
theorem dL_law_962 : decode cL_law 962 = .ok (.iload_n 3, 1) := by decide +kernel
theorem dL_law_963 : decode cL_law 963 = .ok (.iconst 1, 1) := by decide +kernel
theorem dL_law_964 : decode cL_law 964 = .ok (.iadd, 1) := by decide +kernel
theorem dL_law_965 : decode cL_law 965 = .ok (.iaload, 1) := by decide +kernel
theorem dL_law_966 : decode cL_law 966 = .ok (.invokevirtual 123, 3) := by decide +kernel
theorem dL_law_969 : decode cL_law 969 = .ok (.if_icmp .eq 94, 3) := by decide +kernel
theorem dL_law_972 : decode cL_law 972 = .ok (.iconst 0, 1) := by decide +kernel
theorem dL_law_973 : decode cL_law 973 = .ok (.ireturn, 1) := by decide +kernel
theorem dL_law_974 : decode cL_law 974 = .ok (.aload_n 1, 1) := by decide +kernel
theorem dL_law_975 : decode cL_law 975 = .ok (.aload_n 0, 1) := by decide +kernel
theorem dL_law_976 : decode cL_law 976 = .ok (.iload_n 3, 1) := by decide +kernel
theorem dL_law_977 : decode cL_law 977 = .ok (.iconst 1, 1) := by decide +kernel
theorem dL_law_978 : decode cL_law 978 = .ok (.iadd, 1) := by decide +kernel
theorem dL_law_979 : decode cL_law 979 = .ok (.iaload, 1) := by decide +kernel
theorem dL_law_980 : decode cL_law 980 = .ok (.invokevirtual 124, 3) := by decide +kernel
theorem dL_law_983 : decode cL_law 983 = .ok (.aload_n 2, 1) := by decide +kernel
theorem dL_law_984 : decode cL_law 984 = .ok (.aload_n 0, 1) := by decide +kernel
theorem dL_law_985 : decode cL_law 985 = .ok (.iload_n 3, 1) := by decide +kernel
theorem dL_law_986 : decode cL_law 986 = .ok (.iconst 1, 1) := by decide +kernel
theorem dL_law_987 : decode cL_law 987 = .ok (.iadd, 1) := by decide +kernel
theorem dL_law_988 : decode cL_law 988 = .ok (.iaload, 1) := by decide +kernel
theorem dL_law_989 : decode cL_law 989 = .ok (.invokevirtual 127, 3) := by decide +kernel
theorem dL_law_992 : decode cL_law 992 = .ok (.if_icmp .eq 71, 3) := by decide +kernel
theorem dL_law_995 : decode cL_law 995 = .ok (.iconst 0, 1) := by decide +kernel
theorem dL_law_996 : decode cL_law 996 = .ok (.ireturn, 1) := by decide +kernel
theorem dL_law_997 : decode cL_law 997 = .ok (.aload_n 1, 1) := by decide +kernel
theorem dL_law_998 : decode cL_law 998 = .ok (.invokevirtual 128, 3) := by decide +kernel
theorem dL_law_1001 : decode cL_law 1001 = .ok (.f2d, 1) := by decide +kernel
theorem dL_law_1002 : decode cL_law 1002 = .ok (.dstore 4, 2) := by decide +kernel
theorem dL_law_1004 : decode cL_law 1004 = .ok (.aload_n 2, 1) := by decide +kernel
theorem dL_law_1005 : decode cL_law 1005 = .ok (.invokevirtual 132, 3) := by decide +kernel
theorem dL_law_1008 : decode cL_law 1008 = .ok (.f2d, 1) := by decide +kernel
theorem dL_law_1009 : decode cL_law 1009 = .ok (.dstore 6, 2) := by decide +kernel
theorem dL_law_1011 : decode cL_law 1011 = .ok (.dload 4, 2) := by decide +kernel
theorem dL_law_1013 : decode cL_law 1013 = .ok (.dload 6, 2) := by decide +kernel
theorem dL_law_1015 : decode cL_law 1015 = .ok (.dcmp .l, 1) := by decide +kernel
theorem dL_law_1016 : decode cL_law 1016 = .ok (.ifCond .eq 21, 3) := by decide +kernel
theorem dL_law_1019 : decode cL_law 1019 = .ok (.dload 4, 2) := by decide +kernel
theorem dL_law_1021 : decode cL_law 1021 = .ok (.dload 4, 2) := by decide +kernel
theorem dL_law_1023 : decode cL_law 1023 = .ok (.dcmp .l, 1) := by decide +kernel
theorem dL_law_1024 : decode cL_law 1024 = .ok (.ifCond .eq 11, 3) := by decide +kernel
theorem dL_law_1027 : decode cL_law 1027 = .ok (.dload 6, 2) := by decide +kernel
theorem dL_law_1029 : decode cL_law 1029 = .ok (.dload 6, 2) := by decide +kernel
theorem dL_law_1031 : decode cL_law 1031 = .ok (.dcmp .l, 1) := by decide +kernel
theorem dL_law_1032 : decode cL_law 1032 = .ok (.ifCond .ne 5, 3) := by decide +kernel
theorem dL_law_1035 : decode cL_law 1035 = .ok (.iconst 0, 1) := by decide +kernel
theorem dL_law_1036 : decode cL_law 1036 = .ok (.ireturn, 1) := by decide +kernel
theorem dL_law_1037 : decode cL_law 1037 = .ok (.goto 26, 3) := by decide +kernel
theorem dL_law_1040 : decode cL_law 1040 = .ok (.aload_n 1, 1) := by decide +kernel
theorem dL_law_1041 : decode cL_law 1041 = .ok (.aload_n 0, 1) := by decide +kernel
theorem dL_law_1042 : decode cL_law 1042 = .ok (.iload_n 3, 1) := by decide +kernel
theorem dL_law_1043 : decode cL_law 1043 = .ok (.iconst 1, 1) := by decide +kernel
theorem dL_law_1044 : decode cL_law 1044 = .ok (.iadd, 1) := by decide +kernel
theorem dL_law_1045 : decode cL_law 1045 = .ok (.iaload, 1) := by decide +kernel
theorem dL_law_1046 : decode cL_law 1046 = .ok (.invokevirtual 133, 3) := by decide +kernel
theorem dL_law_1049 : decode cL_law 1049 = .ok (.aload_n 2, 1) := by decide +kernel
theorem dL_law_1050 : decode cL_law 1050 = .ok (.aload_n 0, 1) := by decide +kernel
theorem dL_law_1051 : decode cL_law 1051 = .ok (.iload_n 3, 1) := by decide +kernel
theorem dL_law_1052 : decode cL_law 1052 = .ok (.iconst 1, 1) := by decide +kernel
theorem dL_law_1053 : decode cL_law 1053 = .ok (.iadd, 1) := by decide +kernel
theorem dL_law_1054 : decode cL_law 1054 = .ok (.iaload, 1) := by decide +kernel
theorem dL_law_1055 : decode cL_law 1055 = .ok (.invokevirtual 136, 3) := by decide +kernel
theorem dL_law_1058 : decode cL_law 1058 = .ok (.if_icmp .eq 5, 3) := by decide +kernel
theorem dL_law_1061 : decode cL_law 1061 = .ok (.iconst 0, 1) := by decide +kernel
theorem dL_law_1062 : decode cL_law 1062 = .ok (.ireturn, 1) := by decide +kernel
theorem dL_law_1063 : decode cL_law 1063 = .ok (.iinc 3 5, 3) := by decide +kernel
theorem dL_law_1066 : decode cL_law 1066 = .ok (.goto (-1048), 3) := by decide +kernel
theorem dL_law_1069 : decode cL_law 1069 = .ok (.iconst 1, 1) := by decide +kernel
theorem dL_law_1070 : decode cL_law 1070 = .ok (.ireturn, 1) := by decide +kernel
end
section
def jAll : List Cond := lw_tbl.filter goodWord
theorem jm_1 {w : Cond} (h : w ∈ tables_1_1) (hg : goodWord w = true) : w ∈ jAll := List.mem_filter.mpr ⟨List.mem_append_right _ (List.mem_append_left _ h), hg⟩
theorem jm_2 {w : Cond} (h : w ∈ tables_1_2) (hg : goodWord w = true) : w ∈ jAll := List.mem_filter.mpr ⟨List.mem_append_right _ (List.mem_append_right _ (List.mem_append_left _ h)), hg⟩
theorem jm_3 {w : Cond} (h : w ∈ tables_1_3) (hg : goodWord w = true) : w ∈ jAll := List.mem_filter.mpr ⟨List.mem_append_right _ (List.mem_append_right _ (List.mem_append_right _ (List.mem_append_left _ h))), hg⟩
theorem jm_4 {w : Cond} (h : w ∈ tables_1_4) (hg : goodWord w = true) : w ∈ jAll := List.mem_filter.mpr ⟨List.mem_append_right _ (List.mem_append_right _ (List.mem_append_right _ (List.mem_append_right _ h))), hg⟩
theorem jm_p {w : Cond} (h : w ∈ k2_sels lw_privs) (hg : goodWord w = true) : w ∈ jAll := List.mem_filter.mpr ⟨List.mem_append_left _ h, hg⟩
theorem jgood {ws : List Cond} (h : ∀ w ∈ ws, w ∈ jAll) : GoodIn jAll ws := fun w hw => ⟨h w hw, good_of_word (List.mem_filter.mp (h w hw)).2⟩
theorem q_0 : Cond.initialized RL ∈ jAll := jm_1 (List.mem_of_getElem? (i := 0) rfl) rfl
theorem q_1 : Cond.initialized RX7 ∈ jAll := jm_1 (List.mem_of_getElem? (i := 1) rfl) rfl
theorem q_2 : Cond.initialized RX0 ∈ jAll := jm_1 (List.mem_of_getElem? (i := 2) rfl) rfl
theorem q_3 : Cond.initialized RX4 ∈ jAll := jm_1 (List.mem_of_getElem? (i := 3) rfl) rfl
theorem q_4 : Cond.initialized RX1 ∈ jAll := jm_1 (List.mem_of_getElem? (i := 4) rfl) rfl
theorem q_5 : Cond.initialized RX3 ∈ jAll := jm_1 (List.mem_of_getElem? (i := 5) rfl) rfl
theorem q_6 : Cond.initialized RX2 ∈ jAll := jm_1 (List.mem_of_getElem? (i := 6) rfl) rfl
theorem q_7 : Cond.initialized RX6 ∈ jAll := jm_1 (List.mem_of_getElem? (i := 7) rfl) rfl
theorem q_8 : Cond.initialized RX5 ∈ jAll := jm_1 (List.mem_of_getElem? (i := 8) rfl) rfl
theorem q_9 : Cond.initialized RX8 ∈ jAll := jm_1 (List.mem_of_getElem? (i := 9) rfl) rfl
theorem q_10 : Cond.classLink RL 7 RX7 ∈ jAll := jm_1 (List.mem_of_getElem? (i := 10) rfl) rfl
theorem q_11 : Cond.instantiable RX7 9 ∈ jAll := jm_1 (List.mem_of_getElem? (i := 11) rfl) rfl
theorem q_12 : Cond.methodLink RL 9 yX7_init ∈ jAll := jm_1 (List.mem_of_getElem? (i := 12) rfl) rfl
theorem q_13 : Cond.instanceMethod yX7_init ∈ jAll := jm_1 (List.mem_of_getElem? (i := 13) rfl) rfl
theorem q_14 : Cond.code yX7_init cX7_init 1 (none : Option FieldType) ∈ jAll := jm_1 (List.mem_of_getElem? (i := 14) rfl) rfl
theorem q_15 : Cond.methodLink RX7 1 objectInit ∈ jAll := jm_1 (List.mem_of_getElem? (i := 15) rfl) rfl
theorem q_16 : Cond.instanceMethod objectInit ∈ jAll := jm_1 (List.mem_of_getElem? (i := 16) rfl) rfl
theorem q_17 : Cond.code objectInit object_method_1_code 1 (none : Option FieldType) ∈ jAll := jm_1 (List.mem_of_getElem? (i := 17) rfl) rfl
theorem q_18 : Cond.classLink RX7 7 RX0 ∈ jAll := jm_1 (List.mem_of_getElem? (i := 18) rfl) rfl
theorem q_19 : Cond.instantiable RX0 11 ∈ jAll := jm_1 (List.mem_of_getElem? (i := 19) rfl) rfl
theorem q_20 : Cond.methodLink RX7 9 yX0_init ∈ jAll := jm_1 (List.mem_of_getElem? (i := 20) rfl) rfl
theorem q_21 : Cond.instanceMethod yX0_init ∈ jAll := jm_1 (List.mem_of_getElem? (i := 21) rfl) rfl
theorem q_22 : Cond.code yX0_init cX0_init 1 (none : Option FieldType) ∈ jAll := jm_1 (List.mem_of_getElem? (i := 22) rfl) rfl
theorem q_23 : Cond.methodLink RX0 3 objectInit ∈ jAll := jm_1 (List.mem_of_getElem? (i := 23) rfl) rfl
theorem q_24 : Cond.classLink RX0 9 RX4 ∈ jAll := jm_1 (List.mem_of_getElem? (i := 24) rfl) rfl
theorem q_25 : Cond.instantiable RX4 5 ∈ jAll := jm_1 (List.mem_of_getElem? (i := 25) rfl) rfl
theorem q_27 : Cond.instanceMethod yX4_init ∈ jAll := jm_1 (List.mem_of_getElem? (i := 27) rfl) rfl
theorem q_28 : Cond.code yX4_init cX4_init 1 (none : Option FieldType) ∈ jAll := jm_1 (List.mem_of_getElem? (i := 28) rfl) rfl
theorem q_29 : Cond.methodLink RX4 3 objectInit ∈ jAll := jm_1 (List.mem_of_getElem? (i := 29) rfl) rfl
theorem q_30 : Cond.fieldLink RX4 9 RX4 "weight" "[I" ∈ jAll := jm_1 (List.mem_of_getElem? (i := 30) rfl) rfl
theorem q_31 : Cond.fieldLink RX0 143 RX4 "weight" "[I" ∈ jAll := jm_1 (List.mem_of_getElem? (i := 31) rfl) rfl
theorem q_32 : Cond.fieldLink RX7 178 RX4 "weight" "[I" ∈ jAll := jm_1 (List.mem_of_getElem? (i := 32) rfl) rfl
theorem q_33 : Cond.fieldLink RX4 15 RX4 "dues" "[I" ∈ jAll := jm_1 (List.mem_of_getElem? (i := 33) rfl) rfl
theorem q_34 : Cond.fieldLink RX7 93 RX4 "dues" "[I" ∈ jAll := jm_1 (List.mem_of_getElem? (i := 34) rfl) rfl
theorem q_35 : Cond.fieldLink RX4 18 RX4 "purse" "[I" ∈ jAll := jm_1 (List.mem_of_getElem? (i := 35) rfl) rfl
theorem q_36 : Cond.fieldLink RX7 181 RX4 "purse" "[I" ∈ jAll := jm_1 (List.mem_of_getElem? (i := 36) rfl) rfl
theorem q_37 : Cond.fieldLink RX4 21 RX4 "borne" "[I" ∈ jAll := jm_1 (List.mem_of_getElem? (i := 37) rfl) rfl
theorem q_38 : Cond.fieldLink RX7 191 RX4 "borne" "[I" ∈ jAll := jm_1 (List.mem_of_getElem? (i := 38) rfl) rfl
theorem q_39 : Cond.fieldLink RX4 24 RX4 "size" "I" ∈ jAll := jm_1 (List.mem_of_getElem? (i := 39) rfl) rfl
theorem q_40 : Cond.fieldLink RX7 79 RX4 "size" "I" ∈ jAll := jm_1 (List.mem_of_getElem? (i := 40) rfl) rfl
theorem q_41 : Cond.laysFinal RX4 RX4 "weight" "[I" ∈ jAll := jm_1 (List.mem_of_getElem? (i := 41) rfl) rfl
theorem q_43 : Cond.laysFinal RX4 RX4 "dues" "[I" ∈ jAll := jm_1 (List.mem_of_getElem? (i := 43) rfl) rfl
theorem q_45 : Cond.laysFinal RX4 RX4 "purse" "[I" ∈ jAll := jm_1 (List.mem_of_getElem? (i := 45) rfl) rfl
theorem q_47 : Cond.laysFinal RX4 RX4 "borne" "[I" ∈ jAll := jm_1 (List.mem_of_getElem? (i := 47) rfl) rfl
theorem q_49 : Cond.lays RX4 RX4 "size" "I" ∈ jAll := jm_1 (List.mem_of_getElem? (i := 49) rfl) rfl
theorem q_51 : Cond.superclass RX4 "java/lang/Object" ∈ jAll := jm_1 (List.mem_of_getElem? (i := 51) rfl) rfl
theorem q_52 : Cond.arrayClass FieldType.int ∈ jAll := jm_1 (List.mem_of_getElem? (i := 52) rfl) rfl
theorem q_53 : Cond.classLink RX0 18 RX1 ∈ jAll := jm_1 (List.mem_of_getElem? (i := 53) rfl) rfl
theorem q_54 : Cond.instantiable RX1 3 ∈ jAll := jm_1 (List.mem_of_getElem? (i := 54) rfl) rfl
theorem q_56 : Cond.instanceMethod yX1_init ∈ jAll := jm_1 (List.mem_of_getElem? (i := 56) rfl) rfl
theorem q_57 : Cond.code yX1_init cX1_init 1 (none : Option FieldType) ∈ jAll := jm_1 (List.mem_of_getElem? (i := 57) rfl) rfl
theorem q_58 : Cond.methodLink RX1 3 objectInit ∈ jAll := jm_1 (List.mem_of_getElem? (i := 58) rfl) rfl
theorem q_59 : Cond.fieldLink RX1 9 RX1 "settled" "[I" ∈ jAll := jm_1 (List.mem_of_getElem? (i := 59) rfl) rfl
theorem q_60 : Cond.fieldLink RX7 194 RX1 "settled" "[I" ∈ jAll := jm_1 (List.mem_of_getElem? (i := 60) rfl) rfl
theorem q_61 : Cond.fieldLink RX1 15 RX1 "lost" "[I" ∈ jAll := jm_1 (List.mem_of_getElem? (i := 61) rfl) rfl
theorem q_62 : Cond.fieldLink RX7 197 RX1 "lost" "[I" ∈ jAll := jm_1 (List.mem_of_getElem? (i := 62) rfl) rfl
theorem q_63 : Cond.fieldLink RX1 18 RX1 "daysLate" "[I" ∈ jAll := jm_1 (List.mem_of_getElem? (i := 63) rfl) rfl
theorem q_64 : Cond.fieldLink RX7 200 RX1 "daysLate" "[I" ∈ jAll := jm_1 (List.mem_of_getElem? (i := 64) rfl) rfl
theorem q_65 : Cond.laysFinal RX1 RX1 "settled" "[I" ∈ jAll := jm_1 (List.mem_of_getElem? (i := 65) rfl) rfl
theorem q_67 : Cond.laysFinal RX1 RX1 "lost" "[I" ∈ jAll := jm_1 (List.mem_of_getElem? (i := 67) rfl) rfl
theorem q_69 : Cond.laysFinal RX1 RX1 "daysLate" "[I" ∈ jAll := jm_1 (List.mem_of_getElem? (i := 69) rfl) rfl
theorem q_71 : Cond.superclass RX1 "java/lang/Object" ∈ jAll := jm_1 (List.mem_of_getElem? (i := 71) rfl) rfl
theorem q_72 : Cond.classLink RX0 25 RX3 ∈ jAll := jm_1 (List.mem_of_getElem? (i := 72) rfl) rfl
theorem q_73 : Cond.instantiable RX3 8 ∈ jAll := jm_1 (List.mem_of_getElem? (i := 73) rfl) rfl
theorem q_75 : Cond.instanceMethod yX3_init ∈ jAll := jm_1 (List.mem_of_getElem? (i := 75) rfl) rfl
theorem q_76 : Cond.code yX3_init cX3_init 1 (none : Option FieldType) ∈ jAll := jm_1 (List.mem_of_getElem? (i := 76) rfl) rfl
theorem q_77 : Cond.methodLink RX3 3 objectInit ∈ jAll := jm_1 (List.mem_of_getElem? (i := 77) rfl) rfl
theorem q_78 : Cond.fieldLink RX3 9 RX3 "member" "[I" ∈ jAll := jm_1 (List.mem_of_getElem? (i := 78) rfl) rfl
theorem q_79 : Cond.fieldLink RX0 107 RX3 "member" "[I" ∈ jAll := jm_1 (List.mem_of_getElem? (i := 79) rfl) rfl
theorem q_80 : Cond.fieldLink RX7 212 RX3 "member" "[I" ∈ jAll := jm_1 (List.mem_of_getElem? (i := 80) rfl) rfl
theorem q_81 : Cond.fieldLink RX3 15 RX3 "client" "[I" ∈ jAll := jm_1 (List.mem_of_getElem? (i := 81) rfl) rfl
theorem q_82 : Cond.fieldLink RX0 72 RX3 "client" "[I" ∈ jAll := jm_1 (List.mem_of_getElem? (i := 82) rfl) rfl
theorem q_83 : Cond.fieldLink RX7 215 RX3 "client" "[I" ∈ jAll := jm_1 (List.mem_of_getElem? (i := 83) rfl) rfl
theorem q_84 : Cond.fieldLink RX3 18 RX3 "amount" "[I" ∈ jAll := jm_1 (List.mem_of_getElem? (i := 84) rfl) rfl
theorem q_85 : Cond.fieldLink RX0 79 RX3 "amount" "[I" ∈ jAll := jm_1 (List.mem_of_getElem? (i := 85) rfl) rfl
theorem q_86 : Cond.fieldLink RX7 218 RX3 "amount" "[I" ∈ jAll := jm_1 (List.mem_of_getElem? (i := 86) rfl) rfl
theorem q_87 : Cond.fieldLink RX3 21 RX3 "due" "[I" ∈ jAll := jm_1 (List.mem_of_getElem? (i := 87) rfl) rfl
theorem q_88 : Cond.fieldLink RX0 57 RX3 "due" "[I" ∈ jAll := jm_1 (List.mem_of_getElem? (i := 88) rfl) rfl
theorem q_89 : Cond.fieldLink RX7 221 RX3 "due" "[I" ∈ jAll := jm_1 (List.mem_of_getElem? (i := 89) rfl) rfl
theorem q_90 : Cond.fieldLink RX3 24 RX3 "state" "[I" ∈ jAll := jm_1 (List.mem_of_getElem? (i := 90) rfl) rfl
theorem q_91 : Cond.fieldLink RX0 89 RX3 "state" "[I" ∈ jAll := jm_1 (List.mem_of_getElem? (i := 91) rfl) rfl
theorem q_92 : Cond.fieldLink RX7 224 RX3 "state" "[I" ∈ jAll := jm_1 (List.mem_of_getElem? (i := 92) rfl) rfl
theorem q_93 : Cond.fieldLink RX3 27 RX3 "paid" "[I" ∈ jAll := jm_1 (List.mem_of_getElem? (i := 93) rfl) rfl
theorem q_94 : Cond.fieldLink RX0 92 RX3 "paid" "[I" ∈ jAll := jm_1 (List.mem_of_getElem? (i := 94) rfl) rfl
theorem q_95 : Cond.fieldLink RX7 227 RX3 "paid" "[I" ∈ jAll := jm_1 (List.mem_of_getElem? (i := 95) rfl) rfl
theorem q_96 : Cond.fieldLink RX3 30 RX3 "advance" "[I" ∈ jAll := jm_1 (List.mem_of_getElem? (i := 96) rfl) rfl
theorem q_97 : Cond.fieldLink RX0 104 RX3 "advance" "[I" ∈ jAll := jm_1 (List.mem_of_getElem? (i := 97) rfl) rfl
theorem q_98 : Cond.fieldLink RX7 230 RX3 "advance" "[I" ∈ jAll := jm_1 (List.mem_of_getElem? (i := 98) rfl) rfl
theorem q_99 : Cond.fieldLink RX3 33 RX3 "size" "I" ∈ jAll := jm_1 (List.mem_of_getElem? (i := 99) rfl) rfl
theorem q_100 : Cond.fieldLink RX7 111 RX3 "size" "I" ∈ jAll := jm_1 (List.mem_of_getElem? (i := 100) rfl) rfl
theorem q_101 : Cond.laysFinal RX3 RX3 "member" "[I" ∈ jAll := jm_1 (List.mem_of_getElem? (i := 101) rfl) rfl
theorem q_103 : Cond.laysFinal RX3 RX3 "client" "[I" ∈ jAll := jm_1 (List.mem_of_getElem? (i := 103) rfl) rfl
theorem q_105 : Cond.laysFinal RX3 RX3 "amount" "[I" ∈ jAll := jm_1 (List.mem_of_getElem? (i := 105) rfl) rfl
theorem q_107 : Cond.laysFinal RX3 RX3 "due" "[I" ∈ jAll := jm_1 (List.mem_of_getElem? (i := 107) rfl) rfl
theorem q_109 : Cond.laysFinal RX3 RX3 "state" "[I" ∈ jAll := jm_1 (List.mem_of_getElem? (i := 109) rfl) rfl
theorem q_111 : Cond.laysFinal RX3 RX3 "paid" "[I" ∈ jAll := jm_1 (List.mem_of_getElem? (i := 111) rfl) rfl
theorem q_113 : Cond.laysFinal RX3 RX3 "advance" "[I" ∈ jAll := jm_1 (List.mem_of_getElem? (i := 113) rfl) rfl
theorem q_115 : Cond.lays RX3 RX3 "size" "I" ∈ jAll := jm_1 (List.mem_of_getElem? (i := 115) rfl) rfl
theorem q_117 : Cond.superclass RX3 "java/lang/Object" ∈ jAll := jm_1 (List.mem_of_getElem? (i := 117) rfl) rfl
theorem q_118 : Cond.constantFloat RX0 40 (1063675494 : UInt32) ∈ jAll := jm_1 (List.mem_of_getElem? (i := 118) rfl) rfl
theorem q_119 : Cond.constantFloat RX0 41 (1000593162 : UInt32) ∈ jAll := jm_1 (List.mem_of_getElem? (i := 119) rfl) rfl
theorem q_120 : Cond.constantFloat RX0 42 (1036831949 : UInt32) ∈ jAll := jm_1 (List.mem_of_getElem? (i := 120) rfl) rfl
theorem q_121 : Cond.fieldLink RX0 12 RX0 "members" "LGuildFund$Members;" ∈ jAll := jm_1 (List.mem_of_getElem? (i := 121) rfl) rfl
theorem q_122 : Cond.fieldLink RX7 75 RX0 "members" "LGuildFund$Members;" ∈ jAll := jm_1 (List.mem_of_getElem? (i := 122) rfl) rfl
theorem q_123 : Cond.fieldLink RX0 21 RX0 "clients" "LGuildFund$Clients;" ∈ jAll := jm_1 (List.mem_of_getElem? (i := 123) rfl) rfl
theorem q_124 : Cond.fieldLink RX7 100 RX0 "clients" "LGuildFund$Clients;" ∈ jAll := jm_1 (List.mem_of_getElem? (i := 124) rfl) rfl
theorem q_125 : Cond.fieldLink RX0 28 RX0 "invoices" "LGuildFund$Invoices;" ∈ jAll := jm_1 (List.mem_of_getElem? (i := 125) rfl) rfl
theorem q_126 : Cond.fieldLink RX7 107 RX0 "invoices" "LGuildFund$Invoices;" ∈ jAll := jm_1 (List.mem_of_getElem? (i := 126) rfl) rfl
theorem q_127 : Cond.fieldLink RX0 32 RX0 "rates" "[F" ∈ jAll := jm_1 (List.mem_of_getElem? (i := 127) rfl) rfl
theorem q_128 : Cond.fieldLink RX7 58 RX0 "rates" "[F" ∈ jAll := jm_1 (List.mem_of_getElem? (i := 128) rfl) rfl
theorem q_129 : Cond.fieldLink RX0 36 RX0 "numbers" "[I" ∈ jAll := jm_1 (List.mem_of_getElem? (i := 129) rfl) rfl
theorem q_130 : Cond.fieldLink RX7 72 RX0 "numbers" "[I" ∈ jAll := jm_1 (List.mem_of_getElem? (i := 130) rfl) rfl
theorem q_131 : Cond.fieldLink RX0 53 RX0 "day" "I" ∈ jAll := jm_1 (List.mem_of_getElem? (i := 131) rfl) rfl
theorem q_132 : Cond.fieldLink RX7 156 RX0 "day" "I" ∈ jAll := jm_1 (List.mem_of_getElem? (i := 132) rfl) rfl
theorem q_133 : Cond.fieldLink RX7 97 RX0 "balance" "I" ∈ jAll := jm_1 (List.mem_of_getElem? (i := 133) rfl) rfl
theorem q_134 : Cond.fieldLink RX0 95 RX0 "balance" "I" ∈ jAll := jm_1 (List.mem_of_getElem? (i := 134) rfl) rfl
theorem q_135 : Cond.fieldLink RX0 114 RX0 "advanced" "I" ∈ jAll := jm_1 (List.mem_of_getElem? (i := 135) rfl) rfl
theorem q_136 : Cond.fieldLink RX7 266 RX0 "advanced" "I" ∈ jAll := jm_1 (List.mem_of_getElem? (i := 136) rfl) rfl
theorem q_137 : Cond.fieldLink RX0 117 RX0 "collected" "I" ∈ jAll := jm_1 (List.mem_of_getElem? (i := 137) rfl) rfl
theorem q_138 : Cond.fieldLink RX7 269 RX0 "collected" "I" ∈ jAll := jm_1 (List.mem_of_getElem? (i := 138) rfl) rfl
theorem q_139 : Cond.fieldLink RX0 130 RX0 "passedOn" "I" ∈ jAll := jm_1 (List.mem_of_getElem? (i := 139) rfl) rfl
theorem q_140 : Cond.fieldLink RX7 272 RX0 "passedOn" "I" ∈ jAll := jm_1 (List.mem_of_getElem? (i := 140) rfl) rfl
theorem q_141 : Cond.fieldLink RX0 149 RX0 "shared" "I" ∈ jAll := jm_1 (List.mem_of_getElem? (i := 141) rfl) rfl
theorem q_142 : Cond.fieldLink RX7 275 RX0 "shared" "I" ∈ jAll := jm_1 (List.mem_of_getElem? (i := 142) rfl) rfl
theorem q_143 : Cond.laysFinal RX0 RX0 "members" "LGuildFund$Members;" ∈ jAll := jm_1 (List.mem_of_getElem? (i := 143) rfl) rfl
theorem q_145 : Cond.laysFinal RX0 RX0 "clients" "LGuildFund$Clients;" ∈ jAll := jm_1 (List.mem_of_getElem? (i := 145) rfl) rfl
theorem q_147 : Cond.laysFinal RX0 RX0 "invoices" "LGuildFund$Invoices;" ∈ jAll := jm_1 (List.mem_of_getElem? (i := 147) rfl) rfl
theorem q_149 : Cond.laysFinal RX0 RX0 "rates" "[F" ∈ jAll := jm_1 (List.mem_of_getElem? (i := 149) rfl) rfl
theorem q_151 : Cond.laysFinal RX0 RX0 "numbers" "[I" ∈ jAll := jm_1 (List.mem_of_getElem? (i := 151) rfl) rfl
theorem q_153 : Cond.lays RX0 RX0 "day" "I" ∈ jAll := jm_1 (List.mem_of_getElem? (i := 153) rfl) rfl
theorem q_155 : Cond.lays RX0 RX0 "balance" "I" ∈ jAll := jm_1 (List.mem_of_getElem? (i := 155) rfl) rfl
theorem q_157 : Cond.lays RX0 RX0 "advanced" "I" ∈ jAll := jm_1 (List.mem_of_getElem? (i := 157) rfl) rfl
theorem q_159 : Cond.lays RX0 RX0 "collected" "I" ∈ jAll := jm_1 (List.mem_of_getElem? (i := 159) rfl) rfl
theorem q_161 : Cond.lays RX0 RX0 "passedOn" "I" ∈ jAll := jm_1 (List.mem_of_getElem? (i := 161) rfl) rfl
theorem q_163 : Cond.lays RX0 RX0 "shared" "I" ∈ jAll := jm_1 (List.mem_of_getElem? (i := 163) rfl) rfl
theorem q_165 : Cond.superclass RX0 "java/lang/Object" ∈ jAll := jm_1 (List.mem_of_getElem? (i := 165) rfl) rfl
theorem q_166 : Cond.arrayClass FieldType.float ∈ jAll := jm_1 (List.mem_of_getElem? (i := 166) rfl) rfl
theorem q_167 : Cond.classLink RX7 22 RX2 ∈ jAll := jm_1 (List.mem_of_getElem? (i := 167) rfl) rfl
theorem q_168 : Cond.instantiable RX2 3 ∈ jAll := jm_1 (List.mem_of_getElem? (i := 168) rfl) rfl
theorem q_169 : Cond.methodLink RX7 24 yX2_init ∈ jAll := jm_1 (List.mem_of_getElem? (i := 169) rfl) rfl
theorem q_170 : Cond.instanceMethod yX2_init ∈ jAll := jm_1 (List.mem_of_getElem? (i := 170) rfl) rfl
theorem q_171 : Cond.code yX2_init cX2_init 2 (none : Option FieldType) ∈ jAll := jm_1 (List.mem_of_getElem? (i := 171) rfl) rfl
theorem q_172 : Cond.methodLink RX2 3 objectInit ∈ jAll := jm_1 (List.mem_of_getElem? (i := 172) rfl) rfl
theorem q_173 : Cond.classLink RX2 9 RX0 ∈ jAll := jm_1 (List.mem_of_getElem? (i := 173) rfl) rfl
theorem q_175 : Cond.methodLink RX2 17 yX0_init ∈ jAll := jm_1 (List.mem_of_getElem? (i := 175) rfl) rfl
theorem q_176 : Cond.fieldLink RX2 11 RX2 "states" "[LGuildFund$Book;" ∈ jAll := jm_1 (List.mem_of_getElem? (i := 176) rfl) rfl
theorem q_177 : Cond.fieldLink RX2 18 RX2 "next" "I" ∈ jAll := jm_1 (List.mem_of_getElem? (i := 177) rfl) rfl
theorem q_178 : Cond.fieldLink RX2 30 RX2 "size" "I" ∈ jAll := jm_1 (List.mem_of_getElem? (i := 178) rfl) rfl
theorem q_179 : Cond.fieldLink RX7 166 RX2 "size" "I" ∈ jAll := jm_1 (List.mem_of_getElem? (i := 179) rfl) rfl
theorem q_180 : Cond.laysFinal RX2 RX2 "states" "[LGuildFund$Book;" ∈ jAll := jm_1 (List.mem_of_getElem? (i := 180) rfl) rfl
theorem q_182 : Cond.lays RX2 RX2 "next" "I" ∈ jAll := jm_1 (List.mem_of_getElem? (i := 182) rfl) rfl
theorem q_184 : Cond.lays RX2 RX2 "size" "I" ∈ jAll := jm_1 (List.mem_of_getElem? (i := 184) rfl) rfl
theorem q_186 : Cond.superclass RX2 "java/lang/Object" ∈ jAll := jm_1 (List.mem_of_getElem? (i := 186) rfl) rfl
theorem q_187 : Cond.classLink RX7 29 RX6 ∈ jAll := jm_1 (List.mem_of_getElem? (i := 187) rfl) rfl
theorem q_188 : Cond.instantiable RX6 5 ∈ jAll := jm_1 (List.mem_of_getElem? (i := 188) rfl) rfl
theorem q_190 : Cond.instanceMethod yX6_init ∈ jAll := jm_1 (List.mem_of_getElem? (i := 190) rfl) rfl
theorem q_191 : Cond.code yX6_init cX6_init 1 (none : Option FieldType) ∈ jAll := jm_1 (List.mem_of_getElem? (i := 191) rfl) rfl
theorem q_192 : Cond.methodLink RX6 3 objectInit ∈ jAll := jm_1 (List.mem_of_getElem? (i := 192) rfl) rfl
theorem q_193 : Cond.fieldLink RX6 9 RX6 "signs" "[C" ∈ jAll := jm_1 (List.mem_of_getElem? (i := 193) rfl) rfl
theorem q_194 : Cond.fieldLink RX6 15 RX6 "invoices" "[I" ∈ jAll := jm_1 (List.mem_of_getElem? (i := 194) rfl) rfl
theorem q_195 : Cond.fieldLink RX6 19 RX6 "cents" "[I" ∈ jAll := jm_1 (List.mem_of_getElem? (i := 195) rfl) rfl
theorem q_196 : Cond.fieldLink RX6 22 RX6 "length" "I" ∈ jAll := jm_1 (List.mem_of_getElem? (i := 196) rfl) rfl
theorem q_197 : Cond.fieldLink RX7 163 RX6 "length" "I" ∈ jAll := jm_1 (List.mem_of_getElem? (i := 197) rfl) rfl
theorem q_198 : Cond.fieldLink RX6 26 RX6 "payments" "I" ∈ jAll := jm_1 (List.mem_of_getElem? (i := 198) rfl) rfl
theorem q_199 : Cond.fieldLink RX7 144 RX6 "payments" "I" ∈ jAll := jm_1 (List.mem_of_getElem? (i := 199) rfl) rfl
theorem q_200 : Cond.laysFinal RX6 RX6 "signs" "[C" ∈ jAll := jm_1 (List.mem_of_getElem? (i := 200) rfl) rfl
theorem q_202 : Cond.laysFinal RX6 RX6 "invoices" "[I" ∈ jAll := jm_1 (List.mem_of_getElem? (i := 202) rfl) rfl
theorem q_204 : Cond.laysFinal RX6 RX6 "cents" "[I" ∈ jAll := jm_1 (List.mem_of_getElem? (i := 204) rfl) rfl
theorem q_206 : Cond.lays RX6 RX6 "length" "I" ∈ jAll := jm_1 (List.mem_of_getElem? (i := 206) rfl) rfl
theorem q_208 : Cond.lays RX6 RX6 "payments" "I" ∈ jAll := jm_1 (List.mem_of_getElem? (i := 208) rfl) rfl
theorem q_210 : Cond.superclass RX6 "java/lang/Object" ∈ jAll := jm_1 (List.mem_of_getElem? (i := 210) rfl) rfl
theorem q_211 : Cond.arrayClass FieldType.char ∈ jAll := jm_1 (List.mem_of_getElem? (i := 211) rfl) rfl
theorem q_212 : Cond.classLink RX7 36 RX5 ∈ jAll := jm_1 (List.mem_of_getElem? (i := 212) rfl) rfl
theorem q_213 : Cond.instantiable RX5 3 ∈ jAll := jm_1 (List.mem_of_getElem? (i := 213) rfl) rfl
theorem q_215 : Cond.instanceMethod yX5_init ∈ jAll := jm_1 (List.mem_of_getElem? (i := 215) rfl) rfl
theorem q_216 : Cond.code yX5_init cX5_init 1 (none : Option FieldType) ∈ jAll := jm_1 (List.mem_of_getElem? (i := 216) rfl) rfl
theorem q_217 : Cond.methodLink RX5 3 objectInit ∈ jAll := jm_1 (List.mem_of_getElem? (i := 217) rfl) rfl
theorem q_218 : Cond.fieldLink RX5 9 RX5 "invoices" "[I" ∈ jAll := jm_1 (List.mem_of_getElem? (i := 218) rfl) rfl
theorem q_219 : Cond.fieldLink RX5 15 RX5 "worths" "[F" ∈ jAll := jm_1 (List.mem_of_getElem? (i := 219) rfl) rfl
theorem q_220 : Cond.fieldLink RX5 19 RX5 "size" "I" ∈ jAll := jm_1 (List.mem_of_getElem? (i := 220) rfl) rfl
theorem q_221 : Cond.fieldLink RX7 246 RX5 "size" "I" ∈ jAll := jm_1 (List.mem_of_getElem? (i := 221) rfl) rfl
theorem q_222 : Cond.laysFinal RX5 RX5 "invoices" "[I" ∈ jAll := jm_1 (List.mem_of_getElem? (i := 222) rfl) rfl
theorem q_224 : Cond.laysFinal RX5 RX5 "worths" "[F" ∈ jAll := jm_1 (List.mem_of_getElem? (i := 224) rfl) rfl
theorem q_226 : Cond.lays RX5 RX5 "size" "I" ∈ jAll := jm_1 (List.mem_of_getElem? (i := 226) rfl) rfl
theorem q_228 : Cond.superclass RX5 "java/lang/Object" ∈ jAll := jm_1 (List.mem_of_getElem? (i := 228) rfl) rfl
theorem q_229 : Cond.fieldLink RX7 10 RX7 "now" "LGuildFund$Book;" ∈ jAll := jm_1 (List.mem_of_getElem? (i := 229) rfl) rfl
theorem q_230 : Cond.fieldLink RX7 16 RX7 "before" "LGuildFund$Book;" ∈ jAll := jm_1 (List.mem_of_getElem? (i := 230) rfl) rfl
theorem q_231 : Cond.fieldLink RX7 19 RX7 "snapshot" "LGuildFund$Book;" ∈ jAll := jm_1 (List.mem_of_getElem? (i := 231) rfl) rfl
theorem q_232 : Cond.fieldLink RX7 25 RX7 "history" "LGuildFund$History;" ∈ jAll := jm_1 (List.mem_of_getElem? (i := 232) rfl) rfl
theorem q_233 : Cond.fieldLink RX7 32 RX7 "text" "LGuildFund$Text;" ∈ jAll := jm_1 (List.mem_of_getElem? (i := 233) rfl) rfl
theorem q_234 : Cond.fieldLink RX7 39 RX7 "ranking" "LGuildFund$Ranking;" ∈ jAll := jm_1 (List.mem_of_getElem? (i := 234) rfl) rfl
theorem q_235 : Cond.fieldLink RX7 170 RX7 "kept" "Z" ∈ jAll := jm_1 (List.mem_of_getElem? (i := 235) rfl) rfl
theorem q_236 : Cond.fieldLink RX7 153 RX7 "refusedPayment" "I" ∈ jAll := jm_1 (List.mem_of_getElem? (i := 236) rfl) rfl
theorem q_237 : Cond.fieldLink RX7 43 RX7 "refusedError" "I" ∈ jAll := jm_1 (List.mem_of_getElem? (i := 237) rfl) rfl
theorem q_238 : Cond.laysFinal RX7 RX7 "now" "LGuildFund$Book;" ∈ jAll := jm_1 (List.mem_of_getElem? (i := 238) rfl) rfl
theorem q_240 : Cond.laysFinal RX7 RX7 "before" "LGuildFund$Book;" ∈ jAll := jm_2 (List.mem_of_getElem? (i := 0) rfl) rfl
theorem q_242 : Cond.laysFinal RX7 RX7 "snapshot" "LGuildFund$Book;" ∈ jAll := jm_2 (List.mem_of_getElem? (i := 2) rfl) rfl
theorem q_244 : Cond.laysFinal RX7 RX7 "history" "LGuildFund$History;" ∈ jAll := jm_2 (List.mem_of_getElem? (i := 4) rfl) rfl
theorem q_246 : Cond.laysFinal RX7 RX7 "text" "LGuildFund$Text;" ∈ jAll := jm_2 (List.mem_of_getElem? (i := 6) rfl) rfl
theorem q_248 : Cond.laysFinal RX7 RX7 "ranking" "LGuildFund$Ranking;" ∈ jAll := jm_2 (List.mem_of_getElem? (i := 8) rfl) rfl
theorem q_250 : Cond.lays RX7 RX7 "kept" "Z" ∈ jAll := jm_2 (List.mem_of_getElem? (i := 10) rfl) rfl
theorem q_252 : Cond.lays RX7 RX7 "refusedPayment" "I" ∈ jAll := jm_2 (List.mem_of_getElem? (i := 12) rfl) rfl
theorem q_254 : Cond.lays RX7 RX7 "refusedError" "I" ∈ jAll := jm_2 (List.mem_of_getElem? (i := 14) rfl) rfl
theorem q_256 : Cond.superclass RX7 "java/lang/Object" ∈ jAll := jm_2 (List.mem_of_getElem? (i := 16) rfl) rfl
theorem q_257 : Cond.methodLink RL 13 yX7_setRate ∈ jAll := jm_2 (List.mem_of_getElem? (i := 17) rfl) rfl
theorem q_258 : Cond.instanceMethod yX7_setRate ∈ jAll := jm_2 (List.mem_of_getElem? (i := 18) rfl) rfl
theorem q_259 : Cond.selects RX7 yX7_setRate yX7_setRate ∈ jAll := jm_2 (List.mem_of_getElem? (i := 19) rfl) rfl
theorem q_260 : Cond.code yX7_setRate cX7_setRate 4 (some .int) ∈ jAll := jm_2 (List.mem_of_getElem? (i := 20) rfl) rfl
theorem q_261 : Cond.fieldLink RX7 47 RX7 "LOWEST_RATE" "[I" ∈ jAll := jm_2 (List.mem_of_getElem? (i := 21) rfl) rfl
theorem q_263 : Cond.fieldLink RX7 51 RX7 "HIGHEST_RATE" "[I" ∈ jAll := jm_2 (List.mem_of_getElem? (i := 23) rfl) rfl
theorem q_265 : Cond.methodLink RX7 54 yX7_floatOf ∈ jAll := jm_2 (List.mem_of_getElem? (i := 25) rfl) rfl
theorem q_266 : Cond.static yX7_floatOf ∈ jAll := jm_2 (List.mem_of_getElem? (i := 26) rfl) rfl
theorem q_267 : Cond.code yX7_floatOf cX7_floatOf 6 (Option.some FieldType.float) ∈ jAll := jm_2 (List.mem_of_getElem? (i := 27) rfl) rfl
theorem q_268 : Cond.constant RX7 279 (8388607 : Int32) ∈ jAll := jm_2 (List.mem_of_getElem? (i := 28) rfl) rfl
theorem q_269 : Cond.constant RX7 280 (8388608 : Int32) ∈ jAll := jm_2 (List.mem_of_getElem? (i := 29) rfl) rfl
theorem q_270 : Cond.constantFloat RX7 281 (1056964608 : UInt32) ∈ jAll := jm_2 (List.mem_of_getElem? (i := 30) rfl) rfl
theorem q_271 : Cond.methodLink RX7 62 yX2_push ∈ jAll := jm_2 (List.mem_of_getElem? (i := 31) rfl) rfl
theorem q_272 : Cond.instanceMethod yX2_push ∈ jAll := jm_2 (List.mem_of_getElem? (i := 32) rfl) rfl
theorem q_273 : Cond.selects RX2 yX2_push yX2_push ∈ jAll := jm_2 (List.mem_of_getElem? (i := 33) rfl) rfl
theorem q_274 : Cond.code yX2_push cX2_push 2 (none : Option FieldType) ∈ jAll := jm_2 (List.mem_of_getElem? (i := 34) rfl) rfl
theorem q_275 : Cond.methodLink RX2 22 yX2_stateAt ∈ jAll := jm_2 (List.mem_of_getElem? (i := 35) rfl) rfl
theorem q_277 : Cond.instanceMethod yX2_stateAt ∈ jAll := jm_2 (List.mem_of_getElem? (i := 37) rfl) rfl
theorem q_278 : Cond.code yX2_stateAt cX2_stateAt 2 (Option.some (FieldType.object RX0)) ∈ jAll := jm_2 (List.mem_of_getElem? (i := 38) rfl) rfl
theorem q_279 : Cond.methodLink RX2 26 yX2_copy ∈ jAll := jm_2 (List.mem_of_getElem? (i := 39) rfl) rfl
theorem q_280 : Cond.static yX2_copy ∈ jAll := jm_2 (List.mem_of_getElem? (i := 40) rfl) rfl
theorem q_281 : Cond.code yX2_copy cX2_copy 2 (none : Option FieldType) ∈ jAll := jm_2 (List.mem_of_getElem? (i := 41) rfl) rfl
theorem q_282 : Cond.methodLink RX2 33 yX0_copyFrom ∈ jAll := jm_2 (List.mem_of_getElem? (i := 42) rfl) rfl
theorem q_283 : Cond.instanceMethod yX0_copyFrom ∈ jAll := jm_2 (List.mem_of_getElem? (i := 43) rfl) rfl
theorem q_284 : Cond.selects RX0 yX0_copyFrom yX0_copyFrom ∈ jAll := jm_2 (List.mem_of_getElem? (i := 44) rfl) rfl
theorem q_285 : Cond.code yX0_copyFrom cX0_copyFrom 3 (none : Option FieldType) ∈ jAll := jm_2 (List.mem_of_getElem? (i := 45) rfl) rfl
theorem q_286 : Cond.methodLink RX0 152 yX4_copyFrom ∈ jAll := jm_2 (List.mem_of_getElem? (i := 46) rfl) rfl
theorem q_287 : Cond.instanceMethod yX4_copyFrom ∈ jAll := jm_2 (List.mem_of_getElem? (i := 47) rfl) rfl
theorem q_288 : Cond.selects RX4 yX4_copyFrom yX4_copyFrom ∈ jAll := jm_2 (List.mem_of_getElem? (i := 48) rfl) rfl
theorem q_289 : Cond.code yX4_copyFrom cX4_copyFrom 2 (none : Option FieldType) ∈ jAll := jm_2 (List.mem_of_getElem? (i := 49) rfl) rfl
theorem q_291 : Cond.static yX7_copyRow ∈ jAll := jm_2 (List.mem_of_getElem? (i := 51) rfl) rfl
theorem q_292 : Cond.code yX7_copyRow cX7_copyRow 3 (none : Option FieldType) ∈ jAll := jm_2 (List.mem_of_getElem? (i := 52) rfl) rfl
theorem q_293 : Cond.methodLink RX0 156 yX1_copyFrom ∈ jAll := jm_2 (List.mem_of_getElem? (i := 53) rfl) rfl
theorem q_294 : Cond.instanceMethod yX1_copyFrom ∈ jAll := jm_2 (List.mem_of_getElem? (i := 54) rfl) rfl
theorem q_295 : Cond.selects RX1 yX1_copyFrom yX1_copyFrom ∈ jAll := jm_2 (List.mem_of_getElem? (i := 55) rfl) rfl
theorem q_296 : Cond.code yX1_copyFrom cX1_copyFrom 2 (none : Option FieldType) ∈ jAll := jm_2 (List.mem_of_getElem? (i := 56) rfl) rfl
theorem q_298 : Cond.methodLink RX0 159 yX3_copyFrom ∈ jAll := jm_2 (List.mem_of_getElem? (i := 58) rfl) rfl
theorem q_299 : Cond.instanceMethod yX3_copyFrom ∈ jAll := jm_2 (List.mem_of_getElem? (i := 59) rfl) rfl
theorem q_300 : Cond.selects RX3 yX3_copyFrom yX3_copyFrom ∈ jAll := jm_2 (List.mem_of_getElem? (i := 60) rfl) rfl
theorem q_301 : Cond.code yX3_copyFrom cX3_copyFrom 2 (none : Option FieldType) ∈ jAll := jm_2 (List.mem_of_getElem? (i := 61) rfl) rfl
theorem q_304 : Cond.methodLink RL 18 yX7_setNumber ∈ jAll := jm_2 (List.mem_of_getElem? (i := 64) rfl) rfl
theorem q_305 : Cond.instanceMethod yX7_setNumber ∈ jAll := jm_2 (List.mem_of_getElem? (i := 65) rfl) rfl
theorem q_306 : Cond.selects RX7 yX7_setNumber yX7_setNumber ∈ jAll := jm_2 (List.mem_of_getElem? (i := 66) rfl) rfl
theorem q_307 : Cond.code yX7_setNumber cX7_setNumber 4 (some .int) ∈ jAll := jm_2 (List.mem_of_getElem? (i := 67) rfl) rfl
theorem q_308 : Cond.fieldLink RX7 66 RX7 "LOWEST_NUMBER" "[I" ∈ jAll := jm_2 (List.mem_of_getElem? (i := 68) rfl) rfl
theorem q_310 : Cond.fieldLink RX7 69 RX7 "HIGHEST_NUMBER" "[I" ∈ jAll := jm_2 (List.mem_of_getElem? (i := 70) rfl) rfl
theorem q_312 : Cond.methodLink RL 22 yX7_addMember ∈ jAll := jm_2 (List.mem_of_getElem? (i := 72) rfl) rfl
theorem q_313 : Cond.instanceMethod yX7_addMember ∈ jAll := jm_2 (List.mem_of_getElem? (i := 73) rfl) rfl
theorem q_314 : Cond.selects RX7 yX7_addMember yX7_addMember ∈ jAll := jm_2 (List.mem_of_getElem? (i := 74) rfl) rfl
theorem q_315 : Cond.code yX7_addMember cX7_addMember 2 (some .int) ∈ jAll := jm_2 (List.mem_of_getElem? (i := 75) rfl) rfl
theorem q_316 : Cond.methodLink RX7 84 yX4_append ∈ jAll := jm_2 (List.mem_of_getElem? (i := 76) rfl) rfl
theorem q_317 : Cond.instanceMethod yX4_append ∈ jAll := jm_2 (List.mem_of_getElem? (i := 77) rfl) rfl
theorem q_318 : Cond.selects RX4 yX4_append yX4_append ∈ jAll := jm_2 (List.mem_of_getElem? (i := 78) rfl) rfl
theorem q_319 : Cond.code yX4_append cX4_append 2 (some .int) ∈ jAll := jm_2 (List.mem_of_getElem? (i := 79) rfl) rfl
theorem q_320 : Cond.methodLink RL 27 yX7_payDues ∈ jAll := jm_2 (List.mem_of_getElem? (i := 80) rfl) rfl
theorem q_321 : Cond.instanceMethod yX7_payDues ∈ jAll := jm_2 (List.mem_of_getElem? (i := 81) rfl) rfl
theorem q_322 : Cond.selects RX7 yX7_payDues yX7_payDues ∈ jAll := jm_2 (List.mem_of_getElem? (i := 82) rfl) rfl
theorem q_323 : Cond.code yX7_payDues cX7_payDues 4 (some .int) ∈ jAll := jm_2 (List.mem_of_getElem? (i := 83) rfl) rfl
theorem q_324 : Cond.methodLink RX7 88 yX4_has ∈ jAll := jm_2 (List.mem_of_getElem? (i := 84) rfl) rfl
theorem q_325 : Cond.instanceMethod yX4_has ∈ jAll := jm_2 (List.mem_of_getElem? (i := 85) rfl) rfl
theorem q_326 : Cond.selects RX4 yX4_has yX4_has ∈ jAll := jm_2 (List.mem_of_getElem? (i := 86) rfl) rfl
theorem q_327 : Cond.code yX4_has cX4_has 2 (Option.some FieldType.boolean) ∈ jAll := jm_2 (List.mem_of_getElem? (i := 87) rfl) rfl
theorem q_328 : Cond.constant RX7 92 (1000000 : Int32) ∈ jAll := jm_2 (List.mem_of_getElem? (i := 88) rfl) rfl
theorem q_329 : Cond.constant RX7 96 (100000000 : Int32) ∈ jAll := jm_2 (List.mem_of_getElem? (i := 89) rfl) rfl
theorem q_330 : Cond.methodLink RL 31 yX7_addInvoice ∈ jAll := jm_2 (List.mem_of_getElem? (i := 90) rfl) rfl
theorem q_331 : Cond.instanceMethod yX7_addInvoice ∈ jAll := jm_2 (List.mem_of_getElem? (i := 91) rfl) rfl
theorem q_332 : Cond.selects RX7 yX7_addInvoice yX7_addInvoice ∈ jAll := jm_2 (List.mem_of_getElem? (i := 92) rfl) rfl
theorem q_333 : Cond.code yX7_addInvoice cX7_addInvoice 5 (some .int) ∈ jAll := jm_2 (List.mem_of_getElem? (i := 93) rfl) rfl
theorem q_334 : Cond.methodLink RX7 104 yX1_has ∈ jAll := jm_2 (List.mem_of_getElem? (i := 94) rfl) rfl
theorem q_335 : Cond.instanceMethod yX1_has ∈ jAll := jm_2 (List.mem_of_getElem? (i := 95) rfl) rfl
theorem q_336 : Cond.selects RX1 yX1_has yX1_has ∈ jAll := jm_2 (List.mem_of_getElem? (i := 96) rfl) rfl
theorem q_337 : Cond.code yX1_has cX1_has 2 (Option.some FieldType.boolean) ∈ jAll := jm_2 (List.mem_of_getElem? (i := 97) rfl) rfl
theorem q_338 : Cond.methodLink RX7 114 yX3_append ∈ jAll := jm_2 (List.mem_of_getElem? (i := 98) rfl) rfl
theorem q_339 : Cond.instanceMethod yX3_append ∈ jAll := jm_2 (List.mem_of_getElem? (i := 99) rfl) rfl
theorem q_340 : Cond.selects RX3 yX3_append yX3_append ∈ jAll := jm_2 (List.mem_of_getElem? (i := 100) rfl) rfl
theorem q_341 : Cond.code yX3_append cX3_append 5 (some .int) ∈ jAll := jm_2 (List.mem_of_getElem? (i := 101) rfl) rfl
theorem q_342 : Cond.methodLink RL 36 yX7_payAhead ∈ jAll := jm_2 (List.mem_of_getElem? (i := 102) rfl) rfl
theorem q_343 : Cond.instanceMethod yX7_payAhead ∈ jAll := jm_2 (List.mem_of_getElem? (i := 103) rfl) rfl
theorem q_344 : Cond.selects RX7 yX7_payAhead yX7_payAhead ∈ jAll := jm_2 (List.mem_of_getElem? (i := 104) rfl) rfl
theorem q_345 : Cond.code yX7_payAhead cX7_payAhead 2 (some .int) ∈ jAll := jm_2 (List.mem_of_getElem? (i := 105) rfl) rfl
theorem q_346 : Cond.methodLink RX7 117 yX3_has ∈ jAll := jm_2 (List.mem_of_getElem? (i := 106) rfl) rfl
theorem q_347 : Cond.instanceMethod yX3_has ∈ jAll := jm_2 (List.mem_of_getElem? (i := 107) rfl) rfl
theorem q_348 : Cond.selects RX3 yX3_has yX3_has ∈ jAll := jm_2 (List.mem_of_getElem? (i := 108) rfl) rfl
theorem q_349 : Cond.code yX3_has cX3_has 2 (Option.some FieldType.boolean) ∈ jAll := jm_2 (List.mem_of_getElem? (i := 109) rfl) rfl
theorem q_350 : Cond.methodLink RX7 118 yX0_canPayAhead ∈ jAll := jm_2 (List.mem_of_getElem? (i := 110) rfl) rfl
theorem q_351 : Cond.instanceMethod yX0_canPayAhead ∈ jAll := jm_2 (List.mem_of_getElem? (i := 111) rfl) rfl
theorem q_352 : Cond.selects RX0 yX0_canPayAhead yX0_canPayAhead ∈ jAll := jm_2 (List.mem_of_getElem? (i := 112) rfl) rfl
theorem q_353 : Cond.code yX0_canPayAhead cX0_canPayAhead 3 (Option.some FieldType.boolean) ∈ jAll := jm_2 (List.mem_of_getElem? (i := 113) rfl) rfl
theorem q_354 : Cond.methodLink RX0 49 yX3_has ∈ jAll := jm_2 (List.mem_of_getElem? (i := 114) rfl) rfl
theorem q_355 : Cond.methodLink RX0 60 yX0_ageOf ∈ jAll := jm_2 (List.mem_of_getElem? (i := 115) rfl) rfl
theorem q_356 : Cond.instanceMethod yX0_ageOf ∈ jAll := jm_2 (List.mem_of_getElem? (i := 116) rfl) rfl
theorem q_357 : Cond.selects RX0 yX0_ageOf yX0_ageOf ∈ jAll := jm_2 (List.mem_of_getElem? (i := 117) rfl) rfl
theorem q_358 : Cond.code yX0_ageOf cX0_ageOf 2 (some .int) ∈ jAll := jm_2 (List.mem_of_getElem? (i := 118) rfl) rfl
theorem q_359 : Cond.methodLink RX0 86 yX0_offerAfter ∈ jAll := jm_2 (List.mem_of_getElem? (i := 119) rfl) rfl
theorem q_360 : Cond.instanceMethod yX0_offerAfter ∈ jAll := jm_2 (List.mem_of_getElem? (i := 120) rfl) rfl
theorem q_361 : Cond.selects RX0 yX0_offerAfter yX0_offerAfter ∈ jAll := jm_2 (List.mem_of_getElem? (i := 121) rfl) rfl
theorem q_362 : Cond.code yX0_offerAfter cX0_offerAfter 3 (some .int) ∈ jAll := jm_2 (List.mem_of_getElem? (i := 122) rfl) rfl
theorem q_363 : Cond.methodLink RX0 82 yX0_rateAfter ∈ jAll := jm_2 (List.mem_of_getElem? (i := 123) rfl) rfl
theorem q_364 : Cond.instanceMethod yX0_rateAfter ∈ jAll := jm_2 (List.mem_of_getElem? (i := 124) rfl) rfl
theorem q_365 : Cond.selects RX0 yX0_rateAfter yX0_rateAfter ∈ jAll := jm_2 (List.mem_of_getElem? (i := 125) rfl) rfl
theorem q_366 : Cond.code yX0_rateAfter cX0_rateAfter 5 (Option.some FieldType.float) ∈ jAll := jm_2 (List.mem_of_getElem? (i := 126) rfl) rfl
theorem q_368 : Cond.static yX7_noNumber ∈ jAll := jm_2 (List.mem_of_getElem? (i := 128) rfl) rfl
theorem q_369 : Cond.code yX7_noNumber cX7_noNumber 0 (Option.some FieldType.float) ∈ jAll := jm_2 (List.mem_of_getElem? (i := 129) rfl) rfl
theorem q_370 : Cond.constantFloat RX7 278 (2143289344 : UInt32) ∈ jAll := jm_2 (List.mem_of_getElem? (i := 130) rfl) rfl
theorem q_371 : Cond.methodLink RX0 68 yX0_lateAfter ∈ jAll := jm_2 (List.mem_of_getElem? (i := 131) rfl) rfl
theorem q_372 : Cond.instanceMethod yX0_lateAfter ∈ jAll := jm_2 (List.mem_of_getElem? (i := 132) rfl) rfl
theorem q_373 : Cond.selects RX0 yX0_lateAfter yX0_lateAfter ∈ jAll := jm_2 (List.mem_of_getElem? (i := 133) rfl) rfl
theorem q_374 : Cond.code yX0_lateAfter cX0_lateAfter 4 (some .int) ∈ jAll := jm_2 (List.mem_of_getElem? (i := 134) rfl) rfl
theorem q_375 : Cond.methodLink RX0 75 yX1_riskOf ∈ jAll := jm_2 (List.mem_of_getElem? (i := 135) rfl) rfl
theorem q_376 : Cond.instanceMethod yX1_riskOf ∈ jAll := jm_2 (List.mem_of_getElem? (i := 136) rfl) rfl
theorem q_377 : Cond.selects RX1 yX1_riskOf yX1_riskOf ∈ jAll := jm_2 (List.mem_of_getElem? (i := 137) rfl) rfl
theorem q_378 : Cond.code yX1_riskOf cX1_riskOf 2 (Option.some FieldType.float) ∈ jAll := jm_2 (List.mem_of_getElem? (i := 138) rfl) rfl
theorem q_379 : Cond.methodLink RX1 21 yX1_has ∈ jAll := jm_2 (List.mem_of_getElem? (i := 139) rfl) rfl
theorem q_381 : Cond.methodLink RX0 98 yX0_reserveCents ∈ jAll := jm_2 (List.mem_of_getElem? (i := 141) rfl) rfl
theorem q_382 : Cond.instanceMethod yX0_reserveCents ∈ jAll := jm_2 (List.mem_of_getElem? (i := 142) rfl) rfl
theorem q_383 : Cond.selects RX0 yX0_reserveCents yX0_reserveCents ∈ jAll := jm_2 (List.mem_of_getElem? (i := 143) rfl) rfl
theorem q_384 : Cond.code yX0_reserveCents cX0_reserveCents 1 (some .int) ∈ jAll := jm_2 (List.mem_of_getElem? (i := 144) rfl) rfl
theorem q_385 : Cond.methodLink RX0 43 yX4_allDues ∈ jAll := jm_2 (List.mem_of_getElem? (i := 145) rfl) rfl
theorem q_386 : Cond.instanceMethod yX4_allDues ∈ jAll := jm_2 (List.mem_of_getElem? (i := 146) rfl) rfl
theorem q_387 : Cond.selects RX4 yX4_allDues yX4_allDues ∈ jAll := jm_2 (List.mem_of_getElem? (i := 147) rfl) rfl
theorem q_388 : Cond.code yX4_allDues cX4_allDues 3 (some .int) ∈ jAll := jm_2 (List.mem_of_getElem? (i := 148) rfl) rfl
theorem q_389 : Cond.methodLink RX4 28 yX4_has ∈ jAll := jm_2 (List.mem_of_getElem? (i := 149) rfl) rfl
theorem q_390 : Cond.constantLong RX0 47 (100 : Int64) ∈ jAll := jm_2 (List.mem_of_getElem? (i := 150) rfl) rfl
theorem q_391 : Cond.methodLink RX7 121 yX0_advance ∈ jAll := jm_2 (List.mem_of_getElem? (i := 151) rfl) rfl
theorem q_392 : Cond.instanceMethod yX0_advance ∈ jAll := jm_2 (List.mem_of_getElem? (i := 152) rfl) rfl
theorem q_393 : Cond.selects RX0 yX0_advance yX0_advance ∈ jAll := jm_2 (List.mem_of_getElem? (i := 153) rfl) rfl
theorem q_394 : Cond.code yX0_advance cX0_advance 3 (some .int) ∈ jAll := jm_2 (List.mem_of_getElem? (i := 154) rfl) rfl
theorem q_395 : Cond.methodLink RX0 110 yX4_intoPurse ∈ jAll := jm_2 (List.mem_of_getElem? (i := 155) rfl) rfl
theorem q_396 : Cond.instanceMethod yX4_intoPurse ∈ jAll := jm_2 (List.mem_of_getElem? (i := 156) rfl) rfl
theorem q_397 : Cond.selects RX4 yX4_intoPurse yX4_intoPurse ∈ jAll := jm_2 (List.mem_of_getElem? (i := 157) rfl) rfl
theorem q_398 : Cond.code yX4_intoPurse cX4_intoPurse 3 (none : Option FieldType) ∈ jAll := jm_2 (List.mem_of_getElem? (i := 158) rfl) rfl
theorem q_399 : Cond.methodLink RL 40 yX7_pay ∈ jAll := jm_2 (List.mem_of_getElem? (i := 159) rfl) rfl
theorem q_400 : Cond.instanceMethod yX7_pay ∈ jAll := jm_2 (List.mem_of_getElem? (i := 160) rfl) rfl
theorem q_401 : Cond.selects RX7 yX7_pay yX7_pay ∈ jAll := jm_2 (List.mem_of_getElem? (i := 161) rfl) rfl
theorem q_402 : Cond.code yX7_pay cX7_pay 4 (some .int) ∈ jAll := jm_2 (List.mem_of_getElem? (i := 162) rfl) rfl
theorem q_403 : Cond.methodLink RX7 124 yX0_errorOfPayment ∈ jAll := jm_2 (List.mem_of_getElem? (i := 163) rfl) rfl
theorem q_404 : Cond.instanceMethod yX0_errorOfPayment ∈ jAll := jm_2 (List.mem_of_getElem? (i := 164) rfl) rfl
theorem q_405 : Cond.selects RX0 yX0_errorOfPayment yX0_errorOfPayment ∈ jAll := jm_2 (List.mem_of_getElem? (i := 165) rfl) rfl
theorem q_406 : Cond.code yX0_errorOfPayment cX0_errorOfPayment 4 (some .int) ∈ jAll := jm_2 (List.mem_of_getElem? (i := 166) rfl) rfl
theorem q_407 : Cond.methodLink RX0 101 yX3_isUnsettled ∈ jAll := jm_2 (List.mem_of_getElem? (i := 167) rfl) rfl
theorem q_408 : Cond.instanceMethod yX3_isUnsettled ∈ jAll := jm_2 (List.mem_of_getElem? (i := 168) rfl) rfl
theorem q_409 : Cond.selects RX3 yX3_isUnsettled yX3_isUnsettled ∈ jAll := jm_2 (List.mem_of_getElem? (i := 169) rfl) rfl
theorem q_410 : Cond.code yX3_isUnsettled cX3_isUnsettled 2 (Option.some FieldType.boolean) ∈ jAll := jm_2 (List.mem_of_getElem? (i := 170) rfl) rfl
theorem q_411 : Cond.methodLink RX3 37 yX3_has ∈ jAll := jm_2 (List.mem_of_getElem? (i := 171) rfl) rfl
theorem q_412 : Cond.methodLink RX7 128 yX0_collect ∈ jAll := jm_2 (List.mem_of_getElem? (i := 172) rfl) rfl
theorem q_413 : Cond.instanceMethod yX0_collect ∈ jAll := jm_2 (List.mem_of_getElem? (i := 173) rfl) rfl
theorem q_414 : Cond.selects RX0 yX0_collect yX0_collect ∈ jAll := jm_2 (List.mem_of_getElem? (i := 174) rfl) rfl
theorem q_415 : Cond.code yX0_collect cX0_collect 4 (some .int) ∈ jAll := jm_2 (List.mem_of_getElem? (i := 175) rfl) rfl
theorem q_416 : Cond.methodLink RX0 120 yX0_settle ∈ jAll := jm_2 (List.mem_of_getElem? (i := 176) rfl) rfl
theorem q_417 : Cond.instanceMethod yX0_settle ∈ jAll := jm_2 (List.mem_of_getElem? (i := 177) rfl) rfl
theorem q_418 : Cond.selects RX0 yX0_settle yX0_settle ∈ jAll := jm_2 (List.mem_of_getElem? (i := 178) rfl) rfl
theorem q_419 : Cond.code yX0_settle cX0_settle 2 (none : Option FieldType) ∈ jAll := jm_2 (List.mem_of_getElem? (i := 179) rfl) rfl
theorem q_420 : Cond.methodLink RX0 124 yX0_passOn ∈ jAll := jm_2 (List.mem_of_getElem? (i := 180) rfl) rfl
theorem q_421 : Cond.instanceMethod yX0_passOn ∈ jAll := jm_2 (List.mem_of_getElem? (i := 181) rfl) rfl
theorem q_422 : Cond.selects RX0 yX0_passOn yX0_passOn ∈ jAll := jm_2 (List.mem_of_getElem? (i := 182) rfl) rfl
theorem q_423 : Cond.code yX0_passOn cX0_passOn 4 (none : Option FieldType) ∈ jAll := jm_2 (List.mem_of_getElem? (i := 183) rfl) rfl
theorem q_424 : Cond.methodLink RX0 127 yX1_addSettled ∈ jAll := jm_2 (List.mem_of_getElem? (i := 184) rfl) rfl
theorem q_425 : Cond.instanceMethod yX1_addSettled ∈ jAll := jm_2 (List.mem_of_getElem? (i := 185) rfl) rfl
theorem q_426 : Cond.selects RX1 yX1_addSettled yX1_addSettled ∈ jAll := jm_2 (List.mem_of_getElem? (i := 186) rfl) rfl
theorem q_427 : Cond.code yX1_addSettled cX1_addSettled 3 (none : Option FieldType) ∈ jAll := jm_2 (List.mem_of_getElem? (i := 187) rfl) rfl
theorem q_428 : Cond.methodLink RL 44 yX7_giveUp ∈ jAll := jm_2 (List.mem_of_getElem? (i := 188) rfl) rfl
theorem q_429 : Cond.instanceMethod yX7_giveUp ∈ jAll := jm_2 (List.mem_of_getElem? (i := 189) rfl) rfl
theorem q_430 : Cond.selects RX7 yX7_giveUp yX7_giveUp ∈ jAll := jm_2 (List.mem_of_getElem? (i := 190) rfl) rfl
theorem q_431 : Cond.code yX7_giveUp cX7_giveUp 2 (some .int) ∈ jAll := jm_2 (List.mem_of_getElem? (i := 191) rfl) rfl
theorem q_432 : Cond.methodLink RX7 131 yX0_canGiveUp ∈ jAll := jm_2 (List.mem_of_getElem? (i := 192) rfl) rfl
theorem q_433 : Cond.instanceMethod yX0_canGiveUp ∈ jAll := jm_2 (List.mem_of_getElem? (i := 193) rfl) rfl
theorem q_434 : Cond.selects RX0 yX0_canGiveUp yX0_canGiveUp ∈ jAll := jm_2 (List.mem_of_getElem? (i := 194) rfl) rfl
theorem q_435 : Cond.code yX0_canGiveUp cX0_canGiveUp 2 (Option.some FieldType.boolean) ∈ jAll := jm_2 (List.mem_of_getElem? (i := 195) rfl) rfl
theorem q_436 : Cond.methodLink RX7 134 yX0_lose ∈ jAll := jm_2 (List.mem_of_getElem? (i := 196) rfl) rfl
theorem q_437 : Cond.instanceMethod yX0_lose ∈ jAll := jm_2 (List.mem_of_getElem? (i := 197) rfl) rfl
theorem q_438 : Cond.selects RX0 yX0_lose yX0_lose ∈ jAll := jm_2 (List.mem_of_getElem? (i := 198) rfl) rfl
theorem q_439 : Cond.code yX0_lose cX0_lose 4 (some .int) ∈ jAll := jm_2 (List.mem_of_getElem? (i := 199) rfl) rfl
theorem q_440 : Cond.methodLink RX0 133 yX1_addLost ∈ jAll := jm_2 (List.mem_of_getElem? (i := 200) rfl) rfl
theorem q_441 : Cond.instanceMethod yX1_addLost ∈ jAll := jm_2 (List.mem_of_getElem? (i := 201) rfl) rfl
theorem q_442 : Cond.selects RX1 yX1_addLost yX1_addLost ∈ jAll := jm_2 (List.mem_of_getElem? (i := 202) rfl) rfl
theorem q_443 : Cond.code yX1_addLost cX1_addLost 2 (none : Option FieldType) ∈ jAll := jm_2 (List.mem_of_getElem? (i := 203) rfl) rfl
theorem q_444 : Cond.methodLink RX0 136 yX0_share ∈ jAll := jm_2 (List.mem_of_getElem? (i := 204) rfl) rfl
theorem q_445 : Cond.instanceMethod yX0_share ∈ jAll := jm_2 (List.mem_of_getElem? (i := 205) rfl) rfl
theorem q_446 : Cond.selects RX0 yX0_share yX0_share ∈ jAll := jm_2 (List.mem_of_getElem? (i := 206) rfl) rfl
theorem q_447 : Cond.code yX0_share cX0_share 8 (none : Option FieldType) ∈ jAll := jm_2 (List.mem_of_getElem? (i := 207) rfl) rfl
theorem q_448 : Cond.methodLink RX0 139 yX4_allWeights ∈ jAll := jm_2 (List.mem_of_getElem? (i := 208) rfl) rfl
theorem q_449 : Cond.instanceMethod yX4_allWeights ∈ jAll := jm_2 (List.mem_of_getElem? (i := 209) rfl) rfl
theorem q_450 : Cond.selects RX4 yX4_allWeights yX4_allWeights ∈ jAll := jm_2 (List.mem_of_getElem? (i := 210) rfl) rfl
theorem q_451 : Cond.code yX4_allWeights cX4_allWeights 3 (some .int) ∈ jAll := jm_2 (List.mem_of_getElem? (i := 211) rfl) rfl
theorem q_452 : Cond.methodLink RX0 142 yX4_has ∈ jAll := jm_2 (List.mem_of_getElem? (i := 212) rfl) rfl
theorem q_453 : Cond.methodLink RX0 146 yX4_bear ∈ jAll := jm_2 (List.mem_of_getElem? (i := 213) rfl) rfl
theorem q_454 : Cond.instanceMethod yX4_bear ∈ jAll := jm_2 (List.mem_of_getElem? (i := 214) rfl) rfl
theorem q_455 : Cond.selects RX4 yX4_bear yX4_bear ∈ jAll := jm_2 (List.mem_of_getElem? (i := 215) rfl) rfl
theorem q_456 : Cond.code yX4_bear cX4_bear 3 (none : Option FieldType) ∈ jAll := jm_2 (List.mem_of_getElem? (i := 216) rfl) rfl
theorem q_457 : Cond.methodLink RL 48 yX7_readPayments ∈ jAll := jm_2 (List.mem_of_getElem? (i := 217) rfl) rfl
theorem q_458 : Cond.instanceMethod yX7_readPayments ∈ jAll := jm_2 (List.mem_of_getElem? (i := 218) rfl) rfl
theorem q_459 : Cond.selects RX7 yX7_readPayments yX7_readPayments ∈ jAll := jm_2 (List.mem_of_getElem? (i := 219) rfl) rfl
theorem q_460 : Cond.code yX7_readPayments cX7_readPayments 7 (some .int) ∈ jAll := jm_2 (List.mem_of_getElem? (i := 220) rfl) rfl
theorem q_461 : Cond.methodLink RX7 137 yX6_read ∈ jAll := jm_2 (List.mem_of_getElem? (i := 221) rfl) rfl
theorem q_462 : Cond.instanceMethod yX6_read ∈ jAll := jm_2 (List.mem_of_getElem? (i := 222) rfl) rfl
theorem q_463 : Cond.selects RX6 yX6_read yX6_read ∈ jAll := jm_2 (List.mem_of_getElem? (i := 223) rfl) rfl
theorem q_464 : Cond.code yX6_read cX6_read 3 (some .int) ∈ jAll := jm_2 (List.mem_of_getElem? (i := 224) rfl) rfl
theorem q_465 : Cond.methodLink RX6 29 yX6_placeBehind ∈ jAll := jm_2 (List.mem_of_getElem? (i := 225) rfl) rfl
theorem q_466 : Cond.static yX6_placeBehind ∈ jAll := jm_2 (List.mem_of_getElem? (i := 226) rfl) rfl
theorem q_467 : Cond.code yX6_placeBehind cX6_placeBehind 3 (some .int) ∈ jAll := jm_2 (List.mem_of_getElem? (i := 227) rfl) rfl
theorem q_468 : Cond.methodLink RX6 33 yX6_readNumbers ∈ jAll := jm_2 (List.mem_of_getElem? (i := 228) rfl) rfl
theorem q_470 : Cond.instanceMethod yX6_readNumbers ∈ jAll := jm_2 (List.mem_of_getElem? (i := 230) rfl) rfl
theorem q_471 : Cond.code yX6_readNumbers cX6_readNumbers 5 (none : Option FieldType) ∈ jAll := jm_2 (List.mem_of_getElem? (i := 231) rfl) rfl
theorem q_472 : Cond.methodLink RX7 141 yX0_copyFrom ∈ jAll := jm_2 (List.mem_of_getElem? (i := 232) rfl) rfl
theorem q_473 : Cond.methodLink RX7 147 yX6_invoiceOf ∈ jAll := jm_2 (List.mem_of_getElem? (i := 233) rfl) rfl
theorem q_474 : Cond.instanceMethod yX6_invoiceOf ∈ jAll := jm_2 (List.mem_of_getElem? (i := 234) rfl) rfl
theorem q_475 : Cond.selects RX6 yX6_invoiceOf yX6_invoiceOf ∈ jAll := jm_2 (List.mem_of_getElem? (i := 235) rfl) rfl
theorem q_476 : Cond.code yX6_invoiceOf cX6_invoiceOf 2 (some .int) ∈ jAll := jm_2 (List.mem_of_getElem? (i := 236) rfl) rfl
theorem q_477 : Cond.methodLink RX7 150 yX6_centsOf ∈ jAll := jm_2 (List.mem_of_getElem? (i := 237) rfl) rfl
theorem q_478 : Cond.instanceMethod yX6_centsOf ∈ jAll := jm_2 (List.mem_of_getElem? (i := 238) rfl) rfl
theorem q_479 : Cond.selects RX6 yX6_centsOf yX6_centsOf ∈ jAll := jm_2 (List.mem_of_getElem? (i := 239) rfl) rfl
theorem q_480 : Cond.code yX6_centsOf cX6_centsOf 2 (some .int) ∈ jAll := jm_3 (List.mem_of_getElem? (i := 0) rfl) rfl
theorem q_481 : Cond.methodLink RL 53 yX7_refusal ∈ jAll := jm_3 (List.mem_of_getElem? (i := 1) rfl) rfl
theorem q_482 : Cond.instanceMethod yX7_refusal ∈ jAll := jm_3 (List.mem_of_getElem? (i := 2) rfl) rfl
theorem q_483 : Cond.selects RX7 yX7_refusal yX7_refusal ∈ jAll := jm_3 (List.mem_of_getElem? (i := 3) rfl) rfl
theorem q_484 : Cond.code yX7_refusal cX7_refusal 2 (some .int) ∈ jAll := jm_3 (List.mem_of_getElem? (i := 4) rfl) rfl
theorem q_485 : Cond.methodLink RL 57 yX7_pass ∈ jAll := jm_3 (List.mem_of_getElem? (i := 5) rfl) rfl
theorem q_486 : Cond.instanceMethod yX7_pass ∈ jAll := jm_3 (List.mem_of_getElem? (i := 6) rfl) rfl
theorem q_487 : Cond.selects RX7 yX7_pass yX7_pass ∈ jAll := jm_3 (List.mem_of_getElem? (i := 7) rfl) rfl
theorem q_488 : Cond.code yX7_pass cX7_pass 2 (some .int) ∈ jAll := jm_3 (List.mem_of_getElem? (i := 8) rfl) rfl
theorem q_489 : Cond.constant RX7 159 (99999 : Int32) ∈ jAll := jm_3 (List.mem_of_getElem? (i := 9) rfl) rfl
theorem q_490 : Cond.methodLink RL 61 yX7_type ∈ jAll := jm_3 (List.mem_of_getElem? (i := 10) rfl) rfl
theorem q_491 : Cond.instanceMethod yX7_type ∈ jAll := jm_3 (List.mem_of_getElem? (i := 11) rfl) rfl
theorem q_492 : Cond.selects RX7 yX7_type yX7_type ∈ jAll := jm_3 (List.mem_of_getElem? (i := 12) rfl) rfl
theorem q_493 : Cond.code yX7_type cX7_type 2 (some .int) ∈ jAll := jm_3 (List.mem_of_getElem? (i := 13) rfl) rfl
theorem q_494 : Cond.methodLink RX7 160 yX6_append ∈ jAll := jm_3 (List.mem_of_getElem? (i := 14) rfl) rfl
theorem q_495 : Cond.instanceMethod yX6_append ∈ jAll := jm_3 (List.mem_of_getElem? (i := 15) rfl) rfl
theorem q_496 : Cond.selects RX6 yX6_append yX6_append ∈ jAll := jm_3 (List.mem_of_getElem? (i := 16) rfl) rfl
theorem q_497 : Cond.code yX6_append cX6_append 2 (some .int) ∈ jAll := jm_3 (List.mem_of_getElem? (i := 17) rfl) rfl
theorem q_498 : Cond.methodLink RL 66 yX7_clearText ∈ jAll := jm_3 (List.mem_of_getElem? (i := 18) rfl) rfl
theorem q_499 : Cond.instanceMethod yX7_clearText ∈ jAll := jm_3 (List.mem_of_getElem? (i := 19) rfl) rfl
theorem q_500 : Cond.selects RX7 yX7_clearText yX7_clearText ∈ jAll := jm_3 (List.mem_of_getElem? (i := 20) rfl) rfl
theorem q_501 : Cond.code yX7_clearText cX7_clearText 2 (some .int) ∈ jAll := jm_3 (List.mem_of_getElem? (i := 21) rfl) rfl
theorem q_502 : Cond.methodLink RL 70 yX7_undo ∈ jAll := jm_3 (List.mem_of_getElem? (i := 22) rfl) rfl
theorem q_503 : Cond.instanceMethod yX7_undo ∈ jAll := jm_3 (List.mem_of_getElem? (i := 23) rfl) rfl
theorem q_504 : Cond.selects RX7 yX7_undo yX7_undo ∈ jAll := jm_3 (List.mem_of_getElem? (i := 24) rfl) rfl
theorem q_505 : Cond.code yX7_undo cX7_undo 1 (some .int) ∈ jAll := jm_3 (List.mem_of_getElem? (i := 25) rfl) rfl
theorem q_506 : Cond.methodLink RX7 167 yX2_popInto ∈ jAll := jm_3 (List.mem_of_getElem? (i := 26) rfl) rfl
theorem q_507 : Cond.instanceMethod yX2_popInto ∈ jAll := jm_3 (List.mem_of_getElem? (i := 27) rfl) rfl
theorem q_508 : Cond.selects RX2 yX2_popInto yX2_popInto ∈ jAll := jm_3 (List.mem_of_getElem? (i := 28) rfl) rfl
theorem q_509 : Cond.code yX2_popInto cX2_popInto 2 (none : Option FieldType) ∈ jAll := jm_3 (List.mem_of_getElem? (i := 29) rfl) rfl
theorem q_510 : Cond.methodLink RL 74 yX7_keep ∈ jAll := jm_3 (List.mem_of_getElem? (i := 30) rfl) rfl
theorem q_511 : Cond.instanceMethod yX7_keep ∈ jAll := jm_3 (List.mem_of_getElem? (i := 31) rfl) rfl
theorem q_512 : Cond.selects RX7 yX7_keep yX7_keep ∈ jAll := jm_3 (List.mem_of_getElem? (i := 32) rfl) rfl
theorem q_513 : Cond.code yX7_keep cX7_keep 1 (some .int) ∈ jAll := jm_3 (List.mem_of_getElem? (i := 33) rfl) rfl
theorem q_514 : Cond.methodLink RL 78 yX7_restore ∈ jAll := jm_3 (List.mem_of_getElem? (i := 34) rfl) rfl
theorem q_515 : Cond.instanceMethod yX7_restore ∈ jAll := jm_3 (List.mem_of_getElem? (i := 35) rfl) rfl
theorem q_516 : Cond.selects RX7 yX7_restore yX7_restore ∈ jAll := jm_3 (List.mem_of_getElem? (i := 36) rfl) rfl
theorem q_517 : Cond.code yX7_restore cX7_restore 1 (some .int) ∈ jAll := jm_3 (List.mem_of_getElem? (i := 37) rfl) rfl
theorem q_518 : Cond.methodLink RL 82 yX7_rate ∈ jAll := jm_3 (List.mem_of_getElem? (i := 38) rfl) rfl
theorem q_519 : Cond.instanceMethod yX7_rate ∈ jAll := jm_3 (List.mem_of_getElem? (i := 39) rfl) rfl
theorem q_520 : Cond.selects RX7 yX7_rate yX7_rate ∈ jAll := jm_3 (List.mem_of_getElem? (i := 40) rfl) rfl
theorem q_521 : Cond.code yX7_rate cX7_rate 2 (Option.some FieldType.float) ∈ jAll := jm_3 (List.mem_of_getElem? (i := 41) rfl) rfl
theorem q_522 : Cond.methodLink RX7 174 yX7_noNumber ∈ jAll := jm_3 (List.mem_of_getElem? (i := 42) rfl) rfl
theorem q_523 : Cond.methodLink RL 87 yX7_number ∈ jAll := jm_3 (List.mem_of_getElem? (i := 43) rfl) rfl
theorem q_524 : Cond.instanceMethod yX7_number ∈ jAll := jm_3 (List.mem_of_getElem? (i := 44) rfl) rfl
theorem q_525 : Cond.selects RX7 yX7_number yX7_number ∈ jAll := jm_3 (List.mem_of_getElem? (i := 45) rfl) rfl
theorem q_526 : Cond.code yX7_number cX7_number 2 (some .int) ∈ jAll := jm_3 (List.mem_of_getElem? (i := 46) rfl) rfl
theorem q_527 : Cond.methodLink RL 91 yX7_member ∈ jAll := jm_3 (List.mem_of_getElem? (i := 47) rfl) rfl
theorem q_528 : Cond.instanceMethod yX7_member ∈ jAll := jm_3 (List.mem_of_getElem? (i := 48) rfl) rfl
theorem q_529 : Cond.selects RX7 yX7_member yX7_member ∈ jAll := jm_3 (List.mem_of_getElem? (i := 49) rfl) rfl
theorem q_530 : Cond.code yX7_member cX7_member 4 (some .int) ∈ jAll := jm_3 (List.mem_of_getElem? (i := 50) rfl) rfl
theorem q_531 : Cond.constant RX7 184 (1000000000 : Int32) ∈ jAll := jm_3 (List.mem_of_getElem? (i := 51) rfl) rfl
theorem q_532 : Cond.methodLink RX7 185 yX3_countOfMember ∈ jAll := jm_3 (List.mem_of_getElem? (i := 52) rfl) rfl
theorem q_533 : Cond.instanceMethod yX3_countOfMember ∈ jAll := jm_3 (List.mem_of_getElem? (i := 53) rfl) rfl
theorem q_534 : Cond.selects RX3 yX3_countOfMember yX3_countOfMember ∈ jAll := jm_3 (List.mem_of_getElem? (i := 54) rfl) rfl
theorem q_535 : Cond.code yX3_countOfMember cX3_countOfMember 4 (some .int) ∈ jAll := jm_3 (List.mem_of_getElem? (i := 55) rfl) rfl
theorem q_536 : Cond.methodLink RX7 188 yX3_countOfMemberAhead ∈ jAll := jm_3 (List.mem_of_getElem? (i := 56) rfl) rfl
theorem q_537 : Cond.instanceMethod yX3_countOfMemberAhead ∈ jAll := jm_3 (List.mem_of_getElem? (i := 57) rfl) rfl
theorem q_538 : Cond.selects RX3 yX3_countOfMemberAhead yX3_countOfMemberAhead ∈ jAll := jm_3 (List.mem_of_getElem? (i := 58) rfl) rfl
theorem q_539 : Cond.code yX3_countOfMemberAhead cX3_countOfMemberAhead 4 (some .int) ∈ jAll := jm_3 (List.mem_of_getElem? (i := 59) rfl) rfl
theorem q_540 : Cond.methodLink RL 95 yX7_client ∈ jAll := jm_3 (List.mem_of_getElem? (i := 60) rfl) rfl
theorem q_541 : Cond.instanceMethod yX7_client ∈ jAll := jm_3 (List.mem_of_getElem? (i := 61) rfl) rfl
theorem q_542 : Cond.selects RX7 yX7_client yX7_client ∈ jAll := jm_3 (List.mem_of_getElem? (i := 62) rfl) rfl
theorem q_543 : Cond.code yX7_client cX7_client 4 (some .int) ∈ jAll := jm_3 (List.mem_of_getElem? (i := 63) rfl) rfl
theorem q_544 : Cond.methodLink RX7 203 yX3_countOfClientUnsettled ∈ jAll := jm_3 (List.mem_of_getElem? (i := 64) rfl) rfl
theorem q_545 : Cond.instanceMethod yX3_countOfClientUnsettled ∈ jAll := jm_3 (List.mem_of_getElem? (i := 65) rfl) rfl
theorem q_546 : Cond.selects RX3 yX3_countOfClientUnsettled yX3_countOfClientUnsettled ∈ jAll := jm_3 (List.mem_of_getElem? (i := 66) rfl) rfl
theorem q_547 : Cond.code yX3_countOfClientUnsettled cX3_countOfClientUnsettled 4 (some .int) ∈ jAll := jm_3 (List.mem_of_getElem? (i := 67) rfl) rfl
theorem q_548 : Cond.methodLink RX3 41 yX3_isUnsettled ∈ jAll := jm_3 (List.mem_of_getElem? (i := 68) rfl) rfl
theorem q_549 : Cond.methodLink RL 99 yX7_risk ∈ jAll := jm_3 (List.mem_of_getElem? (i := 69) rfl) rfl
theorem q_550 : Cond.instanceMethod yX7_risk ∈ jAll := jm_3 (List.mem_of_getElem? (i := 70) rfl) rfl
theorem q_551 : Cond.selects RX7 yX7_risk yX7_risk ∈ jAll := jm_3 (List.mem_of_getElem? (i := 71) rfl) rfl
theorem q_552 : Cond.code yX7_risk cX7_risk 2 (Option.some FieldType.float) ∈ jAll := jm_3 (List.mem_of_getElem? (i := 72) rfl) rfl
theorem q_553 : Cond.methodLink RX7 206 yX1_riskOf ∈ jAll := jm_3 (List.mem_of_getElem? (i := 73) rfl) rfl
theorem q_554 : Cond.methodLink RL 103 yX7_lateness ∈ jAll := jm_3 (List.mem_of_getElem? (i := 74) rfl) rfl
theorem q_555 : Cond.instanceMethod yX7_lateness ∈ jAll := jm_3 (List.mem_of_getElem? (i := 75) rfl) rfl
theorem q_556 : Cond.selects RX7 yX7_lateness yX7_lateness ∈ jAll := jm_3 (List.mem_of_getElem? (i := 76) rfl) rfl
theorem q_557 : Cond.code yX7_lateness cX7_lateness 2 (Option.some FieldType.float) ∈ jAll := jm_3 (List.mem_of_getElem? (i := 77) rfl) rfl
theorem q_558 : Cond.methodLink RX7 209 yX1_latenessOf ∈ jAll := jm_3 (List.mem_of_getElem? (i := 78) rfl) rfl
theorem q_559 : Cond.instanceMethod yX1_latenessOf ∈ jAll := jm_3 (List.mem_of_getElem? (i := 79) rfl) rfl
theorem q_560 : Cond.selects RX1 yX1_latenessOf yX1_latenessOf ∈ jAll := jm_3 (List.mem_of_getElem? (i := 80) rfl) rfl
theorem q_561 : Cond.code yX1_latenessOf cX1_latenessOf 2 (Option.some FieldType.float) ∈ jAll := jm_3 (List.mem_of_getElem? (i := 81) rfl) rfl
theorem q_562 : Cond.methodLink RL 107 yX7_invoice ∈ jAll := jm_3 (List.mem_of_getElem? (i := 82) rfl) rfl
theorem q_563 : Cond.instanceMethod yX7_invoice ∈ jAll := jm_3 (List.mem_of_getElem? (i := 83) rfl) rfl
theorem q_564 : Cond.selects RX7 yX7_invoice yX7_invoice ∈ jAll := jm_3 (List.mem_of_getElem? (i := 84) rfl) rfl
theorem q_565 : Cond.code yX7_invoice cX7_invoice 4 (some .int) ∈ jAll := jm_3 (List.mem_of_getElem? (i := 85) rfl) rfl
theorem q_566 : Cond.methodLink RX7 232 yX0_ageOf ∈ jAll := jm_3 (List.mem_of_getElem? (i := 86) rfl) rfl
theorem q_567 : Cond.constant RX7 235 (100000 : Int32) ∈ jAll := jm_3 (List.mem_of_getElem? (i := 87) rfl) rfl
theorem q_568 : Cond.methodLink RX7 236 yX0_offerAfter ∈ jAll := jm_3 (List.mem_of_getElem? (i := 88) rfl) rfl
theorem q_569 : Cond.methodLink RL 111 yX7_rateIn ∈ jAll := jm_3 (List.mem_of_getElem? (i := 89) rfl) rfl
theorem q_570 : Cond.instanceMethod yX7_rateIn ∈ jAll := jm_3 (List.mem_of_getElem? (i := 90) rfl) rfl
theorem q_571 : Cond.selects RX7 yX7_rateIn yX7_rateIn ∈ jAll := jm_3 (List.mem_of_getElem? (i := 91) rfl) rfl
theorem q_572 : Cond.code yX7_rateIn cX7_rateIn 3 (Option.some FieldType.float) ∈ jAll := jm_3 (List.mem_of_getElem? (i := 92) rfl) rfl
theorem q_573 : Cond.methodLink RX7 239 yX0_rateAfter ∈ jAll := jm_3 (List.mem_of_getElem? (i := 93) rfl) rfl
theorem q_574 : Cond.methodLink RL 116 yX7_worth ∈ jAll := jm_3 (List.mem_of_getElem? (i := 94) rfl) rfl
theorem q_575 : Cond.instanceMethod yX7_worth ∈ jAll := jm_3 (List.mem_of_getElem? (i := 95) rfl) rfl
theorem q_576 : Cond.selects RX7 yX7_worth yX7_worth ∈ jAll := jm_3 (List.mem_of_getElem? (i := 96) rfl) rfl
theorem q_577 : Cond.code yX7_worth cX7_worth 2 (Option.some FieldType.float) ∈ jAll := jm_3 (List.mem_of_getElem? (i := 97) rfl) rfl
theorem q_578 : Cond.methodLink RX7 243 yX0_worthOf ∈ jAll := jm_3 (List.mem_of_getElem? (i := 98) rfl) rfl
theorem q_579 : Cond.instanceMethod yX0_worthOf ∈ jAll := jm_3 (List.mem_of_getElem? (i := 99) rfl) rfl
theorem q_580 : Cond.selects RX0 yX0_worthOf yX0_worthOf ∈ jAll := jm_3 (List.mem_of_getElem? (i := 100) rfl) rfl
theorem q_581 : Cond.code yX0_worthOf cX0_worthOf 5 (Option.some FieldType.float) ∈ jAll := jm_3 (List.mem_of_getElem? (i := 101) rfl) rfl
theorem q_582 : Cond.methodLink RL 120 yX7_best ∈ jAll := jm_3 (List.mem_of_getElem? (i := 102) rfl) rfl
theorem q_583 : Cond.instanceMethod yX7_best ∈ jAll := jm_3 (List.mem_of_getElem? (i := 103) rfl) rfl
theorem q_584 : Cond.selects RX7 yX7_best yX7_best ∈ jAll := jm_3 (List.mem_of_getElem? (i := 104) rfl) rfl
theorem q_585 : Cond.code yX7_best cX7_best 3 (some .int) ∈ jAll := jm_3 (List.mem_of_getElem? (i := 105) rfl) rfl
theorem q_586 : Cond.methodLink RX7 247 yX5_insert ∈ jAll := jm_3 (List.mem_of_getElem? (i := 106) rfl) rfl
theorem q_587 : Cond.instanceMethod yX5_insert ∈ jAll := jm_3 (List.mem_of_getElem? (i := 107) rfl) rfl
theorem q_588 : Cond.selects RX5 yX5_insert yX5_insert ∈ jAll := jm_3 (List.mem_of_getElem? (i := 108) rfl) rfl
theorem q_589 : Cond.code yX5_insert cX5_insert 4 (none : Option FieldType) ∈ jAll := jm_3 (List.mem_of_getElem? (i := 109) rfl) rfl
theorem q_590 : Cond.methodLink RX7 251 yX5_invoiceAt ∈ jAll := jm_3 (List.mem_of_getElem? (i := 110) rfl) rfl
theorem q_591 : Cond.instanceMethod yX5_invoiceAt ∈ jAll := jm_3 (List.mem_of_getElem? (i := 111) rfl) rfl
theorem q_592 : Cond.selects RX5 yX5_invoiceAt yX5_invoiceAt ∈ jAll := jm_3 (List.mem_of_getElem? (i := 112) rfl) rfl
theorem q_593 : Cond.code yX5_invoiceAt cX5_invoiceAt 2 (some .int) ∈ jAll := jm_3 (List.mem_of_getElem? (i := 113) rfl) rfl
theorem q_594 : Cond.methodLink RL 124 yX7_worthlessIn ∈ jAll := jm_3 (List.mem_of_getElem? (i := 114) rfl) rfl
theorem q_595 : Cond.instanceMethod yX7_worthlessIn ∈ jAll := jm_3 (List.mem_of_getElem? (i := 115) rfl) rfl
theorem q_596 : Cond.selects RX7 yX7_worthlessIn yX7_worthlessIn ∈ jAll := jm_3 (List.mem_of_getElem? (i := 116) rfl) rfl
theorem q_597 : Cond.code yX7_worthlessIn cX7_worthlessIn 3 (some .int) ∈ jAll := jm_3 (List.mem_of_getElem? (i := 117) rfl) rfl
theorem q_598 : Cond.methodLink RL 128 yX7_exposure ∈ jAll := jm_3 (List.mem_of_getElem? (i := 118) rfl) rfl
theorem q_599 : Cond.instanceMethod yX7_exposure ∈ jAll := jm_3 (List.mem_of_getElem? (i := 119) rfl) rfl
theorem q_600 : Cond.selects RX7 yX7_exposure yX7_exposure ∈ jAll := jm_3 (List.mem_of_getElem? (i := 120) rfl) rfl
theorem q_601 : Cond.code yX7_exposure cX7_exposure 2 (Option.some FieldType.float) ∈ jAll := jm_3 (List.mem_of_getElem? (i := 121) rfl) rfl
theorem q_602 : Cond.methodLink RX7 254 yX4_allDues ∈ jAll := jm_3 (List.mem_of_getElem? (i := 122) rfl) rfl
theorem q_603 : Cond.methodLink RX7 257 yX3_advancesOut ∈ jAll := jm_3 (List.mem_of_getElem? (i := 123) rfl) rfl
theorem q_604 : Cond.instanceMethod yX3_advancesOut ∈ jAll := jm_3 (List.mem_of_getElem? (i := 124) rfl) rfl
theorem q_605 : Cond.selects RX3 yX3_advancesOut yX3_advancesOut ∈ jAll := jm_3 (List.mem_of_getElem? (i := 125) rfl) rfl
theorem q_606 : Cond.code yX3_advancesOut cX3_advancesOut 3 (some .int) ∈ jAll := jm_3 (List.mem_of_getElem? (i := 126) rfl) rfl
theorem q_607 : Cond.methodLink RL 133 yX7_count ∈ jAll := jm_3 (List.mem_of_getElem? (i := 127) rfl) rfl
theorem q_608 : Cond.instanceMethod yX7_count ∈ jAll := jm_3 (List.mem_of_getElem? (i := 128) rfl) rfl
theorem q_609 : Cond.selects RX7 yX7_count yX7_count ∈ jAll := jm_3 (List.mem_of_getElem? (i := 129) rfl) rfl
theorem q_610 : Cond.code yX7_count cX7_count 2 (some .int) ∈ jAll := jm_3 (List.mem_of_getElem? (i := 130) rfl) rfl
theorem q_611 : Cond.methodLink RX7 260 yX0_reserveCents ∈ jAll := jm_3 (List.mem_of_getElem? (i := 131) rfl) rfl
theorem q_612 : Cond.methodLink RX7 263 yX3_countOfState ∈ jAll := jm_3 (List.mem_of_getElem? (i := 132) rfl) rfl
theorem q_613 : Cond.instanceMethod yX3_countOfState ∈ jAll := jm_3 (List.mem_of_getElem? (i := 133) rfl) rfl
theorem q_614 : Cond.selects RX3 yX3_countOfState yX3_countOfState ∈ jAll := jm_3 (List.mem_of_getElem? (i := 134) rfl) rfl
theorem q_615 : Cond.code yX3_countOfState cX3_countOfState 4 (some .int) ∈ jAll := jm_3 (List.mem_of_getElem? (i := 135) rfl) rfl
theorem q_616 : Cond.classLink RL 10 RX8 ∈ jAll := jm_3 (List.mem_of_getElem? (i := 136) rfl) rfl
theorem q_617 : Cond.instantiable RX8 15 ∈ jAll := jm_3 (List.mem_of_getElem? (i := 137) rfl) rfl
theorem q_618 : Cond.methodLink RL 12 yX8_init ∈ jAll := jm_3 (List.mem_of_getElem? (i := 138) rfl) rfl
theorem q_619 : Cond.instanceMethod yX8_init ∈ jAll := jm_3 (List.mem_of_getElem? (i := 139) rfl) rfl
theorem q_620 : Cond.code yX8_init cX8_init 1 (none : Option FieldType) ∈ jAll := jm_3 (List.mem_of_getElem? (i := 140) rfl) rfl
theorem q_621 : Cond.methodLink RX8 1 objectInit ∈ jAll := jm_3 (List.mem_of_getElem? (i := 141) rfl) rfl
theorem q_622 : Cond.constant RX8 35 (1063675494 : Int32) ∈ jAll := jm_3 (List.mem_of_getElem? (i := 142) rfl) rfl
theorem q_623 : Cond.constant RX8 36 (1000593162 : Int32) ∈ jAll := jm_3 (List.mem_of_getElem? (i := 143) rfl) rfl
theorem q_624 : Cond.constant RX8 37 (1036831949 : Int32) ∈ jAll := jm_3 (List.mem_of_getElem? (i := 144) rfl) rfl
theorem q_625 : Cond.fieldLink RX8 7 RX8 "s" "[I" ∈ jAll := jm_3 (List.mem_of_getElem? (i := 145) rfl) rfl
theorem q_626 : Cond.fieldLink RX8 13 RX8 "aside" "[I" ∈ jAll := jm_3 (List.mem_of_getElem? (i := 146) rfl) rfl
theorem q_627 : Cond.fieldLink RX8 16 RX8 "before" "[I" ∈ jAll := jm_3 (List.mem_of_getElem? (i := 147) rfl) rfl
theorem q_628 : Cond.fieldLink RX8 42 RX8 "known" "I" ∈ jAll := jm_3 (List.mem_of_getElem? (i := 148) rfl) rfl
theorem q_629 : Cond.fieldLink RX8 19 RX8 "kept" "[I" ∈ jAll := jm_3 (List.mem_of_getElem? (i := 149) rfl) rfl
theorem q_630 : Cond.fieldLink RX8 154 RX8 "isKept" "Z" ∈ jAll := jm_3 (List.mem_of_getElem? (i := 150) rfl) rfl
theorem q_631 : Cond.fieldLink RX8 22 RX8 "text" "[I" ∈ jAll := jm_3 (List.mem_of_getElem? (i := 151) rfl) rfl
theorem q_632 : Cond.fieldLink RX8 127 RX8 "typed" "I" ∈ jAll := jm_3 (List.mem_of_getElem? (i := 152) rfl) rfl
theorem q_633 : Cond.fieldLink RX8 25 RX8 "refusedAt" "I" ∈ jAll := jm_3 (List.mem_of_getElem? (i := 153) rfl) rfl
theorem q_634 : Cond.fieldLink RX8 29 RX8 "refusedBy" "I" ∈ jAll := jm_3 (List.mem_of_getElem? (i := 154) rfl) rfl
theorem q_635 : Cond.fieldLink RX8 32 RX8 "shares" "[I" ∈ jAll := jm_3 (List.mem_of_getElem? (i := 155) rfl) rfl
theorem q_636 : Cond.fieldLink RX8 124 RX8 "at" "I" ∈ jAll := jm_3 (List.mem_of_getElem? (i := 156) rfl) rfl
theorem q_637 : Cond.fieldLink RX8 130 RX8 "isWrong" "Z" ∈ jAll := jm_3 (List.mem_of_getElem? (i := 157) rfl) rfl
theorem q_638 : Cond.fieldLink RX8 140 RX8 "settled" "I" ∈ jAll := jm_3 (List.mem_of_getElem? (i := 158) rfl) rfl
theorem q_639 : Cond.fieldLink RX8 137 RX8 "fault" "I" ∈ jAll := jm_3 (List.mem_of_getElem? (i := 159) rfl) rfl
theorem q_640 : Cond.laysFinal RX8 RX8 "s" "[I" ∈ jAll := jm_3 (List.mem_of_getElem? (i := 160) rfl) rfl
theorem q_642 : Cond.laysFinal RX8 RX8 "aside" "[I" ∈ jAll := jm_3 (List.mem_of_getElem? (i := 162) rfl) rfl
theorem q_644 : Cond.laysFinal RX8 RX8 "before" "[I" ∈ jAll := jm_3 (List.mem_of_getElem? (i := 164) rfl) rfl
theorem q_646 : Cond.lays RX8 RX8 "known" "I" ∈ jAll := jm_3 (List.mem_of_getElem? (i := 166) rfl) rfl
theorem q_648 : Cond.laysFinal RX8 RX8 "kept" "[I" ∈ jAll := jm_3 (List.mem_of_getElem? (i := 168) rfl) rfl
theorem q_650 : Cond.lays RX8 RX8 "isKept" "Z" ∈ jAll := jm_3 (List.mem_of_getElem? (i := 170) rfl) rfl
theorem q_652 : Cond.laysFinal RX8 RX8 "text" "[I" ∈ jAll := jm_3 (List.mem_of_getElem? (i := 172) rfl) rfl
theorem q_654 : Cond.lays RX8 RX8 "typed" "I" ∈ jAll := jm_3 (List.mem_of_getElem? (i := 174) rfl) rfl
theorem q_656 : Cond.lays RX8 RX8 "refusedAt" "I" ∈ jAll := jm_3 (List.mem_of_getElem? (i := 176) rfl) rfl
theorem q_658 : Cond.lays RX8 RX8 "refusedBy" "I" ∈ jAll := jm_3 (List.mem_of_getElem? (i := 178) rfl) rfl
theorem q_660 : Cond.laysFinal RX8 RX8 "shares" "[I" ∈ jAll := jm_3 (List.mem_of_getElem? (i := 180) rfl) rfl
theorem q_662 : Cond.lays RX8 RX8 "at" "I" ∈ jAll := jm_3 (List.mem_of_getElem? (i := 182) rfl) rfl
theorem q_664 : Cond.lays RX8 RX8 "isWrong" "Z" ∈ jAll := jm_3 (List.mem_of_getElem? (i := 184) rfl) rfl
theorem q_666 : Cond.lays RX8 RX8 "settled" "I" ∈ jAll := jm_3 (List.mem_of_getElem? (i := 186) rfl) rfl
theorem q_668 : Cond.lays RX8 RX8 "fault" "I" ∈ jAll := jm_3 (List.mem_of_getElem? (i := 188) rfl) rfl
theorem q_670 : Cond.superclass RX8 "java/lang/Object" ∈ jAll := jm_3 (List.mem_of_getElem? (i := 190) rfl) rfl
theorem q_671 : Cond.methodLink RL 17 yX8_setRate ∈ jAll := jm_3 (List.mem_of_getElem? (i := 191) rfl) rfl
theorem q_672 : Cond.instanceMethod yX8_setRate ∈ jAll := jm_3 (List.mem_of_getElem? (i := 192) rfl) rfl
theorem q_673 : Cond.selects RX8 yX8_setRate yX8_setRate ∈ jAll := jm_3 (List.mem_of_getElem? (i := 193) rfl) rfl
theorem q_674 : Cond.code yX8_setRate cX8_setRate 7 (some .int) ∈ jAll := jm_3 (List.mem_of_getElem? (i := 194) rfl) rfl
theorem q_675 : Cond.methodLink RX8 38 yX8_in ∈ jAll := jm_3 (List.mem_of_getElem? (i := 195) rfl) rfl
theorem q_676 : Cond.static yX8_in ∈ jAll := jm_3 (List.mem_of_getElem? (i := 196) rfl) rfl
theorem q_677 : Cond.code yX8_in cX8_in 3 (Option.some FieldType.boolean) ∈ jAll := jm_3 (List.mem_of_getElem? (i := 197) rfl) rfl
theorem q_678 : Cond.methodLink RX8 51 yX8_ofBits ∈ jAll := jm_3 (List.mem_of_getElem? (i := 198) rfl) rfl
theorem q_679 : Cond.static yX8_ofBits ∈ jAll := jm_3 (List.mem_of_getElem? (i := 199) rfl) rfl
theorem q_680 : Cond.code yX8_ofBits cX8_ofBits 4 (Option.some FieldType.float) ∈ jAll := jm_3 (List.mem_of_getElem? (i := 200) rfl) rfl
theorem q_681 : Cond.constant RX8 48 (8388607 : Int32) ∈ jAll := jm_3 (List.mem_of_getElem? (i := 201) rfl) rfl
theorem q_682 : Cond.constant RX8 49 (8388608 : Int32) ∈ jAll := jm_3 (List.mem_of_getElem? (i := 202) rfl) rfl
theorem q_683 : Cond.constantFloat RX8 50 (1056964608 : UInt32) ∈ jAll := jm_3 (List.mem_of_getElem? (i := 203) rfl) rfl
theorem q_684 : Cond.constantFloat RX8 78 (3212836864 : UInt32) ∈ jAll := jm_3 (List.mem_of_getElem? (i := 204) rfl) rfl
theorem q_685 : Cond.constantFloat RX8 79 (1036831949 : UInt32) ∈ jAll := jm_3 (List.mem_of_getElem? (i := 205) rfl) rfl
theorem q_686 : Cond.constantFloat RX8 80 (1028443341 : UInt32) ∈ jAll := jm_3 (List.mem_of_getElem? (i := 206) rfl) rfl
theorem q_687 : Cond.methodLink RX8 81 yX8_know ∈ jAll := jm_3 (List.mem_of_getElem? (i := 207) rfl) rfl
theorem q_689 : Cond.instanceMethod yX8_know ∈ jAll := jm_3 (List.mem_of_getElem? (i := 209) rfl) rfl
theorem q_690 : Cond.code yX8_know cX8_know 2 (none : Option FieldType) ∈ jAll := jm_3 (List.mem_of_getElem? (i := 210) rfl) rfl
theorem q_691 : Cond.methodLink RL 21 yX8_setNumber ∈ jAll := jm_3 (List.mem_of_getElem? (i := 211) rfl) rfl
theorem q_692 : Cond.instanceMethod yX8_setNumber ∈ jAll := jm_3 (List.mem_of_getElem? (i := 212) rfl) rfl
theorem q_693 : Cond.selects RX8 yX8_setNumber yX8_setNumber ∈ jAll := jm_3 (List.mem_of_getElem? (i := 213) rfl) rfl
theorem q_694 : Cond.code yX8_setNumber cX8_setNumber 4 (some .int) ∈ jAll := jm_3 (List.mem_of_getElem? (i := 214) rfl) rfl
theorem q_695 : Cond.methodLink RL 26 yX8_addMember ∈ jAll := jm_3 (List.mem_of_getElem? (i := 215) rfl) rfl
theorem q_696 : Cond.instanceMethod yX8_addMember ∈ jAll := jm_3 (List.mem_of_getElem? (i := 216) rfl) rfl
theorem q_697 : Cond.selects RX8 yX8_addMember yX8_addMember ∈ jAll := jm_3 (List.mem_of_getElem? (i := 217) rfl) rfl
theorem q_698 : Cond.code yX8_addMember cX8_addMember 3 (some .int) ∈ jAll := jm_3 (List.mem_of_getElem? (i := 218) rfl) rfl
theorem q_699 : Cond.methodLink RX8 84 yX8_ofMember ∈ jAll := jm_3 (List.mem_of_getElem? (i := 219) rfl) rfl
theorem q_700 : Cond.static yX8_ofMember ∈ jAll := jm_3 (List.mem_of_getElem? (i := 220) rfl) rfl
theorem q_701 : Cond.code yX8_ofMember cX8_ofMember 2 (some .int) ∈ jAll := jm_3 (List.mem_of_getElem? (i := 221) rfl) rfl
theorem q_702 : Cond.methodLink RL 30 yX8_payDues ∈ jAll := jm_3 (List.mem_of_getElem? (i := 222) rfl) rfl
theorem q_703 : Cond.instanceMethod yX8_payDues ∈ jAll := jm_3 (List.mem_of_getElem? (i := 223) rfl) rfl
theorem q_704 : Cond.selects RX8 yX8_payDues yX8_payDues ∈ jAll := jm_3 (List.mem_of_getElem? (i := 224) rfl) rfl
theorem q_705 : Cond.code yX8_payDues cX8_payDues 3 (some .int) ∈ jAll := jm_3 (List.mem_of_getElem? (i := 225) rfl) rfl
theorem q_706 : Cond.methodLink RX8 87 yX8_isMember ∈ jAll := jm_3 (List.mem_of_getElem? (i := 226) rfl) rfl
theorem q_708 : Cond.instanceMethod yX8_isMember ∈ jAll := jm_3 (List.mem_of_getElem? (i := 228) rfl) rfl
theorem q_709 : Cond.code yX8_isMember cX8_isMember 2 (Option.some FieldType.boolean) ∈ jAll := jm_3 (List.mem_of_getElem? (i := 229) rfl) rfl
theorem q_710 : Cond.constant RX8 91 (1000000 : Int32) ∈ jAll := jm_3 (List.mem_of_getElem? (i := 230) rfl) rfl
theorem q_711 : Cond.constant RX8 92 (100000000 : Int32) ∈ jAll := jm_3 (List.mem_of_getElem? (i := 231) rfl) rfl
theorem q_712 : Cond.methodLink RL 35 yX8_addInvoice ∈ jAll := jm_3 (List.mem_of_getElem? (i := 232) rfl) rfl
theorem q_713 : Cond.instanceMethod yX8_addInvoice ∈ jAll := jm_3 (List.mem_of_getElem? (i := 233) rfl) rfl
theorem q_714 : Cond.selects RX8 yX8_addInvoice yX8_addInvoice ∈ jAll := jm_3 (List.mem_of_getElem? (i := 234) rfl) rfl
theorem q_715 : Cond.code yX8_addInvoice cX8_addInvoice 6 (some .int) ∈ jAll := jm_3 (List.mem_of_getElem? (i := 235) rfl) rfl
theorem q_716 : Cond.methodLink RX8 93 yX8_isClient ∈ jAll := jm_3 (List.mem_of_getElem? (i := 236) rfl) rfl
theorem q_717 : Cond.static yX8_isClient ∈ jAll := jm_3 (List.mem_of_getElem? (i := 237) rfl) rfl
theorem q_718 : Cond.code yX8_isClient cX8_isClient 1 (Option.some FieldType.boolean) ∈ jAll := jm_3 (List.mem_of_getElem? (i := 238) rfl) rfl
theorem q_719 : Cond.methodLink RX8 59 yX8_of ∈ jAll := jm_3 (List.mem_of_getElem? (i := 239) rfl) rfl
theorem q_720 : Cond.static yX8_of ∈ jAll := jm_4 (List.mem_of_getElem? (i := 0) rfl) rfl
theorem q_721 : Cond.code yX8_of cX8_of 2 (some .int) ∈ jAll := jm_4 (List.mem_of_getElem? (i := 1) rfl) rfl
theorem q_722 : Cond.methodLink RL 39 yX8_payAhead ∈ jAll := jm_4 (List.mem_of_getElem? (i := 2) rfl) rfl
theorem q_723 : Cond.instanceMethod yX8_payAhead ∈ jAll := jm_4 (List.mem_of_getElem? (i := 3) rfl) rfl
theorem q_724 : Cond.selects RX8 yX8_payAhead yX8_payAhead ∈ jAll := jm_4 (List.mem_of_getElem? (i := 4) rfl) rfl
theorem q_725 : Cond.code yX8_payAhead cX8_payAhead 3 (some .int) ∈ jAll := jm_4 (List.mem_of_getElem? (i := 5) rfl) rfl
theorem q_726 : Cond.methodLink RX8 105 yX8_isInvoice ∈ jAll := jm_4 (List.mem_of_getElem? (i := 6) rfl) rfl
theorem q_728 : Cond.instanceMethod yX8_isInvoice ∈ jAll := jm_4 (List.mem_of_getElem? (i := 8) rfl) rfl
theorem q_729 : Cond.code yX8_isInvoice cX8_isInvoice 2 (Option.some FieldType.boolean) ∈ jAll := jm_4 (List.mem_of_getElem? (i := 9) rfl) rfl
theorem q_730 : Cond.methodLink RX8 108 yX8_mayAhead ∈ jAll := jm_4 (List.mem_of_getElem? (i := 10) rfl) rfl
theorem q_732 : Cond.instanceMethod yX8_mayAhead ∈ jAll := jm_4 (List.mem_of_getElem? (i := 12) rfl) rfl
theorem q_733 : Cond.code yX8_mayAhead cX8_mayAhead 4 (Option.some FieldType.boolean) ∈ jAll := jm_4 (List.mem_of_getElem? (i := 13) rfl) rfl
theorem q_734 : Cond.methodLink RX8 75 yX8_offerBehind ∈ jAll := jm_4 (List.mem_of_getElem? (i := 14) rfl) rfl
theorem q_736 : Cond.instanceMethod yX8_offerBehind ∈ jAll := jm_4 (List.mem_of_getElem? (i := 16) rfl) rfl
theorem q_737 : Cond.code yX8_offerBehind cX8_offerBehind 3 (some .int) ∈ jAll := jm_4 (List.mem_of_getElem? (i := 17) rfl) rfl
theorem q_738 : Cond.methodLink RX8 71 yX8_rateBehind ∈ jAll := jm_4 (List.mem_of_getElem? (i := 18) rfl) rfl
theorem q_740 : Cond.instanceMethod yX8_rateBehind ∈ jAll := jm_4 (List.mem_of_getElem? (i := 20) rfl) rfl
theorem q_741 : Cond.code yX8_rateBehind cX8_rateBehind 5 (Option.some FieldType.float) ∈ jAll := jm_4 (List.mem_of_getElem? (i := 21) rfl) rfl
theorem q_742 : Cond.methodLink RX8 62 yX8_rateOf ∈ jAll := jm_4 (List.mem_of_getElem? (i := 22) rfl) rfl
theorem q_744 : Cond.instanceMethod yX8_rateOf ∈ jAll := jm_4 (List.mem_of_getElem? (i := 24) rfl) rfl
theorem q_745 : Cond.code yX8_rateOf cX8_rateOf 2 (Option.some FieldType.float) ∈ jAll := jm_4 (List.mem_of_getElem? (i := 25) rfl) rfl
theorem q_746 : Cond.methodLink RX8 65 yX8_late ∈ jAll := jm_4 (List.mem_of_getElem? (i := 26) rfl) rfl
theorem q_748 : Cond.instanceMethod yX8_late ∈ jAll := jm_4 (List.mem_of_getElem? (i := 28) rfl) rfl
theorem q_749 : Cond.code yX8_late cX8_late 4 (some .int) ∈ jAll := jm_4 (List.mem_of_getElem? (i := 29) rfl) rfl
theorem q_750 : Cond.methodLink RX8 68 yX8_riskOf ∈ jAll := jm_4 (List.mem_of_getElem? (i := 30) rfl) rfl
theorem q_752 : Cond.instanceMethod yX8_riskOf ∈ jAll := jm_4 (List.mem_of_getElem? (i := 32) rfl) rfl
theorem q_753 : Cond.code yX8_riskOf cX8_riskOf 3 (Option.some FieldType.float) ∈ jAll := jm_4 (List.mem_of_getElem? (i := 33) rfl) rfl
theorem q_754 : Cond.methodLink RX8 55 yX8_ofClient ∈ jAll := jm_4 (List.mem_of_getElem? (i := 34) rfl) rfl
theorem q_755 : Cond.static yX8_ofClient ∈ jAll := jm_4 (List.mem_of_getElem? (i := 35) rfl) rfl
theorem q_756 : Cond.code yX8_ofClient cX8_ofClient 2 (some .int) ∈ jAll := jm_4 (List.mem_of_getElem? (i := 36) rfl) rfl
theorem q_757 : Cond.methodLink RX8 102 yX8_reserve ∈ jAll := jm_4 (List.mem_of_getElem? (i := 37) rfl) rfl
theorem q_759 : Cond.instanceMethod yX8_reserve ∈ jAll := jm_4 (List.mem_of_getElem? (i := 39) rfl) rfl
theorem q_760 : Cond.code yX8_reserve cX8_reserve 1 (some .int) ∈ jAll := jm_4 (List.mem_of_getElem? (i := 40) rfl) rfl
theorem q_761 : Cond.methodLink RX8 96 yX8_allDues ∈ jAll := jm_4 (List.mem_of_getElem? (i := 41) rfl) rfl
theorem q_763 : Cond.instanceMethod yX8_allDues ∈ jAll := jm_4 (List.mem_of_getElem? (i := 43) rfl) rfl
theorem q_764 : Cond.code yX8_allDues cX8_allDues 3 (some .int) ∈ jAll := jm_4 (List.mem_of_getElem? (i := 44) rfl) rfl
theorem q_765 : Cond.constantLong RX8 100 (100 : Int64) ∈ jAll := jm_4 (List.mem_of_getElem? (i := 45) rfl) rfl
theorem q_766 : Cond.methodLink RL 43 yX8_pay ∈ jAll := jm_4 (List.mem_of_getElem? (i := 46) rfl) rfl
theorem q_767 : Cond.instanceMethod yX8_pay ∈ jAll := jm_4 (List.mem_of_getElem? (i := 47) rfl) rfl
theorem q_768 : Cond.selects RX8 yX8_pay yX8_pay ∈ jAll := jm_4 (List.mem_of_getElem? (i := 48) rfl) rfl
theorem q_769 : Cond.code yX8_pay cX8_pay 4 (some .int) ∈ jAll := jm_4 (List.mem_of_getElem? (i := 49) rfl) rfl
theorem q_770 : Cond.methodLink RX8 111 yX8_payFault ∈ jAll := jm_4 (List.mem_of_getElem? (i := 50) rfl) rfl
theorem q_772 : Cond.instanceMethod yX8_payFault ∈ jAll := jm_4 (List.mem_of_getElem? (i := 52) rfl) rfl
theorem q_773 : Cond.code yX8_payFault cX8_payFault 3 (some .int) ∈ jAll := jm_4 (List.mem_of_getElem? (i := 53) rfl) rfl
theorem q_774 : Cond.methodLink RX8 114 yX8_pays ∈ jAll := jm_4 (List.mem_of_getElem? (i := 54) rfl) rfl
theorem q_776 : Cond.instanceMethod yX8_pays ∈ jAll := jm_4 (List.mem_of_getElem? (i := 56) rfl) rfl
theorem q_777 : Cond.code yX8_pays cX8_pays 9 (some .int) ∈ jAll := jm_4 (List.mem_of_getElem? (i := 57) rfl) rfl
theorem q_778 : Cond.methodLink RL 47 yX8_giveUp ∈ jAll := jm_4 (List.mem_of_getElem? (i := 58) rfl) rfl
theorem q_779 : Cond.instanceMethod yX8_giveUp ∈ jAll := jm_4 (List.mem_of_getElem? (i := 59) rfl) rfl
theorem q_780 : Cond.selects RX8 yX8_giveUp yX8_giveUp ∈ jAll := jm_4 (List.mem_of_getElem? (i := 60) rfl) rfl
theorem q_781 : Cond.code yX8_giveUp cX8_giveUp 3 (some .int) ∈ jAll := jm_4 (List.mem_of_getElem? (i := 61) rfl) rfl
theorem q_782 : Cond.methodLink RX8 117 yX8_mayGiveUp ∈ jAll := jm_4 (List.mem_of_getElem? (i := 62) rfl) rfl
theorem q_784 : Cond.instanceMethod yX8_mayGiveUp ∈ jAll := jm_4 (List.mem_of_getElem? (i := 64) rfl) rfl
theorem q_785 : Cond.code yX8_mayGiveUp cX8_mayGiveUp 2 (Option.some FieldType.boolean) ∈ jAll := jm_4 (List.mem_of_getElem? (i := 65) rfl) rfl
theorem q_786 : Cond.methodLink RX8 120 yX8_share ∈ jAll := jm_4 (List.mem_of_getElem? (i := 66) rfl) rfl
theorem q_788 : Cond.instanceMethod yX8_share ∈ jAll := jm_4 (List.mem_of_getElem? (i := 68) rfl) rfl
theorem q_789 : Cond.code yX8_share cX8_share 7 (none : Option FieldType) ∈ jAll := jm_4 (List.mem_of_getElem? (i := 69) rfl) rfl
theorem q_790 : Cond.methodLink RL 52 yX8_readPayments ∈ jAll := jm_4 (List.mem_of_getElem? (i := 70) rfl) rfl
theorem q_791 : Cond.instanceMethod yX8_readPayments ∈ jAll := jm_4 (List.mem_of_getElem? (i := 71) rfl) rfl
theorem q_792 : Cond.selects RX8 yX8_readPayments yX8_readPayments ∈ jAll := jm_4 (List.mem_of_getElem? (i := 72) rfl) rfl
theorem q_793 : Cond.code yX8_readPayments cX8_readPayments 3 (some .int) ∈ jAll := jm_4 (List.mem_of_getElem? (i := 73) rfl) rfl
theorem q_794 : Cond.methodLink RX8 146 yX8_go ∈ jAll := jm_4 (List.mem_of_getElem? (i := 74) rfl) rfl
theorem q_796 : Cond.instanceMethod yX8_go ∈ jAll := jm_4 (List.mem_of_getElem? (i := 76) rfl) rfl
theorem q_797 : Cond.code yX8_go cX8_go 8 (some .int) ∈ jAll := jm_4 (List.mem_of_getElem? (i := 77) rfl) rfl
theorem q_798 : Cond.methodLink RX8 143 yX8_number ∈ jAll := jm_4 (List.mem_of_getElem? (i := 78) rfl) rfl
theorem q_800 : Cond.instanceMethod yX8_number ∈ jAll := jm_4 (List.mem_of_getElem? (i := 80) rfl) rfl
theorem q_801 : Cond.code yX8_number cX8_number 5 (some .int) ∈ jAll := jm_4 (List.mem_of_getElem? (i := 81) rfl) rfl
theorem q_802 : Cond.methodLink RX8 134 yX8_sign ∈ jAll := jm_4 (List.mem_of_getElem? (i := 82) rfl) rfl
theorem q_804 : Cond.instanceMethod yX8_sign ∈ jAll := jm_4 (List.mem_of_getElem? (i := 84) rfl) rfl
theorem q_805 : Cond.code yX8_sign cX8_sign 4 (some .int) ∈ jAll := jm_4 (List.mem_of_getElem? (i := 85) rfl) rfl
theorem q_806 : Cond.methodLink RX8 150 yX8_swap ∈ jAll := jm_4 (List.mem_of_getElem? (i := 86) rfl) rfl
theorem q_808 : Cond.instanceMethod yX8_swap ∈ jAll := jm_4 (List.mem_of_getElem? (i := 88) rfl) rfl
theorem q_809 : Cond.code yX8_swap cX8_swap 3 (none : Option FieldType) ∈ jAll := jm_4 (List.mem_of_getElem? (i := 89) rfl) rfl
theorem q_810 : Cond.methodLink RL 56 yX8_refusal ∈ jAll := jm_4 (List.mem_of_getElem? (i := 90) rfl) rfl
theorem q_811 : Cond.instanceMethod yX8_refusal ∈ jAll := jm_4 (List.mem_of_getElem? (i := 91) rfl) rfl
theorem q_812 : Cond.selects RX8 yX8_refusal yX8_refusal ∈ jAll := jm_4 (List.mem_of_getElem? (i := 92) rfl) rfl
theorem q_813 : Cond.code yX8_refusal cX8_refusal 2 (some .int) ∈ jAll := jm_4 (List.mem_of_getElem? (i := 93) rfl) rfl
theorem q_814 : Cond.methodLink RL 60 yX8_pass ∈ jAll := jm_4 (List.mem_of_getElem? (i := 94) rfl) rfl
theorem q_815 : Cond.instanceMethod yX8_pass ∈ jAll := jm_4 (List.mem_of_getElem? (i := 95) rfl) rfl
theorem q_816 : Cond.selects RX8 yX8_pass yX8_pass ∈ jAll := jm_4 (List.mem_of_getElem? (i := 96) rfl) rfl
theorem q_817 : Cond.code yX8_pass cX8_pass 2 (some .int) ∈ jAll := jm_4 (List.mem_of_getElem? (i := 97) rfl) rfl
theorem q_818 : Cond.constant RX8 153 (99999 : Int32) ∈ jAll := jm_4 (List.mem_of_getElem? (i := 98) rfl) rfl
theorem q_819 : Cond.methodLink RL 65 yX8_type ∈ jAll := jm_4 (List.mem_of_getElem? (i := 99) rfl) rfl
theorem q_820 : Cond.instanceMethod yX8_type ∈ jAll := jm_4 (List.mem_of_getElem? (i := 100) rfl) rfl
theorem q_821 : Cond.selects RX8 yX8_type yX8_type ∈ jAll := jm_4 (List.mem_of_getElem? (i := 101) rfl) rfl
theorem q_822 : Cond.code yX8_type cX8_type 2 (some .int) ∈ jAll := jm_4 (List.mem_of_getElem? (i := 102) rfl) rfl
theorem q_823 : Cond.methodLink RL 69 yX8_clearText ∈ jAll := jm_4 (List.mem_of_getElem? (i := 103) rfl) rfl
theorem q_824 : Cond.instanceMethod yX8_clearText ∈ jAll := jm_4 (List.mem_of_getElem? (i := 104) rfl) rfl
theorem q_825 : Cond.selects RX8 yX8_clearText yX8_clearText ∈ jAll := jm_4 (List.mem_of_getElem? (i := 105) rfl) rfl
theorem q_826 : Cond.code yX8_clearText cX8_clearText 2 (some .int) ∈ jAll := jm_4 (List.mem_of_getElem? (i := 106) rfl) rfl
theorem q_827 : Cond.methodLink RL 73 yX8_undo ∈ jAll := jm_4 (List.mem_of_getElem? (i := 107) rfl) rfl
theorem q_828 : Cond.instanceMethod yX8_undo ∈ jAll := jm_4 (List.mem_of_getElem? (i := 108) rfl) rfl
theorem q_829 : Cond.selects RX8 yX8_undo yX8_undo ∈ jAll := jm_4 (List.mem_of_getElem? (i := 109) rfl) rfl
theorem q_830 : Cond.code yX8_undo cX8_undo 2 (some .int) ∈ jAll := jm_4 (List.mem_of_getElem? (i := 110) rfl) rfl
theorem q_831 : Cond.methodLink RL 77 yX8_keep ∈ jAll := jm_4 (List.mem_of_getElem? (i := 111) rfl) rfl
theorem q_832 : Cond.instanceMethod yX8_keep ∈ jAll := jm_4 (List.mem_of_getElem? (i := 112) rfl) rfl
theorem q_833 : Cond.selects RX8 yX8_keep yX8_keep ∈ jAll := jm_4 (List.mem_of_getElem? (i := 113) rfl) rfl
theorem q_834 : Cond.code yX8_keep cX8_keep 2 (some .int) ∈ jAll := jm_4 (List.mem_of_getElem? (i := 114) rfl) rfl
theorem q_835 : Cond.methodLink RL 81 yX8_restore ∈ jAll := jm_4 (List.mem_of_getElem? (i := 115) rfl) rfl
theorem q_836 : Cond.instanceMethod yX8_restore ∈ jAll := jm_4 (List.mem_of_getElem? (i := 116) rfl) rfl
theorem q_837 : Cond.selects RX8 yX8_restore yX8_restore ∈ jAll := jm_4 (List.mem_of_getElem? (i := 117) rfl) rfl
theorem q_838 : Cond.code yX8_restore cX8_restore 2 (some .int) ∈ jAll := jm_4 (List.mem_of_getElem? (i := 118) rfl) rfl
theorem q_839 : Cond.methodLink RL 86 yX8_rate ∈ jAll := jm_4 (List.mem_of_getElem? (i := 119) rfl) rfl
theorem q_840 : Cond.instanceMethod yX8_rate ∈ jAll := jm_4 (List.mem_of_getElem? (i := 120) rfl) rfl
theorem q_841 : Cond.selects RX8 yX8_rate yX8_rate ∈ jAll := jm_4 (List.mem_of_getElem? (i := 121) rfl) rfl
theorem q_842 : Cond.code yX8_rate cX8_rate 2 (Option.some FieldType.float) ∈ jAll := jm_4 (List.mem_of_getElem? (i := 122) rfl) rfl
theorem q_843 : Cond.methodLink RX8 157 yX8_nan ∈ jAll := jm_4 (List.mem_of_getElem? (i := 123) rfl) rfl
theorem q_844 : Cond.static yX8_nan ∈ jAll := jm_4 (List.mem_of_getElem? (i := 124) rfl) rfl
theorem q_845 : Cond.code yX8_nan cX8_nan 0 (Option.some FieldType.float) ∈ jAll := jm_4 (List.mem_of_getElem? (i := 125) rfl) rfl
theorem q_846 : Cond.constantFloat RX8 47 (2143289344 : UInt32) ∈ jAll := jm_4 (List.mem_of_getElem? (i := 126) rfl) rfl
theorem q_847 : Cond.methodLink RL 90 yX8_number_ ∈ jAll := jm_4 (List.mem_of_getElem? (i := 127) rfl) rfl
theorem q_848 : Cond.instanceMethod yX8_number_ ∈ jAll := jm_4 (List.mem_of_getElem? (i := 128) rfl) rfl
theorem q_849 : Cond.selects RX8 yX8_number_ yX8_number_ ∈ jAll := jm_4 (List.mem_of_getElem? (i := 129) rfl) rfl
theorem q_850 : Cond.code yX8_number_ cX8_number_ 2 (some .int) ∈ jAll := jm_4 (List.mem_of_getElem? (i := 130) rfl) rfl
theorem q_851 : Cond.methodLink RL 94 yX8_member ∈ jAll := jm_4 (List.mem_of_getElem? (i := 131) rfl) rfl
theorem q_852 : Cond.instanceMethod yX8_member ∈ jAll := jm_4 (List.mem_of_getElem? (i := 132) rfl) rfl
theorem q_853 : Cond.selects RX8 yX8_member yX8_member ∈ jAll := jm_4 (List.mem_of_getElem? (i := 133) rfl) rfl
theorem q_854 : Cond.code yX8_member cX8_member 3 (some .int) ∈ jAll := jm_4 (List.mem_of_getElem? (i := 134) rfl) rfl
theorem q_855 : Cond.constant RX8 161 (1000000000 : Int32) ∈ jAll := jm_4 (List.mem_of_getElem? (i := 135) rfl) rfl
theorem q_856 : Cond.methodLink RX8 162 yX8_invoices ∈ jAll := jm_4 (List.mem_of_getElem? (i := 136) rfl) rfl
theorem q_858 : Cond.instanceMethod yX8_invoices ∈ jAll := jm_4 (List.mem_of_getElem? (i := 138) rfl) rfl
theorem q_859 : Cond.code yX8_invoices cX8_invoices 7 (some .int) ∈ jAll := jm_4 (List.mem_of_getElem? (i := 139) rfl) rfl
theorem q_860 : Cond.methodLink RL 98 yX8_client ∈ jAll := jm_4 (List.mem_of_getElem? (i := 140) rfl) rfl
theorem q_861 : Cond.instanceMethod yX8_client ∈ jAll := jm_4 (List.mem_of_getElem? (i := 141) rfl) rfl
theorem q_862 : Cond.selects RX8 yX8_client yX8_client ∈ jAll := jm_4 (List.mem_of_getElem? (i := 142) rfl) rfl
theorem q_863 : Cond.code yX8_client cX8_client 3 (some .int) ∈ jAll := jm_4 (List.mem_of_getElem? (i := 143) rfl) rfl
theorem q_864 : Cond.methodLink RL 102 yX8_risk ∈ jAll := jm_4 (List.mem_of_getElem? (i := 144) rfl) rfl
theorem q_865 : Cond.instanceMethod yX8_risk ∈ jAll := jm_4 (List.mem_of_getElem? (i := 145) rfl) rfl
theorem q_866 : Cond.selects RX8 yX8_risk yX8_risk ∈ jAll := jm_4 (List.mem_of_getElem? (i := 146) rfl) rfl
theorem q_867 : Cond.code yX8_risk cX8_risk 2 (Option.some FieldType.float) ∈ jAll := jm_4 (List.mem_of_getElem? (i := 147) rfl) rfl
theorem q_868 : Cond.methodLink RL 106 yX8_lateness ∈ jAll := jm_4 (List.mem_of_getElem? (i := 148) rfl) rfl
theorem q_869 : Cond.instanceMethod yX8_lateness ∈ jAll := jm_4 (List.mem_of_getElem? (i := 149) rfl) rfl
theorem q_870 : Cond.selects RX8 yX8_lateness yX8_lateness ∈ jAll := jm_4 (List.mem_of_getElem? (i := 150) rfl) rfl
theorem q_871 : Cond.code yX8_lateness cX8_lateness 3 (Option.some FieldType.float) ∈ jAll := jm_4 (List.mem_of_getElem? (i := 151) rfl) rfl
theorem q_872 : Cond.methodLink RL 110 yX8_invoice ∈ jAll := jm_4 (List.mem_of_getElem? (i := 152) rfl) rfl
theorem q_873 : Cond.instanceMethod yX8_invoice ∈ jAll := jm_4 (List.mem_of_getElem? (i := 153) rfl) rfl
theorem q_874 : Cond.selects RX8 yX8_invoice yX8_invoice ∈ jAll := jm_4 (List.mem_of_getElem? (i := 154) rfl) rfl
theorem q_875 : Cond.code yX8_invoice cX8_invoice 3 (some .int) ∈ jAll := jm_4 (List.mem_of_getElem? (i := 155) rfl) rfl
theorem q_876 : Cond.constant RX8 166 (100000 : Int32) ∈ jAll := jm_4 (List.mem_of_getElem? (i := 156) rfl) rfl
theorem q_877 : Cond.methodLink RL 115 yX8_rateIn ∈ jAll := jm_4 (List.mem_of_getElem? (i := 157) rfl) rfl
theorem q_878 : Cond.instanceMethod yX8_rateIn ∈ jAll := jm_4 (List.mem_of_getElem? (i := 158) rfl) rfl
theorem q_879 : Cond.selects RX8 yX8_rateIn yX8_rateIn ∈ jAll := jm_4 (List.mem_of_getElem? (i := 159) rfl) rfl
theorem q_880 : Cond.code yX8_rateIn cX8_rateIn 3 (Option.some FieldType.float) ∈ jAll := jm_4 (List.mem_of_getElem? (i := 160) rfl) rfl
theorem q_881 : Cond.methodLink RL 119 yX8_worth ∈ jAll := jm_4 (List.mem_of_getElem? (i := 161) rfl) rfl
theorem q_882 : Cond.instanceMethod yX8_worth ∈ jAll := jm_4 (List.mem_of_getElem? (i := 162) rfl) rfl
theorem q_883 : Cond.selects RX8 yX8_worth yX8_worth ∈ jAll := jm_4 (List.mem_of_getElem? (i := 163) rfl) rfl
theorem q_884 : Cond.code yX8_worth cX8_worth 2 (Option.some FieldType.float) ∈ jAll := jm_4 (List.mem_of_getElem? (i := 164) rfl) rfl
theorem q_885 : Cond.methodLink RX8 167 yX8_worthOf ∈ jAll := jm_4 (List.mem_of_getElem? (i := 165) rfl) rfl
theorem q_887 : Cond.instanceMethod yX8_worthOf ∈ jAll := jm_4 (List.mem_of_getElem? (i := 167) rfl) rfl
theorem q_888 : Cond.code yX8_worthOf cX8_worthOf 5 (Option.some FieldType.float) ∈ jAll := jm_4 (List.mem_of_getElem? (i := 168) rfl) rfl
theorem q_889 : Cond.methodLink RL 123 yX8_best ∈ jAll := jm_4 (List.mem_of_getElem? (i := 169) rfl) rfl
theorem q_890 : Cond.instanceMethod yX8_best ∈ jAll := jm_4 (List.mem_of_getElem? (i := 170) rfl) rfl
theorem q_891 : Cond.selects RX8 yX8_best yX8_best ∈ jAll := jm_4 (List.mem_of_getElem? (i := 171) rfl) rfl
theorem q_892 : Cond.code yX8_best cX8_best 5 (some .int) ∈ jAll := jm_4 (List.mem_of_getElem? (i := 172) rfl) rfl
theorem q_893 : Cond.methodLink RL 127 yX8_worthlessIn ∈ jAll := jm_4 (List.mem_of_getElem? (i := 173) rfl) rfl
theorem q_894 : Cond.instanceMethod yX8_worthlessIn ∈ jAll := jm_4 (List.mem_of_getElem? (i := 174) rfl) rfl
theorem q_895 : Cond.selects RX8 yX8_worthlessIn yX8_worthlessIn ∈ jAll := jm_4 (List.mem_of_getElem? (i := 175) rfl) rfl
theorem q_896 : Cond.code yX8_worthlessIn cX8_worthlessIn 3 (some .int) ∈ jAll := jm_4 (List.mem_of_getElem? (i := 176) rfl) rfl
theorem q_897 : Cond.methodLink RL 132 yX8_exposure ∈ jAll := jm_4 (List.mem_of_getElem? (i := 177) rfl) rfl
theorem q_898 : Cond.instanceMethod yX8_exposure ∈ jAll := jm_4 (List.mem_of_getElem? (i := 178) rfl) rfl
theorem q_899 : Cond.selects RX8 yX8_exposure yX8_exposure ∈ jAll := jm_4 (List.mem_of_getElem? (i := 179) rfl) rfl
theorem q_900 : Cond.code yX8_exposure cX8_exposure 3 (Option.some FieldType.float) ∈ jAll := jm_4 (List.mem_of_getElem? (i := 180) rfl) rfl
theorem q_901 : Cond.methodLink RL 136 yX8_count ∈ jAll := jm_4 (List.mem_of_getElem? (i := 181) rfl) rfl
theorem q_902 : Cond.instanceMethod yX8_count ∈ jAll := jm_4 (List.mem_of_getElem? (i := 182) rfl) rfl
theorem q_903 : Cond.selects RX8 yX8_count yX8_count ∈ jAll := jm_4 (List.mem_of_getElem? (i := 183) rfl) rfl
theorem q_904 : Cond.code yX8_count cX8_count 2 (some .int) ∈ jAll := jm_4 (List.mem_of_getElem? (i := 184) rfl) rfl
theorem q_p0 : Cond.selects RX2 yX2_stateAt yX2_stateAt ∈ jAll := jm_p (List.mem_of_getElem? (i := 0) rfl) rfl
theorem q_p1 : Cond.selects RX6 yX6_readNumbers yX6_readNumbers ∈ jAll := jm_p (List.mem_of_getElem? (i := 1) rfl) rfl
theorem q_p2 : Cond.selects RX8 yX8_know yX8_know ∈ jAll := jm_p (List.mem_of_getElem? (i := 2) rfl) rfl
theorem q_p3 : Cond.selects RX8 yX8_isMember yX8_isMember ∈ jAll := jm_p (List.mem_of_getElem? (i := 3) rfl) rfl
theorem q_p4 : Cond.selects RX8 yX8_isInvoice yX8_isInvoice ∈ jAll := jm_p (List.mem_of_getElem? (i := 4) rfl) rfl
theorem q_p5 : Cond.selects RX8 yX8_mayAhead yX8_mayAhead ∈ jAll := jm_p (List.mem_of_getElem? (i := 5) rfl) rfl
theorem q_p6 : Cond.selects RX8 yX8_offerBehind yX8_offerBehind ∈ jAll := jm_p (List.mem_of_getElem? (i := 6) rfl) rfl
theorem q_p7 : Cond.selects RX8 yX8_rateBehind yX8_rateBehind ∈ jAll := jm_p (List.mem_of_getElem? (i := 7) rfl) rfl
theorem q_p8 : Cond.selects RX8 yX8_rateOf yX8_rateOf ∈ jAll := jm_p (List.mem_of_getElem? (i := 8) rfl) rfl
theorem q_p9 : Cond.selects RX8 yX8_late yX8_late ∈ jAll := jm_p (List.mem_of_getElem? (i := 9) rfl) rfl
theorem q_p10 : Cond.selects RX8 yX8_riskOf yX8_riskOf ∈ jAll := jm_p (List.mem_of_getElem? (i := 10) rfl) rfl
theorem q_p11 : Cond.selects RX8 yX8_reserve yX8_reserve ∈ jAll := jm_p (List.mem_of_getElem? (i := 11) rfl) rfl
theorem q_p12 : Cond.selects RX8 yX8_allDues yX8_allDues ∈ jAll := jm_p (List.mem_of_getElem? (i := 12) rfl) rfl
theorem q_p13 : Cond.selects RX8 yX8_payFault yX8_payFault ∈ jAll := jm_p (List.mem_of_getElem? (i := 13) rfl) rfl
theorem q_p14 : Cond.selects RX8 yX8_pays yX8_pays ∈ jAll := jm_p (List.mem_of_getElem? (i := 14) rfl) rfl
theorem q_p15 : Cond.selects RX8 yX8_mayGiveUp yX8_mayGiveUp ∈ jAll := jm_p (List.mem_of_getElem? (i := 15) rfl) rfl
theorem q_p16 : Cond.selects RX8 yX8_share yX8_share ∈ jAll := jm_p (List.mem_of_getElem? (i := 16) rfl) rfl
theorem q_p17 : Cond.selects RX8 yX8_go yX8_go ∈ jAll := jm_p (List.mem_of_getElem? (i := 17) rfl) rfl
theorem q_p18 : Cond.selects RX8 yX8_number yX8_number ∈ jAll := jm_p (List.mem_of_getElem? (i := 18) rfl) rfl
theorem q_p19 : Cond.selects RX8 yX8_sign yX8_sign ∈ jAll := jm_p (List.mem_of_getElem? (i := 19) rfl) rfl
theorem q_p20 : Cond.selects RX8 yX8_swap yX8_swap ∈ jAll := jm_p (List.mem_of_getElem? (i := 20) rfl) rfl
theorem q_p21 : Cond.selects RX8 yX8_invoices yX8_invoices ∈ jAll := jm_p (List.mem_of_getElem? (i := 21) rfl) rfl
theorem q_p22 : Cond.selects RX8 yX8_worthOf yX8_worthOf ∈ jAll := jm_p (List.mem_of_getElem? (i := 22) rfl) rfl
def jNest : List Cond := [Cond.methodLinkNest RX0 11 yX4_init RX7, Cond.methodLinkNest RX0 20 yX1_init RX7, Cond.methodLinkNest RX0 27 yX3_init RX7, Cond.methodLinkNest RX7 31 yX6_init RX7, Cond.methodLinkNest RX7 38 yX5_init RX7, Cond.methodLinkNest RX4 32 yX7_copyRow RX7, Cond.methodLinkNest RX1 29 yX7_copyRow RX7, Cond.methodLinkNest RX3 44 yX7_copyRow RX7, Cond.methodLinkNest RX0 162 yX7_copyRow RX7, Cond.methodLinkNest RX0 64 yX7_noNumber RX7, Cond.methodLinkNest RX1 25 yX7_noNumber RX7]
end
section
abbrev jX : Type := Program × Env × State × MethodId × Array Value × List Frame × Method × Code × (Nat → Prop) × Heap × (State → Prop)
abbrev jLv : Type := List (Nat × Value)
abbrev jT (ca : Nat → ClassId) : List (ClassId × FieldType) := [(ca 0, .int), (ca 1, .float), (ca 2, .char), (ca 3, .object RX0)]
/-- the machine stands at pc, with the cells ws, the locals lv, the operands st, k cells of n slots made: it comes to Q -/
def J (l : Launch) (R : Room) (D : va_G) (nL : Nat) (X : jX) (k n : Nat) (ws : va_W) (lv : jLv) (st : List Value) (pc : Nat) : Prop :=
  match X with
  | (p, e, s, m, args, below, meth, c, A, H0, Q) => ∀ (H : Heap) (locs : List Loc) (ls : Array Slot), va_P D vwCl ws H → va_D A ws → va_S A H0 H locs → lv_has ls nL lv → W p l e R s m args below meth c H locs k n Q (F0 m pc ls st)
/-- what the tables say beyond the words: links between nest mates, the class of rows of Books -/
def jN (U : State) : Prop := (∀ w ∈ jNest, va_Nw w U) ∧ va_AO RX0 U
/-- what stays through an activation of the method y -/
def jK (l : Launch) (R : Room) (D : va_G) (ca : Nat → ClassId) (nL : Nat) (X : jX) (cc : ByteArray) (y : MethodName) (ret : Option FieldType) : Prop :=
  match X with
  | (p, _, s, m, args, _, meth, c, A, H0, _) => p.tables.exec = Jvm.exec ∧ c.code = cc ∧ c.maxLocals = nL ∧ s.vm.findClass y.cls = some m.cls ∧ (∀ w ∈ jAll, w.before args s = true) ∧ va_K D vwCl (jT ca) s ∧ meth.locks = false ∧ (∀ q, H0.size ≤ q → A q) ∧ meth.sig.returnType = ret ∧ meth.name = y.name ∧ jN s
def jS (X : jX) (Ex : State → Prop) : Prop := match X with
  | (_, _, s, _, _, _, _, _, _, H0, _) => Ex s ∧ H0 = s.heap
/-- the value of a local -/
def jat (i : Nat) : jLv → Option Value
  | [] => none
  | q :: l => cond (Nat.beq q.1 i) (some q.2) (jat i l)
theorem jat_mem {i : Nat} {v : Value} : ∀ {lv : jLv}, jat i lv = some v → (i, v) ∈ lv
  | [], h => by cases h
  | q :: l, h => by
    unfold jat at h
    cases hb : Nat.beq q.1 i with
    | true =>
      rw [hb] at h
      have h1 : q.2 = v := Option.some.inj h
      have h2 : q.1 = i := Nat.eq_of_beq_eq_true hb
      rw [← h1, ← h2]
      exact List.mem_cons_self
    | false =>
      rw [hb] at h
      exact List.mem_cons_of_mem _ (jat_mem h)
theorem jat_has {ls : Array Slot} {nL i : Nat} {v : Value} {lv : jLv} (hl : lv_has ls nL lv) (h : jat i lv = some v) : ls[i]? = some (.val v) := hl.2.2 (i, v) (jat_mem h)
/-- fewer locals, in any order -/
theorem jlv_has {ls : Array Slot} {nL : Nat} {lv lv' : jLv} (hl : lv_has ls nL lv) (h : lv'.map (fun q => jat q.1 lv) = lv'.map (fun q => some q.2)) : lv_has ls nL lv' := by
  refine ⟨hl.1, hl.2.1, fun q hq => ?_⟩
  obtain ⟨j, hj⟩ := List.getElem?_of_mem hq
  have h1 := congrArg (fun z => z[j]?) h
  simp only [List.getElem?_map, hj, Option.map_some] at h1
  exact jat_has hl (Option.some.inj h1)
abbrev jst (i : Nat) (v : Value) (lv : jLv) : jLv := (i, v) :: lv.filter (fun q => !(q.1 == i) && !(q.1 + 1 == i && q.2.category == 2))
section JR
variable {l : Launch} {R : Room} {D : va_G} {ca : Nat → ClassId} {nL : Nat} {X : jX} {cc : ByteArray} {y0 : MethodName} {ret0 : Option FieldType} {k n pc : Nat} {ws : va_W} {lv : jLv} {st : List Value}
theorem j_lv (lv' : jLv) (h : lv'.map (fun q => jat q.1 lv) = lv'.map (fun q => some q.2)) (h1 : J l R D nL X k n ws lv' st pc) : J l R D nL X k n ws lv st pc := by
  obtain ⟨p, e, s, m, args, below, meth, c, A, H0, Q⟩ := X
  intro H locs ls hP hD hS hl
  exact h1 H locs ls hP hD hS (jlv_has hl h)
theorem j_ws {ws' : va_W} (h : ws = ws') (h1 : J l R D nL X k n ws' lv st pc) : J l R D nL X k n ws lv st pc := h ▸ h1
theorem j_st {st' : List Value} (h : st = st') (h1 : J l R D nL X k n ws lv st' pc) : J l R D nL X k n ws lv st pc := h ▸ h1
theorem j_pc {pc' : Nat} (h : pc = pc') (h1 : J l R D nL X k n ws lv st pc') : J l R D nL X k n ws lv st pc := h ▸ h1
theorem j_topi {x : Int32} (h : ∀ y : Int32, y = x → J l R D nL X k n ws lv (.int y :: st) pc) : J l R D nL X k n ws lv (.int x :: st) pc := h x rfl
theorem j_topf {x : UInt32} (h : ∀ y : UInt32, y = x → J l R D nL X k n ws lv (.float y :: st) pc) : J l R D nL X k n ws lv (.float x :: st) pc := h x rfl
theorem j_widen {k' n' : Nat} (h1 : k ≤ k') (h2 : n ≤ n') (h : J l R D nL X k' n' ws lv st pc) : J l R D nL X k n ws lv st pc := by
  obtain ⟨p, e, s, m, args, below, meth, c, A, H0, Q⟩ := X
  intro H locs ls hP hD hS hl
  exact W.widen h1 h2 (h H locs ls hP hD hS hl)
/-- the world's cells may be told otherwise, where they are the same -/
theorem j_wsP {ws' : va_W} (hP' : ∀ H, va_P D vwCl ws H → va_P D vwCl ws' H) (hD' : ws.map Prod.fst = ws'.map Prod.fst) (h1 : J l R D nL X k n ws' lv st pc) : J l R D nL X k n ws lv st pc := by
  obtain ⟨p, e, s, m, args, below, meth, c, A, H0, Q⟩ := X
  intro H locs ls hP hD hS hl
  refine h1 H locs ls (hP' H hP) ?_ hS hl
  have key : ∀ (i : Nat) (q : Nat × va_E), ws'[i]? = some q → ∃ q0, ws[i]? = some q0 ∧ q0.1 = q.1 := by
    intro i q hq
    have h2 := congrArg (fun z => z[i]?) hD'
    simp only [List.getElem?_map, hq, Option.map_some] at h2
    cases hz : ws[i]? with
    | none => rw [hz] at h2; cases h2
    | some q0 => rw [hz] at h2; exact ⟨q0, rfl, Option.some.inj h2⟩
  refine ⟨fun i j a b ha hb hab => ?_, fun i q hq => ?_⟩
  · obtain ⟨a0, h2, h3⟩ := key i a ha
    obtain ⟨b0, h4, h5⟩ := key j b hb
    exact hD.1 i j a0 b0 h2 h4 (by rw [h3, h5, hab])
  · obtain ⟨q0, h2, h3⟩ := key i q hq
    rw [← h3]
    exact hD.2 i q0 h2
theorem va_at_ext {q cA N : Nat} {f g : Nat → Int32} (h : ∀ j, j < N → f j = g j) : (vp_cell cA (N, .inl f)) = (vp_cell cA (N, .inl g)) := by
  show arrV cA N (fun j => Value.int (f j)) = arrV cA N (fun j => Value.int (g j))
  unfold arrV
  congr 1
  apply Array.ext
  · simp
  · intro i h1 h2
    simp at h1
    simp [h i h1]
theorem va_at_extF {q cA N : Nat} {f g : Nat → UInt32} (h : ∀ j, j < N → f j = g j) : (vp_cell cA (N, .inr (.inr (.inl f)))) = (vp_cell cA (N, .inr (.inr (.inl g)))) := by
  show arrV cA N (fun j => Value.float (f j)) = arrV cA N (fun j => Value.float (g j))
  unfold arrV
  congr 1
  apply Array.ext
  · simp
  · intro i h1 h2
    simp at h1
    simp [h i h1]
/-- an array's row told otherwise, where it is the same -/
theorem j_ext (q0 : Nat) {a cA N : Nat} {f : Nat → Int32} (g : Nat → Int32) (he : ws[q0]? = some (a, .inl (cA, N, .inl f))) (h : ∀ j, j < N → f j = g j) (h1 : J l R D nL X k n (ws.set q0 (a, .inl (cA, N, .inl g))) lv st pc) : J l R D nL X k n ws lv st pc := by
  have hl := (List.getElem?_eq_some_iff.mp he).1
  refine j_wsP (ws' := ws.set q0 (a, .inl (cA, N, .inl g))) (fun H hP i q hq => ?_) ?_ h1
  · by_cases hi : i = q0
    · subst hi
      rw [List.getElem?_set_self hl] at hq
      cases hq
      have := hP i _ he
      show H[a]? = some (vp_cell cA (N, .inl g))
      rw [← va_at_ext (q := 0) h]
      exact this
    · rw [List.getElem?_set_ne (Ne.symm hi)] at hq
      exact hP i q hq
  · apply List.ext_getElem?
    intro i
    rw [List.getElem?_map, List.getElem?_map]
    by_cases hi : i = q0
    · subst hi
      rw [List.getElem?_set_self hl, he]
      rfl
    · rw [List.getElem?_set_ne (Ne.symm hi)]
theorem j_extF (q0 : Nat) {a cA N : Nat} {f : Nat → UInt32} (g : Nat → UInt32) (he : ws[q0]? = some (a, .inl (cA, N, .inr (.inr (.inl f))))) (h : ∀ j, j < N → f j = g j) (h1 : J l R D nL X k n (ws.set q0 (a, .inl (cA, N, .inr (.inr (.inl g))))) lv st pc) : J l R D nL X k n ws lv st pc := by
  have hl := (List.getElem?_eq_some_iff.mp he).1
  refine j_wsP (ws' := ws.set q0 (a, .inl (cA, N, .inr (.inr (.inl g))))) (fun H hP i q hq => ?_) ?_ h1
  · by_cases hi : i = q0
    · subst hi
      rw [List.getElem?_set_self hl] at hq
      cases hq
      have := hP i _ he
      show H[a]? = some (vp_cell cA (N, .inr (.inr (.inl g))))
      rw [← va_at_extF (q := 0) h]
      exact this
    · rw [List.getElem?_set_ne (Ne.symm hi)] at hq
      exact hP i q hq
  · apply List.ext_getElem?
    intro i
    rw [List.getElem?_map, List.getElem?_map]
    by_cases hi : i = q0
    · subst hi
      rw [List.getElem?_set_self hl, he]
      rfl
    · rw [List.getElem?_set_ne (Ne.symm hi)]
theorem va_ldcwF {p : Program} {e : Env} {s : State} {m : MethodId} {args : Array Value} {below : List Frame} {meth : Method} {c : Code} {locs : List Loc} {T : State} (X : Stand p l e R s m args below meth c T locs k n) (hexec : p.tables.exec = Jvm.exec) {own : String} {index : Nat} {v : UInt32} (hown : s.vm.findClass own = some m.cls)
    (hconst : (Cond.constantFloat own index v).before args s = true) {g : JFrame} (hg : g.method = m) (hdg : decode c.code g.pc = .ok (.ldc_w index, 3)) :
    ∀ target, Steps p.tables e below (T.setTop { g with pc := g.pc + 3, stack := .float v :: g.stack }) target → Steps p.tables e below (T.setTop g) target := by
  obtain ⟨k, cf, hk, hcf, hcp⟩ := Cond.constantFloat_spec hown hconst
  obtain ⟨k', hk', he⟩ := X.warmed.alike.2.2 _ _ hk
  intro target hrest
  subst hg
  jvm_step X.here [hexec, hdg, ldc_w.wp_float (s := T) (f := g) X.here.top hk' (by rw [he]; exact hcf) hcp]
  exact hrest
theorem j_iadd (C : jK l R D ca nL X cc y0 ret0) {x y : Int32} (hd : decode cc pc = .ok (.iadd, 1))  (h : J l R D nL X k n ws lv (.int (x + y) :: st) (pc + 1)) : J l R D nL X k n ws lv (.int y :: .int x :: st) (pc) := by
  obtain ⟨p, e, s, m, args, below, meth, c, A, H0, Q⟩ := X
  obtain ⟨hx, hb, hml, hown, hts, hK, hlk, hA, hr, hnm0, hjn⟩ := C
  intro H locs ls hP hD hS hl
  exact lv_iadd hx hb hd  (h H locs ls hP hD hS hl)
theorem j_isub (C : jK l R D ca nL X cc y0 ret0) {x y : Int32} (hd : decode cc pc = .ok (.isub, 1))  (h : J l R D nL X k n ws lv (.int (x - y) :: st) (pc + 1)) : J l R D nL X k n ws lv (.int y :: .int x :: st) (pc) := by
  obtain ⟨p, e, s, m, args, below, meth, c, A, H0, Q⟩ := X
  obtain ⟨hx, hb, hml, hown, hts, hK, hlk, hA, hr, hnm0, hjn⟩ := C
  intro H locs ls hP hD hS hl
  exact lv_isub hx hb hd  (h H locs ls hP hD hS hl)
theorem j_imul (C : jK l R D ca nL X cc y0 ret0) {x y : Int32} (hd : decode cc pc = .ok (.imul, 1))  (h : J l R D nL X k n ws lv (.int (x * y) :: st) (pc + 1)) : J l R D nL X k n ws lv (.int y :: .int x :: st) (pc) := by
  obtain ⟨p, e, s, m, args, below, meth, c, A, H0, Q⟩ := X
  obtain ⟨hx, hb, hml, hown, hts, hK, hlk, hA, hr, hnm0, hjn⟩ := C
  intro H locs ls hP hD hS hl
  exact lv_imul hx hb hd  (h H locs ls hP hD hS hl)
theorem j_iand (C : jK l R D ca nL X cc y0 ret0) {x y : Int32} (hd : decode cc pc = .ok (.iand, 1))  (h : J l R D nL X k n ws lv (.int (x &&& y) :: st) (pc + 1)) : J l R D nL X k n ws lv (.int y :: .int x :: st) (pc) := by
  obtain ⟨p, e, s, m, args, below, meth, c, A, H0, Q⟩ := X
  obtain ⟨hx, hb, hml, hown, hts, hK, hlk, hA, hr, hnm0, hjn⟩ := C
  intro H locs ls hP hD hS hl
  exact lv_iand hx hb hd  (h H locs ls hP hD hS hl)
theorem j_ior (C : jK l R D ca nL X cc y0 ret0) {x y : Int32} (hd : decode cc pc = .ok (.ior, 1))  (h : J l R D nL X k n ws lv (.int (x ||| y) :: st) (pc + 1)) : J l R D nL X k n ws lv (.int y :: .int x :: st) (pc) := by
  obtain ⟨p, e, s, m, args, below, meth, c, A, H0, Q⟩ := X
  obtain ⟨hx, hb, hml, hown, hts, hK, hlk, hA, hr, hnm0, hjn⟩ := C
  intro H locs ls hP hD hS hl
  exact lv_ior hx hb hd  (h H locs ls hP hD hS hl)
theorem j_ishr (C : jK l R D ca nL X cc y0 ret0) {x y : Int32} (hd : decode cc pc = .ok (.ishr, 1))  (h : J l R D nL X k n ws lv (.int (x >>> (y &&& 31)) :: st) (pc + 1)) : J l R D nL X k n ws lv (.int y :: .int x :: st) (pc) := by
  obtain ⟨p, e, s, m, args, below, meth, c, A, H0, Q⟩ := X
  obtain ⟨hx, hb, hml, hown, hts, hK, hlk, hA, hr, hnm0, hjn⟩ := C
  intro H locs ls hP hD hS hl
  exact lv_ishr hx hb hd  (h H locs ls hP hD hS hl)
theorem j_iushr (C : jK l R D ca nL X cc y0 ret0) {x y : Int32} (hd : decode cc pc = .ok (.iushr, 1))  (h : J l R D nL X k n ws lv (.int ((x.toUInt32 >>> (y.toUInt32 &&& Int32.toUInt32 31)).toInt32) :: st) (pc + 1)) : J l R D nL X k n ws lv (.int y :: .int x :: st) (pc) := by
  obtain ⟨p, e, s, m, args, below, meth, c, A, H0, Q⟩ := X
  obtain ⟨hx, hb, hml, hown, hts, hK, hlk, hA, hr, hnm0, hjn⟩ := C
  intro H locs ls hP hD hS hl
  exact lv_iushr hx hb hd rfl (h H locs ls hP hD hS hl)
theorem j_irem (C : jK l R D ca nL X cc y0 ret0) {x y : Int32}  (hd : decode cc pc = .ok (.irem, 1)) (hne : ¬ y = 0) (h : J l R D nL X k n ws lv (.int (x - x / y * y) :: st) (pc + 1)) : J l R D nL X k n ws lv (.int y :: .int x :: st) (pc) := by
  obtain ⟨p, e, s, m, args, below, meth, c, A, H0, Q⟩ := X
  obtain ⟨hx, hb, hml, hown, hts, hK, hlk, hA, hr, hnm0, hjn⟩ := C
  intro H locs ls hP hD hS hl
  exact lv_irem hx hb hd hne (h H locs ls hP hD hS hl)
theorem j_ineg (C : jK l R D ca nL X cc y0 ret0) {x : Int32} (hd : decode cc pc = .ok (.ineg, 1))  (h : J l R D nL X k n ws lv (.int (-x) :: st) (pc + 1)) : J l R D nL X k n ws lv (.int x :: st) (pc) := by
  obtain ⟨p, e, s, m, args, below, meth, c, A, H0, Q⟩ := X
  obtain ⟨hx, hb, hml, hown, hts, hK, hlk, hA, hr, hnm0, hjn⟩ := C
  intro H locs ls hP hD hS hl
  exact lv_ineg hx hb hd  (h H locs ls hP hD hS hl)
theorem j_i2f (C : jK l R D ca nL X cc y0 ret0) {x : Int32} (hd : decode cc pc = .ok (.i2f, 1))  (h : J l R D nL X k n ws lv (.float (FP.i2f x) :: st) (pc + 1)) : J l R D nL X k n ws lv (.int x :: st) (pc) := by
  obtain ⟨p, e, s, m, args, below, meth, c, A, H0, Q⟩ := X
  obtain ⟨hx, hb, hml, hown, hts, hK, hlk, hA, hr, hnm0, hjn⟩ := C
  intro H locs ls hP hD hS hl
  exact lv_i2f hx hb hd  (h H locs ls hP hD hS hl)
theorem j_f2i (C : jK l R D ca nL X cc y0 ret0) {x : UInt32} (hd : decode cc pc = .ok (.f2i, 1))  (h : J l R D nL X k n ws lv (.int (FP.f2i x) :: st) (pc + 1)) : J l R D nL X k n ws lv (.float x :: st) (pc) := by
  obtain ⟨p, e, s, m, args, below, meth, c, A, H0, Q⟩ := X
  obtain ⟨hx, hb, hml, hown, hts, hK, hlk, hA, hr, hnm0, hjn⟩ := C
  intro H locs ls hP hD hS hl
  exact lv_f2i hx hb hd  (h H locs ls hP hD hS hl)
theorem j_i2l (C : jK l R D ca nL X cc y0 ret0) {x : Int32} (hd : decode cc pc = .ok (.i2l, 1))  (h : J l R D nL X k n ws lv (.long (x.toInt64) :: st) (pc + 1)) : J l R D nL X k n ws lv (.int x :: st) (pc) := by
  obtain ⟨p, e, s, m, args, below, meth, c, A, H0, Q⟩ := X
  obtain ⟨hx, hb, hml, hown, hts, hK, hlk, hA, hr, hnm0, hjn⟩ := C
  intro H locs ls hP hD hS hl
  exact lv_i2l hx hb hd rfl (h H locs ls hP hD hS hl)
theorem j_l2i (C : jK l R D ca nL X cc y0 ret0) {x : Int64} (hd : decode cc pc = .ok (.l2i, 1))  (h : J l R D nL X k n ws lv (.int (x.toInt32) :: st) (pc + 1)) : J l R D nL X k n ws lv (.long x :: st) (pc) := by
  obtain ⟨p, e, s, m, args, below, meth, c, A, H0, Q⟩ := X
  obtain ⟨hx, hb, hml, hown, hts, hK, hlk, hA, hr, hnm0, hjn⟩ := C
  intro H locs ls hP hD hS hl
  exact lv_l2i hx hb hd rfl (h H locs ls hP hD hS hl)
theorem j_i2c (C : jK l R D ca nL X cc y0 ret0) {x : Int32} (hd : decode cc pc = .ok (.i2c, 1))  (h : J l R D nL X k n ws lv (.int ((x.toUInt32 % 65536).toInt32) :: st) (pc + 1)) : J l R D nL X k n ws lv (.int x :: st) (pc) := by
  obtain ⟨p, e, s, m, args, below, meth, c, A, H0, Q⟩ := X
  obtain ⟨hx, hb, hml, hown, hts, hK, hlk, hA, hr, hnm0, hjn⟩ := C
  intro H locs ls hP hD hS hl
  exact lv_i2c hx hb hd rfl (h H locs ls hP hD hS hl)
theorem j_lmul (C : jK l R D ca nL X cc y0 ret0) {x y : Int64} (hd : decode cc pc = .ok (.lmul, 1))  (h : J l R D nL X k n ws lv (.long (x * y) :: st) (pc + 1)) : J l R D nL X k n ws lv (.long y :: .long x :: st) (pc) := by
  obtain ⟨p, e, s, m, args, below, meth, c, A, H0, Q⟩ := X
  obtain ⟨hx, hb, hml, hown, hts, hK, hlk, hA, hr, hnm0, hjn⟩ := C
  intro H locs ls hP hD hS hl
  exact lv_lmul hx hb hd  (h H locs ls hP hD hS hl)
theorem j_ldiv (C : jK l R D ca nL X cc y0 ret0) {x y : Int64}  (hd : decode cc pc = .ok (.ldiv, 1)) (hne : ¬ y = 0) (h : J l R D nL X k n ws lv (.long (x / y) :: st) (pc + 1)) : J l R D nL X k n ws lv (.long y :: .long x :: st) (pc) := by
  obtain ⟨p, e, s, m, args, below, meth, c, A, H0, Q⟩ := X
  obtain ⟨hx, hb, hml, hown, hts, hK, hlk, hA, hr, hnm0, hjn⟩ := C
  intro H locs ls hP hD hS hl
  exact lv_ldiv hx hb hd hne (h H locs ls hP hD hS hl)
theorem j_fsub (C : jK l R D ca nL X cc y0 ret0) {x y : UInt32}  (hd : decode cc pc = .ok (.fsub, 1)) (hne : vf_n32 (FP.fsub x y)) (h : J l R D nL X k n ws lv (.float (FP.fsub x y) :: st) (pc + 1)) : J l R D nL X k n ws lv (.float y :: .float x :: st) (pc) := by
  obtain ⟨p, e, s, m, args, below, meth, c, A, H0, Q⟩ := X
  obtain ⟨hx, hb, hml, hown, hts, hK, hlk, hA, hr, hnm0, hjn⟩ := C
  intro H locs ls hP hD hS hl
  exact lv_fsub hx hb hd hne (h H locs ls hP hD hS hl)
theorem j_fmul (C : jK l R D ca nL X cc y0 ret0) {x y : UInt32}  (hd : decode cc pc = .ok (.fmul, 1)) (hne : vf_n32 (FP.fmul x y)) (h : J l R D nL X k n ws lv (.float (FP.fmul x y) :: st) (pc + 1)) : J l R D nL X k n ws lv (.float y :: .float x :: st) (pc) := by
  obtain ⟨p, e, s, m, args, below, meth, c, A, H0, Q⟩ := X
  obtain ⟨hx, hb, hml, hown, hts, hK, hlk, hA, hr, hnm0, hjn⟩ := C
  intro H locs ls hP hD hS hl
  exact lv_fmul hx hb hd hne (h H locs ls hP hD hS hl)
theorem j_fdiv (C : jK l R D ca nL X cc y0 ret0) {x y : UInt32}  (hd : decode cc pc = .ok (.fdiv, 1)) (hne : vf_n32 (FP.fdiv x y)) (h : J l R D nL X k n ws lv (.float (FP.fdiv x y) :: st) (pc + 1)) : J l R D nL X k n ws lv (.float y :: .float x :: st) (pc) := by
  obtain ⟨p, e, s, m, args, below, meth, c, A, H0, Q⟩ := X
  obtain ⟨hx, hb, hml, hown, hts, hK, hlk, hA, hr, hnm0, hjn⟩ := C
  intro H locs ls hP hD hS hl
  exact lv_fdiv hx hb hd hne (h H locs ls hP hD hS hl)
theorem j_fcmp (C : jK l R D ca nL X cc y0 ret0) {x y : UInt32} {op : CmpOp} (hd : decode cc pc = .ok (.fcmp op, 1))  (h : J l R D nL X k n ws lv (.int (Op.cmpValue (FP.fcmp x y) op) :: st) (pc + 1)) : J l R D nL X k n ws lv (.float y :: .float x :: st) (pc) := by
  obtain ⟨p, e, s, m, args, below, meth, c, A, H0, Q⟩ := X
  obtain ⟨hx, hb, hml, hown, hts, hK, hlk, hA, hr, hnm0, hjn⟩ := C
  intro H locs ls hP hD hS hl
  exact lv_fcmp hx hb hd  (h H locs ls hP hD hS hl)
theorem j_dup (C : jK l R D ca nL X cc y0 ret0) {v : Value}  (hd : decode cc pc = .ok (.dup, 1)) (hc : v.category = 1) (h : J l R D nL X k n ws lv (v :: v :: st) (pc + 1)) : J l R D nL X k n ws lv (v :: st) (pc) := by
  obtain ⟨p, e, s, m, args, below, meth, c, A, H0, Q⟩ := X
  obtain ⟨hx, hb, hml, hown, hts, hK, hlk, hA, hr, hnm0, hjn⟩ := C
  intro H locs ls hP hD hS hl
  exact lv_dup hx hb hd hc (h H locs ls hP hD hS hl)
theorem j_dup2 (C : jK l R D ca nL X cc y0 ret0) {v u : Value}  (hd : decode cc pc = .ok (.dup2, 1)) (hc : v.category = 1) (hc2 : u.category = 1) (h : J l R D nL X k n ws lv (v :: u :: v :: u :: st) (pc + 1)) : J l R D nL X k n ws lv (v :: u :: st) (pc) := by
  obtain ⟨p, e, s, m, args, below, meth, c, A, H0, Q⟩ := X
  obtain ⟨hx, hb, hml, hown, hts, hK, hlk, hA, hr, hnm0, hjn⟩ := C
  intro H locs ls hP hD hS hl
  exact lv_dup2_11 hx hb hd hc hc2 (h H locs ls hP hD hS hl)
theorem j_iconst (C : jK l R D ca nL X cc y0 ret0) {i : Int}  (hd : decode cc pc = .ok (.iconst i, 1)) (v : Int32) (hv : Int32.ofInt i = v) (h : J l R D nL X k n ws lv (.int v :: st) (pc + 1)) : J l R D nL X k n ws lv (st) (pc) := by
  obtain ⟨p, e, s, m, args, below, meth, c, A, H0, Q⟩ := X
  obtain ⟨hx, hb, hml, hown, hts, hK, hlk, hA, hr, hnm0, hjn⟩ := C
  intro H locs ls hP hD hS hl
  exact lv_iconst hx hb hd hv (h H locs ls hP hD hS hl)
theorem j_bipush (C : jK l R D ca nL X cc y0 ret0) {i : Int}  (hd : decode cc pc = .ok (.bipush i, 2)) (v : Int32) (hv : (Int8.ofInt i).toInt32 = v) (h : J l R D nL X k n ws lv (.int v :: st) (pc + 2)) : J l R D nL X k n ws lv (st) (pc) := by
  obtain ⟨p, e, s, m, args, below, meth, c, A, H0, Q⟩ := X
  obtain ⟨hx, hb, hml, hown, hts, hK, hlk, hA, hr, hnm0, hjn⟩ := C
  intro H locs ls hP hD hS hl
  exact lv_bipush hx hb hd hv (h H locs ls hP hD hS hl)
theorem j_sipush (C : jK l R D ca nL X cc y0 ret0) {i : Int}  (hd : decode cc pc = .ok (.sipush i, 3)) (v : Int32) (hv : (Int16.ofInt i).toInt32 = v) (h : J l R D nL X k n ws lv (.int v :: st) (pc + 3)) : J l R D nL X k n ws lv (st) (pc) := by
  obtain ⟨p, e, s, m, args, below, meth, c, A, H0, Q⟩ := X
  obtain ⟨hx, hb, hml, hown, hts, hK, hlk, hA, hr, hnm0, hjn⟩ := C
  intro H locs ls hP hD hS hl
  exact lv_sipush hx hb hd hv (h H locs ls hP hD hS hl)
theorem j_null (C : jK l R D ca nL X cc y0 ret0)  (hd : decode cc pc = .ok (.aconst_null, 1))  (h : J l R D nL X k n ws lv (.null :: st) (pc + 1)) : J l R D nL X k n ws lv (st) (pc) := by
  obtain ⟨p, e, s, m, args, below, meth, c, A, H0, Q⟩ := X
  obtain ⟨hx, hb, hml, hown, hts, hK, hlk, hA, hr, hnm0, hjn⟩ := C
  intro H locs ls hP hD hS hl
  exact lv_null hx hb hd  (h H locs ls hP hD hS hl)
theorem j_fconst0 (C : jK l R D ca nL X cc y0 ret0) (hd : decode cc pc = .ok (.fconst 0, 1)) (h : J l R D nL X k n ws lv (.float (0x00000000) :: st) (pc + 1)) : J l R D nL X k n ws lv (st) (pc) := by
  obtain ⟨p, e, s, m, args, below, meth, c, A, H0, Q⟩ := X
  obtain ⟨hx, hb, hml, hown, hts, hK, hlk, hA, hr, hnm0, hjn⟩ := C
  intro H locs ls hP hD hS hl
  exact lv_fconst0 hx hb hd (h H locs ls hP hD hS hl)
theorem j_fconst1 (C : jK l R D ca nL X cc y0 ret0) (hd : decode cc pc = .ok (.fconst 1, 1)) (h : J l R D nL X k n ws lv (.float (0x3f800000) :: st) (pc + 1)) : J l R D nL X k n ws lv (st) (pc) := by
  obtain ⟨p, e, s, m, args, below, meth, c, A, H0, Q⟩ := X
  obtain ⟨hx, hb, hml, hown, hts, hK, hlk, hA, hr, hnm0, hjn⟩ := C
  intro H locs ls hP hD hS hl
  exact lv_fconst1 hx hb hd (h H locs ls hP hD hS hl)
theorem j_fconst2 (C : jK l R D ca nL X cc y0 ret0) (hd : decode cc pc = .ok (.fconst 2, 1)) (h : J l R D nL X k n ws lv (.float (0x40000000) :: st) (pc + 1)) : J l R D nL X k n ws lv (st) (pc) := by
  obtain ⟨p, e, s, m, args, below, meth, c, A, H0, Q⟩ := X
  obtain ⟨hx, hb, hml, hown, hts, hK, hlk, hA, hr, hnm0, hjn⟩ := C
  intro H locs ls hP hD hS hl
  exact lv_fconst2 hx hb hd (h H locs ls hP hD hS hl)
theorem j_iload (C : jK l R D ca nL X cc y0 ret0) {i : Nat} {x : Int32} (hd : decode cc pc = .ok (.iload i, 2)) (hv : jat i lv = some (.int x)) (h : J l R D nL X k n ws lv (.int x :: st) (pc + 2)) : J l R D nL X k n ws lv (st) (pc) := by
  obtain ⟨p, e, s, m, args, below, meth, c, A, H0, Q⟩ := X
  obtain ⟨hx, hb, hml, hown, hts, hK, hlk, hA, hr, hnm0, hjn⟩ := C
  intro H locs ls hP hD hS hl
  exact lv_iload hx hb hd (jat_has hl hv) (h H locs ls hP hD hS hl)
theorem j_iload_n (C : jK l R D ca nL X cc y0 ret0) {i : Fin 4} {x : Int32} (hd : decode cc pc = .ok (.iload_n i, 1)) (hv : jat (i : Nat) lv = some (.int x)) (h : J l R D nL X k n ws lv (.int x :: st) (pc + 1)) : J l R D nL X k n ws lv (st) (pc) := by
  obtain ⟨p, e, s, m, args, below, meth, c, A, H0, Q⟩ := X
  obtain ⟨hx, hb, hml, hown, hts, hK, hlk, hA, hr, hnm0, hjn⟩ := C
  intro H locs ls hP hD hS hl
  exact lv_iload_n hx hb hd rfl (jat_has hl hv) (h H locs ls hP hD hS hl)
theorem j_fload (C : jK l R D ca nL X cc y0 ret0) {i : Nat} {x : UInt32} (hd : decode cc pc = .ok (.fload i, 2)) (hv : jat i lv = some (.float x)) (h : J l R D nL X k n ws lv (.float x :: st) (pc + 2)) : J l R D nL X k n ws lv (st) (pc) := by
  obtain ⟨p, e, s, m, args, below, meth, c, A, H0, Q⟩ := X
  obtain ⟨hx, hb, hml, hown, hts, hK, hlk, hA, hr, hnm0, hjn⟩ := C
  intro H locs ls hP hD hS hl
  exact lv_fload hx hb hd (jat_has hl hv) (h H locs ls hP hD hS hl)
theorem j_fload_n (C : jK l R D ca nL X cc y0 ret0) {i : Fin 4} {x : UInt32} (hd : decode cc pc = .ok (.fload_n i, 1)) (hv : jat (i : Nat) lv = some (.float x)) (h : J l R D nL X k n ws lv (.float x :: st) (pc + 1)) : J l R D nL X k n ws lv (st) (pc) := by
  obtain ⟨p, e, s, m, args, below, meth, c, A, H0, Q⟩ := X
  obtain ⟨hx, hb, hml, hown, hts, hK, hlk, hA, hr, hnm0, hjn⟩ := C
  intro H locs ls hP hD hS hl
  exact lv_fload_n hx hb hd rfl (jat_has hl hv) (h H locs ls hP hD hS hl)
theorem j_aload (C : jK l R D ca nL X cc y0 ret0) {i : Nat} {x : Nat} (hd : decode cc pc = .ok (.aload i, 2)) (hv : jat i lv = some (.ref x)) (h : J l R D nL X k n ws lv (.ref x :: st) (pc + 2)) : J l R D nL X k n ws lv (st) (pc) := by
  obtain ⟨p, e, s, m, args, below, meth, c, A, H0, Q⟩ := X
  obtain ⟨hx, hb, hml, hown, hts, hK, hlk, hA, hr, hnm0, hjn⟩ := C
  intro H locs ls hP hD hS hl
  exact lv_aload hx hb hd (jat_has hl hv) (h H locs ls hP hD hS hl)
theorem j_aload_n (C : jK l R D ca nL X cc y0 ret0) {i : Fin 4} {x : Nat} (hd : decode cc pc = .ok (.aload_n i, 1)) (hv : jat (i : Nat) lv = some (.ref x)) (h : J l R D nL X k n ws lv (.ref x :: st) (pc + 1)) : J l R D nL X k n ws lv (st) (pc) := by
  obtain ⟨p, e, s, m, args, below, meth, c, A, H0, Q⟩ := X
  obtain ⟨hx, hb, hml, hown, hts, hK, hlk, hA, hr, hnm0, hjn⟩ := C
  intro H locs ls hP hD hS hl
  exact lv_aload_n hx hb hd rfl (jat_has hl hv) (h H locs ls hP hD hS hl)
theorem j_dload (C : jK l R D ca nL X cc y0 ret0) {i : Nat} {x : UInt64} (hd : decode cc pc = .ok (.dload i, 2)) (hv : jat i lv = some (.double x)) (h : J l R D nL X k n ws lv (.double x :: st) (pc + 2)) : J l R D nL X k n ws lv (st) (pc) := by
  obtain ⟨p, e, s, m, args, below, meth, c, A, H0, Q⟩ := X
  obtain ⟨hx, hb, hml, hown, hts, hK, hlk, hA, hr, hnm0, hjn⟩ := C
  intro H locs ls hP hD hS hl
  exact lv_dload hx hb hd (jat_has hl hv) (h H locs ls hP hD hS hl)
theorem j_istore (C : jK l R D ca nL X cc y0 ret0) (lv1 : jLv) {i : Nat} {x : Int32} (hd : decode cc pc = .ok (.istore i, 2)) (hn : i < nL) (hv : jst i (.int x) lv = lv1) (h : J l R D nL X k n ws lv1 (st) (pc + 2)) : J l R D nL X k n ws lv (.int x :: st) (pc) := by
  obtain ⟨p, e, s, m, args, below, meth, c, A, H0, Q⟩ := X
  obtain ⟨hx, hb, hml, hown, hts, hK, hlk, hA, hr, hnm0, hjn⟩ := C
  intro H locs ls hP hD hS hl
  exact lv_istore hx hb hd hl hn hv (fun ls1 hl1 => h H locs ls1 hP hD hS hl1)
theorem j_istore_n (C : jK l R D ca nL X cc y0 ret0) (lv1 : jLv) {i : Fin 4} {x : Int32} (hd : decode cc pc = .ok (.istore_n i, 1)) (hn : (i : Nat) < nL) (hv : jst (i : Nat) (.int x) lv = lv1) (h : J l R D nL X k n ws lv1 (st) (pc + 1)) : J l R D nL X k n ws lv (.int x :: st) (pc) := by
  obtain ⟨p, e, s, m, args, below, meth, c, A, H0, Q⟩ := X
  obtain ⟨hx, hb, hml, hown, hts, hK, hlk, hA, hr, hnm0, hjn⟩ := C
  intro H locs ls hP hD hS hl
  exact lv_istore_n hx hb hd rfl hl hn hv (fun ls1 hl1 => h H locs ls1 hP hD hS hl1)
theorem j_fstore (C : jK l R D ca nL X cc y0 ret0) (lv1 : jLv) {i : Nat} {x : UInt32} (hd : decode cc pc = .ok (.fstore i, 2)) (hn : i < nL) (hv : jst i (.float x) lv = lv1) (h : J l R D nL X k n ws lv1 (st) (pc + 2)) : J l R D nL X k n ws lv (.float x :: st) (pc) := by
  obtain ⟨p, e, s, m, args, below, meth, c, A, H0, Q⟩ := X
  obtain ⟨hx, hb, hml, hown, hts, hK, hlk, hA, hr, hnm0, hjn⟩ := C
  intro H locs ls hP hD hS hl
  exact lv_fstore hx hb hd hl hn hv (fun ls1 hl1 => h H locs ls1 hP hD hS hl1)
theorem j_fstore_n (C : jK l R D ca nL X cc y0 ret0) (lv1 : jLv) {i : Fin 4} {x : UInt32} (hd : decode cc pc = .ok (.fstore_n i, 1)) (hn : (i : Nat) < nL) (hv : jst (i : Nat) (.float x) lv = lv1) (h : J l R D nL X k n ws lv1 (st) (pc + 1)) : J l R D nL X k n ws lv (.float x :: st) (pc) := by
  obtain ⟨p, e, s, m, args, below, meth, c, A, H0, Q⟩ := X
  obtain ⟨hx, hb, hml, hown, hts, hK, hlk, hA, hr, hnm0, hjn⟩ := C
  intro H locs ls hP hD hS hl
  exact lv_fstore_n hx hb hd rfl hl hn hv (fun ls1 hl1 => h H locs ls1 hP hD hS hl1)
theorem j_astore (C : jK l R D ca nL X cc y0 ret0) (lv1 : jLv) {i : Nat} {x : Nat} (hd : decode cc pc = .ok (.astore i, 2)) (hn : i < nL) (hv : jst i (.ref x) lv = lv1) (h : J l R D nL X k n ws lv1 (st) (pc + 2)) : J l R D nL X k n ws lv (.ref x :: st) (pc) := by
  obtain ⟨p, e, s, m, args, below, meth, c, A, H0, Q⟩ := X
  obtain ⟨hx, hb, hml, hown, hts, hK, hlk, hA, hr, hnm0, hjn⟩ := C
  intro H locs ls hP hD hS hl
  exact lv_astore hx hb hd hl hn hv (fun ls1 hl1 => h H locs ls1 hP hD hS hl1)
theorem j_astore_n (C : jK l R D ca nL X cc y0 ret0) (lv1 : jLv) {i : Fin 4} {x : Nat} (hd : decode cc pc = .ok (.astore_n i, 1)) (hn : (i : Nat) < nL) (hv : jst (i : Nat) (.ref x) lv = lv1) (h : J l R D nL X k n ws lv1 (st) (pc + 1)) : J l R D nL X k n ws lv (.ref x :: st) (pc) := by
  obtain ⟨p, e, s, m, args, below, meth, c, A, H0, Q⟩ := X
  obtain ⟨hx, hb, hml, hown, hts, hK, hlk, hA, hr, hnm0, hjn⟩ := C
  intro H locs ls hP hD hS hl
  exact lv_astore_n hx hb hd rfl hl hn hv (fun ls1 hl1 => h H locs ls1 hP hD hS hl1)
theorem j_dstore (C : jK l R D ca nL X cc y0 ret0) (lv1 : jLv) {i : Nat} {x : UInt64} (hd : decode cc pc = .ok (.dstore i, 2)) (hn : i + 1 < nL) (hv : (i, Value.double x) :: lv.filter (fun q => !(q.1 == i) && (!(q.1 == i + 1) && !(q.1 + 1 == i && q.2.category == 2))) = lv1) (h : J l R D nL X k n ws lv1 (st) (pc + 2)) : J l R D nL X k n ws lv (.double x :: st) (pc) := by
  obtain ⟨p, e, s, m, args, below, meth, c, A, H0, Q⟩ := X
  obtain ⟨hx, hb, hml, hown, hts, hK, hlk, hA, hr, hnm0, hjn⟩ := C
  intro H locs ls hP hD hS hl
  exact lv_dstore hx hb hd hl hn hv (fun ls1 hl1 => h H locs ls1 hP hD hS hl1)
theorem j_iinc (C : jK l R D ca nL X cc y0 ret0) (lv1 : jLv) {i : Nat} {d : Int} {x v : Int32} (hd : decode cc pc = .ok (.iinc i d, 3)) (hx0 : jat i lv = some (.int x)) (hv0 : x + Int32.ofInt d = v) (hn : i < nL) (hv : jst i (.int v) lv = lv1) (h : J l R D nL X k n ws lv1 (st) (pc + 3)) : J l R D nL X k n ws lv (st) (pc) := by
  obtain ⟨p, e, s, m, args, below, meth, c, A, H0, Q⟩ := X
  obtain ⟨hx, hb, hml, hown, hts, hK, hlk, hA, hr, hnm0, hjn⟩ := C
  intro H locs ls hP hD hS hl
  obtain ⟨j, hj⟩ := List.getElem?_of_mem (jat_mem hx0)
  exact lv_iinc hx hb hd hl hj hv0 hn hv (fun ls1 hl1 => h H locs ls1 hP hD hS hl1)
theorem j_if_eq (C : jK l R D ca nL X cc y0 ret0) {x : Int32} {off : Int} {tgt : Nat} (hd : decode cc pc = .ok (.ifCond .eq off, 3)) (ht : (pc : Int) + off = (tgt : Int)) (h1 : x = 0 → J l R D nL X k n ws lv (st) (tgt)) (h2 : ¬ (x = 0) → J l R D nL X k n ws lv (st) (pc + 3)) : J l R D nL X k n ws lv (.int x :: st) (pc) := by
  obtain ⟨p, e, s, m, args, below, meth, c, A, H0, Q⟩ := X
  obtain ⟨hx, hb, hml, hown, hts, hK, hlk, hA, hr, hnm0, hjn⟩ := C
  intro H locs ls hP hD hS hl
  exact lv_if_eq hx hb hd ht (fun z => h1 z H locs ls hP hD hS hl) (fun z => h2 z H locs ls hP hD hS hl)
theorem j_icmp_eq (C : jK l R D ca nL X cc y0 ret0) {x y : Int32} {off : Int} {tgt : Nat} (hd : decode cc pc = .ok (.if_icmp .eq off, 3)) (ht : (pc : Int) + off = (tgt : Int)) (h1 : x = y → J l R D nL X k n ws lv (st) (tgt)) (h2 : ¬ (x = y) → J l R D nL X k n ws lv (st) (pc + 3)) : J l R D nL X k n ws lv (.int y :: .int x :: st) (pc) := by
  obtain ⟨p, e, s, m, args, below, meth, c, A, H0, Q⟩ := X
  obtain ⟨hx, hb, hml, hown, hts, hK, hlk, hA, hr, hnm0, hjn⟩ := C
  intro H locs ls hP hD hS hl
  exact lv_icmp_eq hx hb hd ht (fun z => h1 z H locs ls hP hD hS hl) (fun z => h2 z H locs ls hP hD hS hl)
theorem j_if_ne (C : jK l R D ca nL X cc y0 ret0) {x : Int32} {off : Int} {tgt : Nat} (hd : decode cc pc = .ok (.ifCond .ne off, 3)) (ht : (pc : Int) + off = (tgt : Int)) (h1 : ¬ x = 0 → J l R D nL X k n ws lv (st) (tgt)) (h2 : x = 0 → J l R D nL X k n ws lv (st) (pc + 3)) : J l R D nL X k n ws lv (.int x :: st) (pc) := by
  obtain ⟨p, e, s, m, args, below, meth, c, A, H0, Q⟩ := X
  obtain ⟨hx, hb, hml, hown, hts, hK, hlk, hA, hr, hnm0, hjn⟩ := C
  intro H locs ls hP hD hS hl
  exact lv_if_ne hx hb hd ht (fun z => h1 z H locs ls hP hD hS hl) (fun z => h2 z H locs ls hP hD hS hl)
theorem j_icmp_ne (C : jK l R D ca nL X cc y0 ret0) {x y : Int32} {off : Int} {tgt : Nat} (hd : decode cc pc = .ok (.if_icmp .ne off, 3)) (ht : (pc : Int) + off = (tgt : Int)) (h1 : ¬ x = y → J l R D nL X k n ws lv (st) (tgt)) (h2 : x = y → J l R D nL X k n ws lv (st) (pc + 3)) : J l R D nL X k n ws lv (.int y :: .int x :: st) (pc) := by
  obtain ⟨p, e, s, m, args, below, meth, c, A, H0, Q⟩ := X
  obtain ⟨hx, hb, hml, hown, hts, hK, hlk, hA, hr, hnm0, hjn⟩ := C
  intro H locs ls hP hD hS hl
  exact lv_icmp_ne hx hb hd ht (fun z => h1 z H locs ls hP hD hS hl) (fun z => h2 z H locs ls hP hD hS hl)
theorem j_if_lt (C : jK l R D ca nL X cc y0 ret0) {x : Int32} {off : Int} {tgt : Nat} (hd : decode cc pc = .ok (.ifCond .lt off, 3)) (ht : (pc : Int) + off = (tgt : Int)) (h1 : x < 0 → J l R D nL X k n ws lv (st) (tgt)) (h2 : ¬ (x < 0) → J l R D nL X k n ws lv (st) (pc + 3)) : J l R D nL X k n ws lv (.int x :: st) (pc) := by
  obtain ⟨p, e, s, m, args, below, meth, c, A, H0, Q⟩ := X
  obtain ⟨hx, hb, hml, hown, hts, hK, hlk, hA, hr, hnm0, hjn⟩ := C
  intro H locs ls hP hD hS hl
  exact lv_if_lt hx hb hd ht (fun z => h1 z H locs ls hP hD hS hl) (fun z => h2 z H locs ls hP hD hS hl)
theorem j_icmp_lt (C : jK l R D ca nL X cc y0 ret0) {x y : Int32} {off : Int} {tgt : Nat} (hd : decode cc pc = .ok (.if_icmp .lt off, 3)) (ht : (pc : Int) + off = (tgt : Int)) (h1 : x < y → J l R D nL X k n ws lv (st) (tgt)) (h2 : ¬ (x < y) → J l R D nL X k n ws lv (st) (pc + 3)) : J l R D nL X k n ws lv (.int y :: .int x :: st) (pc) := by
  obtain ⟨p, e, s, m, args, below, meth, c, A, H0, Q⟩ := X
  obtain ⟨hx, hb, hml, hown, hts, hK, hlk, hA, hr, hnm0, hjn⟩ := C
  intro H locs ls hP hD hS hl
  exact lv_icmp_lt hx hb hd ht (fun z => h1 z H locs ls hP hD hS hl) (fun z => h2 z H locs ls hP hD hS hl)
theorem j_if_ge (C : jK l R D ca nL X cc y0 ret0) {x : Int32} {off : Int} {tgt : Nat} (hd : decode cc pc = .ok (.ifCond .ge off, 3)) (ht : (pc : Int) + off = (tgt : Int)) (h1 : 0 ≤ x → J l R D nL X k n ws lv (st) (tgt)) (h2 : ¬ (0 ≤ x) → J l R D nL X k n ws lv (st) (pc + 3)) : J l R D nL X k n ws lv (.int x :: st) (pc) := by
  obtain ⟨p, e, s, m, args, below, meth, c, A, H0, Q⟩ := X
  obtain ⟨hx, hb, hml, hown, hts, hK, hlk, hA, hr, hnm0, hjn⟩ := C
  intro H locs ls hP hD hS hl
  exact lv_if_ge hx hb hd ht (fun z => h1 z H locs ls hP hD hS hl) (fun z => h2 z H locs ls hP hD hS hl)
theorem j_icmp_ge (C : jK l R D ca nL X cc y0 ret0) {x y : Int32} {off : Int} {tgt : Nat} (hd : decode cc pc = .ok (.if_icmp .ge off, 3)) (ht : (pc : Int) + off = (tgt : Int)) (h1 : y ≤ x → J l R D nL X k n ws lv (st) (tgt)) (h2 : ¬ (y ≤ x) → J l R D nL X k n ws lv (st) (pc + 3)) : J l R D nL X k n ws lv (.int y :: .int x :: st) (pc) := by
  obtain ⟨p, e, s, m, args, below, meth, c, A, H0, Q⟩ := X
  obtain ⟨hx, hb, hml, hown, hts, hK, hlk, hA, hr, hnm0, hjn⟩ := C
  intro H locs ls hP hD hS hl
  exact lv_icmp_ge hx hb hd ht (fun z => h1 z H locs ls hP hD hS hl) (fun z => h2 z H locs ls hP hD hS hl)
theorem j_if_gt (C : jK l R D ca nL X cc y0 ret0) {x : Int32} {off : Int} {tgt : Nat} (hd : decode cc pc = .ok (.ifCond .gt off, 3)) (ht : (pc : Int) + off = (tgt : Int)) (h1 : 0 < x → J l R D nL X k n ws lv (st) (tgt)) (h2 : ¬ (0 < x) → J l R D nL X k n ws lv (st) (pc + 3)) : J l R D nL X k n ws lv (.int x :: st) (pc) := by
  obtain ⟨p, e, s, m, args, below, meth, c, A, H0, Q⟩ := X
  obtain ⟨hx, hb, hml, hown, hts, hK, hlk, hA, hr, hnm0, hjn⟩ := C
  intro H locs ls hP hD hS hl
  exact lv_if_gt hx hb hd ht (fun z => h1 z H locs ls hP hD hS hl) (fun z => h2 z H locs ls hP hD hS hl)
theorem j_icmp_gt (C : jK l R D ca nL X cc y0 ret0) {x y : Int32} {off : Int} {tgt : Nat} (hd : decode cc pc = .ok (.if_icmp .gt off, 3)) (ht : (pc : Int) + off = (tgt : Int)) (h1 : y < x → J l R D nL X k n ws lv (st) (tgt)) (h2 : ¬ (y < x) → J l R D nL X k n ws lv (st) (pc + 3)) : J l R D nL X k n ws lv (.int y :: .int x :: st) (pc) := by
  obtain ⟨p, e, s, m, args, below, meth, c, A, H0, Q⟩ := X
  obtain ⟨hx, hb, hml, hown, hts, hK, hlk, hA, hr, hnm0, hjn⟩ := C
  intro H locs ls hP hD hS hl
  exact lv_icmp_gt hx hb hd ht (fun z => h1 z H locs ls hP hD hS hl) (fun z => h2 z H locs ls hP hD hS hl)
theorem j_if_le (C : jK l R D ca nL X cc y0 ret0) {x : Int32} {off : Int} {tgt : Nat} (hd : decode cc pc = .ok (.ifCond .le off, 3)) (ht : (pc : Int) + off = (tgt : Int)) (h1 : x ≤ 0 → J l R D nL X k n ws lv (st) (tgt)) (h2 : ¬ (x ≤ 0) → J l R D nL X k n ws lv (st) (pc + 3)) : J l R D nL X k n ws lv (.int x :: st) (pc) := by
  obtain ⟨p, e, s, m, args, below, meth, c, A, H0, Q⟩ := X
  obtain ⟨hx, hb, hml, hown, hts, hK, hlk, hA, hr, hnm0, hjn⟩ := C
  intro H locs ls hP hD hS hl
  exact lv_if_le hx hb hd ht (fun z => h1 z H locs ls hP hD hS hl) (fun z => h2 z H locs ls hP hD hS hl)
theorem j_icmp_le (C : jK l R D ca nL X cc y0 ret0) {x y : Int32} {off : Int} {tgt : Nat} (hd : decode cc pc = .ok (.if_icmp .le off, 3)) (ht : (pc : Int) + off = (tgt : Int)) (h1 : x ≤ y → J l R D nL X k n ws lv (st) (tgt)) (h2 : ¬ (x ≤ y) → J l R D nL X k n ws lv (st) (pc + 3)) : J l R D nL X k n ws lv (.int y :: .int x :: st) (pc) := by
  obtain ⟨p, e, s, m, args, below, meth, c, A, H0, Q⟩ := X
  obtain ⟨hx, hb, hml, hown, hts, hK, hlk, hA, hr, hnm0, hjn⟩ := C
  intro H locs ls hP hD hS hl
  exact lv_icmp_le hx hb hd ht (fun z => h1 z H locs ls hP hD hS hl) (fun z => h2 z H locs ls hP hD hS hl)
theorem j_goto (C : jK l R D ca nL X cc y0 ret0) {off : Int} {tgt : Nat} (hd : decode cc pc = .ok (.goto off, 3)) (ht : (pc : Int) + off = (tgt : Int)) (h : J l R D nL X k n ws lv (st) (tgt)) : J l R D nL X k n ws lv (st) (pc) := by
  obtain ⟨p, e, s, m, args, below, meth, c, A, H0, Q⟩ := X
  obtain ⟨hx, hb, hml, hown, hts, hK, hlk, hA, hr, hnm0, hjn⟩ := C
  intro H locs ls hP hD hS hl
  exact lv_goto hx hb hd ht (h H locs ls hP hD hS hl)
theorem j_ifnull (C : jK l R D ca nL X cc y0 ret0) {x : Nat} {off : Int} (hd : decode cc pc = .ok (.ifnull off, 3)) (h : J l R D nL X k n ws lv (st) (pc + 3)) : J l R D nL X k n ws lv (.ref x :: st) (pc) := by
  obtain ⟨p, e, s, m, args, below, meth, c, A, H0, Q⟩ := X
  obtain ⟨hx, hb, hml, hown, hts, hK, hlk, hA, hr, hnm0, hjn⟩ := C
  intro H locs ls hP hD hS hl
  exact lv_ifnull hx hb hd (h H locs ls hP hD hS hl)
theorem j_tabIn (C : jK l R D ca nL X cc y0 ret0) {x : Int32} {dflt lo hi : Int} {offs : Array Int} {len : Nat} {off : Int} {tgt : Nat} (hd : decode cc pc = .ok (.tableswitch dflt lo hi offs, len)) (h1 : ¬ x.toInt < lo) (h2 : ¬ hi < x.toInt) (ho : offs[(x.toInt - lo).toNat]? = some off) (ht : (pc : Int) + off = (tgt : Int)) (h : J l R D nL X k n ws lv (st) (tgt)) : J l R D nL X k n ws lv (.int x :: st) (pc) := by
  obtain ⟨p, e, s, m, args, below, meth, c, A, H0, Q⟩ := X
  obtain ⟨hx, hb, hml, hown, hts, hK, hlk, hA, hr, hnm0, hjn⟩ := C
  intro H locs ls hP hD hS hl
  exact lv_tableIn hx hb hd h1 h2 ho ht (h H locs ls hP hD hS hl)
theorem j_tabOut (C : jK l R D ca nL X cc y0 ret0) {x : Int32} {dflt lo hi : Int} {offs : Array Int} {len : Nat} {tgt : Nat} (hd : decode cc pc = .ok (.tableswitch dflt lo hi offs, len)) (h0 : x.toInt < lo ∨ hi < x.toInt) (ht : (pc : Int) + dflt = (tgt : Int)) (h : J l R D nL X k n ws lv (st) (tgt)) : J l R D nL X k n ws lv (.int x :: st) (pc) := by
  obtain ⟨p, e, s, m, args, below, meth, c, A, H0, Q⟩ := X
  obtain ⟨hx, hb, hml, hown, hts, hK, hlk, hA, hr, hnm0, hjn⟩ := C
  intro H locs ls hP hD hS hl
  exact lv_tableOut hx hb hd h0 ht (h H locs ls hP hD hS hl)
theorem j_ldc (C : jK l R D ca nL X cc y0 ret0) {i : Nat} {v : Int32} (hw : Cond.constant y0.cls i v ∈ jAll) (hd : decode cc pc = .ok (.ldc i, 2)) (h : J l R D nL X k n ws lv (.int v :: st) (pc + 2)) : J l R D nL X k n ws lv (st) (pc) := by
  obtain ⟨p, e, s, m, args, below, meth, c, A, H0, Q⟩ := X
  obtain ⟨hx, hb, hml, hown, hts, hK, hlk, hA, hr, hnm0, hjn⟩ := C
  intro H locs ls hP hD hS hl
  exact lv_ldc hx hb hown (hts _ hw) hd (h H locs ls hP hD hS hl)
theorem j_ldcw (C : jK l R D ca nL X cc y0 ret0) {i : Nat} {v : Int32} (hw : Cond.constant y0.cls i v ∈ jAll) (hd : decode cc pc = .ok (.ldc_w i, 3)) (h : J l R D nL X k n ws lv (.int v :: st) (pc + 3)) : J l R D nL X k n ws lv (st) (pc) := by
  obtain ⟨p, e, s, m, args, below, meth, c, A, H0, Q⟩ := X
  obtain ⟨hx, hb, hml, hown, hts, hK, hlk, hA, hr, hnm0, hjn⟩ := C
  intro H locs ls hP hD hS hl
  exact lv_ldcw hx hb hown (hts _ hw) hd (h H locs ls hP hD hS hl)
theorem j_ldcf (C : jK l R D ca nL X cc y0 ret0) {i : Nat} {v : UInt32} (hw : Cond.constantFloat y0.cls i v ∈ jAll) (hd : decode cc pc = .ok (.ldc i, 2)) (h : J l R D nL X k n ws lv (.float v :: st) (pc + 2)) : J l R D nL X k n ws lv (st) (pc) := by
  obtain ⟨p, e, s, m, args, below, meth, c, A, H0, Q⟩ := X
  obtain ⟨hx, hb, hml, hown, hts, hK, hlk, hA, hr, hnm0, hjn⟩ := C
  intro H locs ls hP hD hS hl
  exact lv_ldcf hx hb hown (hts _ hw) hd (h H locs ls hP hD hS hl)
theorem j_ldcwf (C : jK l R D ca nL X cc y0 ret0) {i : Nat} {v : UInt32} (hw : Cond.constantFloat y0.cls i v ∈ jAll) (hd : decode cc pc = .ok (.ldc_w i, 3)) (h : J l R D nL X k n ws lv (.float v :: st) (pc + 3)) : J l R D nL X k n ws lv (st) (pc) := by
  obtain ⟨p, e, s, m, args, below, meth, c, A, H0, Q⟩ := X
  obtain ⟨hx, hb, hml, hown, hts, hK, hlk, hA, hr, hnm0, hjn⟩ := C
  intro H locs ls hP hD hS hl
  intro T hT X
  obtain ⟨t, a, b⟩ := h H locs ls hP hD hS hl T hT X
  exact ⟨t, va_ldcwF X hx hown (hts _ hw) (g := F0 m pc ls st) rfl (by rw [hb]; exact hd) t a, b⟩
theorem j_ldc2 (C : jK l R D ca nL X cc y0 ret0) {i : Nat} {v : Int64} (hw : Cond.constantLong y0.cls i v ∈ jAll) (hd : decode cc pc = .ok (.ldc2_w i, 3)) (h : J l R D nL X k n ws lv (.long v :: st) (pc + 3)) : J l R D nL X k n ws lv (st) (pc) := by
  obtain ⟨p, e, s, m, args, below, meth, c, A, H0, Q⟩ := X
  obtain ⟨hx, hb, hml, hown, hts, hK, hlk, hA, hr, hnm0, hjn⟩ := C
  intro H locs ls hP hD hS hl
  exact lv_ldc2 hx hb hown (hts _ hw) hd (h H locs ls hP hD hS hl)
end JR
/-- a field that a class's pool names: class and place of the object's cell -/
def jF (own : String) (idx ci j : Nat) : Prop := ∃ r : vw_C, vwCl[ci]? = some r ∧ j < r.2.2 ∧ (∀ w ∈ u_ws r.1 r.2.1 r.2.2, w ∈ jAll) ∧ Cond.fieldLink own idx r.1 (r.2.1 j).2.1 (r.2.1 j).2.2.1 ∈ jAll ∧ (r.2.1 j).1 = r.1
/-- .. which may be written -/
def jFw (own : String) (idx ci j : Nat) (fin : Bool) (ty : FieldType) : Prop := ∃ r : vw_C, vwCl[ci]? = some r ∧ j < r.2.2 ∧ (∀ w ∈ u_ws r.1 r.2.1 r.2.2, w ∈ jAll) ∧ Cond.fieldLink own idx r.1 (r.2.1 j).2.1 (r.2.1 j).2.2.1 ∈ jAll ∧ (r.2.1 j).1 = r.1 ∧ (r.2.1 j).2.2.2 = fin ∧ parseFieldDescriptor (r.2.1 j).2.2.1 = some ty ∧ (∃ ty0 : Nat → FieldType, ∀ k, k < r.2.2 → parseFieldDescriptor (r.2.1 k).2.2.1 = some (ty0 k)) ∧ ∀ a, a < r.2.2 → ∀ b, b < r.2.2 → a ≠ b → (r.2.1 a).2.1 ≠ (r.2.1 b).2.1
theorem jFw.F {own : String} {idx ci j : Nat} {fin : Bool} {ty : FieldType} (h : jFw own idx ci j fin ty) : jF own idx ci j := by
  obtain ⟨r, h1, h2, h3, h4, h5, -⟩ := h
  exact ⟨r, h1, h2, h3, h4, h5⟩
section JR2
variable {l : Launch} {R : Room} {D : va_G} {ca : Nat → ClassId} {nL : Nat} {X : jX} {cc : ByteArray} {y0 : MethodName} {ret0 : Option FieldType} {k n pc : Nat} {ws : va_W} {lv : jLv} {st : List Value}
theorem j_get (C : jK l R D ca nL X cc y0 ret0) {idx ci j a : Nat} (F : jF y0.cls idx ci j) (q0 : Nat) {fs : List Value} {v : Value} (hd : decode cc pc = .ok (.getfield idx, 3)) (he : ws[q0]? = some (a, .inr (ci, fs))) (hv : fs[j]? = some v) (h : J l R D nL X k n ws lv (v :: st) (pc + 3)) : J l R D nL X k n ws lv (.ref a :: st) (pc) := by
  obtain ⟨p, e, s, m, args, below, meth, c, A, H0, Q⟩ := X
  obtain ⟨hx, hb, hml, hown, hts, hK, hlk, hA, hr, hnm0, hjn⟩ := C
  intro H locs ls hP hD hS hl
  obtain ⟨⟨rC, rT, rN⟩, h1, h2, h3, h4, h5⟩ := F
  exact va_get hx hb hts h3 hown hK hP q0 he h1 j h2 (hts _ h4) (fun z hz => by rw [← h5]; exact hz) hv hd (h H locs ls hP hD hS hl)
theorem j_put (C : jK l R D ca nL X cc y0 ret0) {idx ci j a : Nat} {ty : FieldType} (F : jFw y0.cls idx ci j false ty) (q0 : Nat) {fs : List Value} {v : Value} (hd : decode cc pc = .ok (.putfield idx, 3)) (he : ws[q0]? = some (a, .inr (ci, fs))) (hl0 : j < fs.length) (hn : narrow ty v = v) (hf : fits ty v = true) (h : J l R D nL X k n (ws.set q0 (a, .inr (ci, fs.set j v))) lv (st) (pc + 3)) : J l R D nL X k n ws lv (v :: .ref a :: st) (pc) := by
  obtain ⟨p, e, s, m, args, below, meth, c, A, H0, Q⟩ := X
  obtain ⟨hx, hb, hml, hown, hts, hK, hlk, hA, hr, hnm0, hjn⟩ := C
  intro H locs ls hP hD hS hl
  obtain ⟨⟨rC, rT, rN⟩, h1, h2, h3, h4, h5, h6, h7, ⟨ty0, h8⟩, h9⟩ := F
  exact va_put hx hb hts h3 ty0 h8 h9 hown hK hP hD hS q0 he h1 j h2 (hts _ h4) (fun z hz => by rw [← h5]; exact hz) h6 h7 hn hf hl0 hd (fun H1 L1 hP1 hD1 hS1 => h H1 L1 ls hP1 hD1 hS1 hl)
theorem j_putF (C : jK l R D ca nL X cc y0 ret0) {idx ci j a : Nat} {ty : FieldType} (F : jFw y0.cls idx ci j true ty) (q0 : Nat) {fs : List Value} {v : Value} (hd : decode cc pc = .ok (.putfield idx, 3)) (he : ws[q0]? = some (a, .inr (ci, fs))) (hl0 : j < fs.length) (hn : narrow ty v = v) (hf : fits ty v = true) (hi : y0.name = "<init>") (hcl : ∀ r, vwCl[ci]? = some r → r.1 = y0.cls) (h : J l R D nL X k n (ws.set q0 (a, .inr (ci, fs.set j v))) lv (st) (pc + 3)) : J l R D nL X k n ws lv (v :: .ref a :: st) (pc) := by
  obtain ⟨p, e, s, m, args, below, meth, c, A, H0, Q⟩ := X
  obtain ⟨hx, hb, hml, hown, hts, hK, hlk, hA, hr, hnm0, hjn⟩ := C
  intro H locs ls hP hD hS hl
  obtain ⟨⟨rC, rT, rN⟩, h1, h2, h3, h4, h5, h6, h7, ⟨ty0, h8⟩, h9⟩ := F
  exact va_putF hx hb hts h3 ty0 h8 h9 hown hK hP hD hS q0 he h1 j h2 (hts _ h4) (fun z hz => by rw [← h5]; exact hz) h6 (by rw [hnm0]; exact hi) (h5.trans (hcl _ h1)) h7 hn hf hl0 hd (fun H1 L1 hP1 hD1 hS1 => h H1 L1 ls hP1 hD1 hS1 hl)
theorem j_iald (C : jK l R D ca nL X cc y0 ret0) {a N : Nat} (q0 : Nat) {f : Nat → Int32} {i : Int32} (hd : decode cc pc = .ok (.iaload, 1)) (he : ws[q0]? = some (a, .inl (ca 0, N, .inl f))) (hin : vp_in i N) (h : J l R D nL X k n ws lv (.int (f i.toNatClampNeg) :: st) (pc + 1)) : J l R D nL X k n ws lv (.int i :: .ref a :: st) (pc) := by
  obtain ⟨p, e, s, m, args, below, meth, c, A, H0, Q⟩ := X
  obtain ⟨hx, hb, hml, hown, hts, hK, hlk, hA, hr, hnm0, hjn⟩ := C
  intro H locs ls hP hD hS hl
  exact va_iald hx hb hK hP q0 0 he rfl hin hd (h H locs ls hP hD hS hl)
theorem j_cald (C : jK l R D ca nL X cc y0 ret0) {a N : Nat} (q0 : Nat) {f : Nat → Int32} {i : Int32} (hd : decode cc pc = .ok (.caload, 1)) (he : ws[q0]? = some (a, .inl (ca 2, N, .inl f))) (hin : vp_in i N) (h : J l R D nL X k n ws lv (.int (f i.toNatClampNeg) :: st) (pc + 1)) : J l R D nL X k n ws lv (.int i :: .ref a :: st) (pc) := by
  obtain ⟨p, e, s, m, args, below, meth, c, A, H0, Q⟩ := X
  obtain ⟨hx, hb, hml, hown, hts, hK, hlk, hA, hr, hnm0, hjn⟩ := C
  intro H locs ls hP hD hS hl
  exact va_cald hx hb hK hP q0 2 he rfl hin hd (h H locs ls hP hD hS hl)
theorem j_fald (C : jK l R D ca nL X cc y0 ret0) {a N : Nat} (q0 : Nat) {f : Nat → UInt32} {i : Int32} (hd : decode cc pc = .ok (.faload, 1)) (he : ws[q0]? = some (a, .inl (ca 1, N, .inr (.inr (.inl f))))) (hin : vp_in i N) (h : J l R D nL X k n ws lv (.float (f i.toNatClampNeg) :: st) (pc + 1)) : J l R D nL X k n ws lv (.int i :: .ref a :: st) (pc) := by
  obtain ⟨p, e, s, m, args, below, meth, c, A, H0, Q⟩ := X
  obtain ⟨hx, hb, hml, hown, hts, hK, hlk, hA, hr, hnm0, hjn⟩ := C
  intro H locs ls hP hD hS hl
  exact va_fald hx hb hK hP q0 1 he rfl hin hd (h H locs ls hP hD hS hl)
theorem j_aald (C : jK l R D ca nL X cc y0 ret0) {a N : Nat} (q0 : Nat) {f : Nat → Option Nat} {i : Int32} (hd : decode cc pc = .ok (.aaload, 1)) (he : ws[q0]? = some (a, .inl (ca 3, N, .inr (.inr (.inr (.inr f)))))) (hin : vp_in i N) (h : J l R D nL X k n ws lv (va_rf (f i.toNatClampNeg) :: st) (pc + 1)) : J l R D nL X k n ws lv (.int i :: .ref a :: st) (pc) := by
  obtain ⟨p, e, s, m, args, below, meth, c, A, H0, Q⟩ := X
  obtain ⟨hx, hb, hml, hown, hts, hK, hlk, hA, hr, hnm0, hjn⟩ := C
  intro H locs ls hP hD hS hl
  exact va_aldq hx hb hK hP q0 3 he rfl hin hd (h H locs ls hP hD hS hl)
theorem j_iast (C : jK l R D ca nL X cc y0 ret0) {a N : Nat} (q0 : Nat) {f : Nat → Int32} {i x : Int32} (hd : decode cc pc = .ok (.iastore, 1)) (he : ws[q0]? = some (a, .inl (ca 0, N, .inl f))) (hin : vp_in i N) (h : J l R D nL X k n (ws.set q0 (a, .inl (ca 0, N, .inl (upd f i.toNatClampNeg x)))) lv (st) (pc + 1)) : J l R D nL X k n ws lv (.int x :: .int i :: .ref a :: st) (pc) := by
  obtain ⟨p, e, s, m, args, below, meth, c, A, H0, Q⟩ := X
  obtain ⟨hx, hb, hml, hown, hts, hK, hlk, hA, hr, hnm0, hjn⟩ := C
  intro H locs ls hP hD hS hl
  exact va_iast hx hb hK hP hD hS q0 0 he rfl hin hd (fun H1 L1 hP1 hD1 hS1 => h H1 L1 ls hP1 hD1 hS1 hl)
theorem j_cast (C : jK l R D ca nL X cc y0 ret0) {a N : Nat} (q0 : Nat) {f : Nat → Int32} {i x : Int32} (hd : decode cc pc = .ok (.castore, 1)) (he : ws[q0]? = some (a, .inl (ca 2, N, .inl f))) (hin : vp_in i N) (h : J l R D nL X k n (ws.set q0 (a, .inl (ca 2, N, .inl (upd f i.toNatClampNeg (vp_nar .char x))))) lv (st) (pc + 1)) : J l R D nL X k n ws lv (.int x :: .int i :: .ref a :: st) (pc) := by
  obtain ⟨p, e, s, m, args, below, meth, c, A, H0, Q⟩ := X
  obtain ⟨hx, hb, hml, hown, hts, hK, hlk, hA, hr, hnm0, hjn⟩ := C
  intro H locs ls hP hD hS hl
  exact va_cast hx hb hK hP hD hS q0 2 he rfl hin hd (fun H1 L1 hP1 hD1 hS1 => h H1 L1 ls hP1 hD1 hS1 hl)
theorem j_fast (C : jK l R D ca nL X cc y0 ret0) {a N : Nat} (q0 : Nat) {f : Nat → UInt32} {i : Int32} {x : UInt32} (hd : decode cc pc = .ok (.fastore, 1)) (he : ws[q0]? = some (a, .inl (ca 1, N, .inr (.inr (.inl f))))) (hin : vp_in i N) (h : J l R D nL X k n (ws.set q0 (a, .inl (ca 1, N, .inr (.inr (.inl (vf_upd f i.toNatClampNeg x)))))) lv (st) (pc + 1)) : J l R D nL X k n ws lv (.float x :: .int i :: .ref a :: st) (pc) := by
  obtain ⟨p, e, s, m, args, below, meth, c, A, H0, Q⟩ := X
  obtain ⟨hx, hb, hml, hown, hts, hK, hlk, hA, hr, hnm0, hjn⟩ := C
  intro H locs ls hP hD hS hl
  exact va_fast hx hb hK hP hD hS q0 1 he rfl hin hd (fun H1 L1 hP1 hD1 hS1 => h H1 L1 ls hP1 hD1 hS1 hl)
theorem j_aast (C : jK l R D ca nL X cc y0 ret0) {a N b : Nat} (q0 qk : Nat) {fs : List Value} {f : Nat → Option Nat} {i : Int32} (hd : decode cc pc = .ok (.aastore, 1)) (he : ws[q0]? = some (a, .inl (ca 3, N, .inr (.inr (.inr (.inr f)))))) (hq : ws[qk]? = some (b, .inr (0, fs))) (hin : vp_in i N) (h : J l R D nL X k n (ws.set q0 (a, .inl (ca 3, N, .inr (.inr (.inr (.inr (va_up f i.toNatClampNeg (some b)))))))) lv (st) (pc + 1)) : J l R D nL X k n ws lv (.ref b :: .int i :: .ref a :: st) (pc) := by
  obtain ⟨p, e, s, m, args, below, meth, c, A, H0, Q⟩ := X
  obtain ⟨hx, hb, hml, hown, hts, hK, hlk, hA, hr, hnm0, hjn⟩ := C
  intro H locs ls hP hD hS hl
  exact va_astq (r := (RX0, TX0, 11)) hx hb hK hP hD hS q0 3 qk 0 he rfl hq rfl hin hd (fun H1 L1 hP1 hD1 hS1 => h H1 L1 ls hP1 hD1 hS1 hl)
theorem j_alen (C : jK l R D ca nL X cc y0 ret0) {a N : Nat} (q0 : Nat) {f : Nat → Int32} {v : Int32} (hd : decode cc pc = .ok (.arraylength, 1)) (he : ws[q0]? = some (a, .inl (ca 0, N, .inl f))) (hv : Int32.ofNat N = v) (h : J l R D nL X k n ws lv (.int v :: st) (pc + 1)) : J l R D nL X k n ws lv (.ref a :: st) (pc) := by
  obtain ⟨p, e, s, m, args, below, meth, c, A, H0, Q⟩ := X
  obtain ⟨hx, hb, hml, hown, hts, hK, hlk, hA, hr, hnm0, hjn⟩ := C
  intro H locs ls hP hD hS hl
  exact va_alen hx hb hK hP q0 0 he rfl hv hd (h H locs ls hP hD hS hl)
theorem j_objInit (C : jK l R D ca nL X cc y0 ret0) {idx a : Nat} (hw1 : Cond.methodLink y0.cls idx Lib.objectInit ∈ jAll) (hw2 : Cond.instanceMethod Lib.objectInit ∈ jAll) (hw3 : Cond.code Lib.objectInit ⟨#[0xb1]⟩ 1 none ∈ jAll) (hd : decode cc pc = .ok (.invokespecial idx, 3)) (hf : 1 ≤ R.frames) (hL : (st.map fun v => v.category).sum + 12 ≤ R.locals) (h : J l R D nL X k n ws lv (st) (pc + 3)) : J l R D nL X k n ws lv (.ref a :: st) (pc) := by
  obtain ⟨p, e, s, m, args, below, meth, c, A, H0, Q⟩ := X
  obtain ⟨hx, hb, hml, hown, hts, hK, hlk, hA, hr, hnm0, hjn⟩ := C
  intro H locs ls hP hD hS hl
  refine W.objInit (g := F0 m pc ls (.ref a :: st)) hx hb hown (hts _ hw1) (hts _ hw2) (hts _ hw3) rfl (by rw [hml]; exact hl.1) rfl hd hf (by simpa [JFrame.monitorRoom] using hL) ?_
  exact h H locs ls hP hD hS hl
theorem j_new (C : jK l R D ca nL X cc y0 ret0) {idx ci : Nat} (fs : List Value) {rC : String} {rT : u_T} {rN : Nat} (ty : Nat → FieldType) (hty : ∀ k, k < rN → parseFieldDescriptor (rT k).2.2.1 = some (ty k)) (hin : ∀ w ∈ u_ws rC rT rN, w ∈ jAll) (hw1 : Cond.classLink y0.cls idx rC ∈ jAll) (hw2 : Cond.instantiable rC rN ∈ jAll) (hw3 : Cond.initialized rC ∈ jAll) (hc : vwCl[ci]? = some (rC, rT, rN)) (hfs : ∀ j, j < rN → defaultValue (ty j) = vp_V fs j) (h1 : k + 1 ≤ R.cells) (h2 : n + rN ≤ R.slots) (hd : decode cc pc = .ok (.new idx, 3)) (h : ∀ q, J l R D nL X (k + 1) (n + rN) (ws ++ [(q, .inr (ci, fs))]) lv (.ref q :: st) (pc + 3)) : J l R D nL X k n ws lv (st) (pc) := by
  obtain ⟨p, e, s, m, args, below, meth, c, A, H0, Q⟩ := X
  obtain ⟨hx, hb, hml, hown, hts, hK, hlk, hA, hr, hnm0, hjn⟩ := C
  intro H locs ls hP hD hS hl
  exact va_new hx hb hts hin ty hty hown (hts _ hw1) (hts _ hw2) (hts _ hw3) hK hP hD hS hA hc hfs h1 h2 hd (fun q H1 hP1 hD1 hS1 => h q H1 locs ls hP1 hD1 hS1 hl)
theorem j_newa_i (C : jK l R D ca nL X cc y0 ret0) (N : Nat) {v : Int32} (hw : Cond.arrayClass .int ∈ jAll) (hn : ¬ v < 0) (hN : v.toNatClampNeg = N) (hbt : N * componentBytes .int ≤ 536870912) (h1 : k + 1 ≤ R.cells) (h2 : n + N ≤ R.slots) (hd : decode cc pc = .ok (.newarray .int, 2)) (h : ∀ q, J l R D nL X (k + 1) (n + N) (ws ++ [(q, .inl (ca 0, N, .inl (fun _ => 0)))]) lv (.ref q :: st) (pc + 2)) : J l R D nL X k n ws lv (.int v :: st) (pc) := by
  obtain ⟨p, e, s, m, args, below, meth, c, A, H0, Q⟩ := X
  obtain ⟨hx, hb, hml, hown, hts, hK, hlk, hA, hr, hnm0, hjn⟩ := C
  intro H locs ls hP hD hS hl
  refine va_newa (atype := .int) (ty := .int) (a0 := (N, .inl (fun _ => 0))) hx hb (hts _ hw) rfl hK hP hD hS hA (fun cA => rfl) hn hN hbt h1 h2 hd (fun q cA H1 hK1 hP1 hD1 hS1 => ?_)
  have e1 := (hK1.2 4 (cA, .int) rfl).2
  have e2 := (hK.2 0 (ca 0, .int) rfl).2
  have e3 : cA = ca 0 := Option.some.inj (e1.symm.trans e2)
  subst e3
  exact h q H1 locs ls hP1 hD1 hS1 hl
theorem j_newa_f (C : jK l R D ca nL X cc y0 ret0) (N : Nat) {v : Int32} (hw : Cond.arrayClass .float ∈ jAll) (hn : ¬ v < 0) (hN : v.toNatClampNeg = N) (hbt : N * componentBytes .float ≤ 536870912) (h1 : k + 1 ≤ R.cells) (h2 : n + N ≤ R.slots) (hd : decode cc pc = .ok (.newarray .float, 2)) (h : ∀ q, J l R D nL X (k + 1) (n + N) (ws ++ [(q, .inl (ca 1, N, .inr (.inr (.inl (fun _ => 0)))))]) lv (.ref q :: st) (pc + 2)) : J l R D nL X k n ws lv (.int v :: st) (pc) := by
  obtain ⟨p, e, s, m, args, below, meth, c, A, H0, Q⟩ := X
  obtain ⟨hx, hb, hml, hown, hts, hK, hlk, hA, hr, hnm0, hjn⟩ := C
  intro H locs ls hP hD hS hl
  refine va_newa (atype := .float) (ty := .float) (a0 := (N, .inr (.inr (.inl (fun _ => 0))))) hx hb (hts _ hw) rfl hK hP hD hS hA (fun cA => rfl) hn hN hbt h1 h2 hd (fun q cA H1 hK1 hP1 hD1 hS1 => ?_)
  have e1 := (hK1.2 4 (cA, .float) rfl).2
  have e2 := (hK.2 1 (ca 1, .float) rfl).2
  have e3 : cA = ca 1 := Option.some.inj (e1.symm.trans e2)
  subst e3
  exact h q H1 locs ls hP1 hD1 hS1 hl
theorem j_newa_c (C : jK l R D ca nL X cc y0 ret0) (N : Nat) {v : Int32} (hw : Cond.arrayClass .char ∈ jAll) (hn : ¬ v < 0) (hN : v.toNatClampNeg = N) (hbt : N * componentBytes .char ≤ 536870912) (h1 : k + 1 ≤ R.cells) (h2 : n + N ≤ R.slots) (hd : decode cc pc = .ok (.newarray .char, 2)) (h : ∀ q, J l R D nL X (k + 1) (n + N) (ws ++ [(q, .inl (ca 2, N, .inl (fun _ => 0)))]) lv (.ref q :: st) (pc + 2)) : J l R D nL X k n ws lv (.int v :: st) (pc) := by
  obtain ⟨p, e, s, m, args, below, meth, c, A, H0, Q⟩ := X
  obtain ⟨hx, hb, hml, hown, hts, hK, hlk, hA, hr, hnm0, hjn⟩ := C
  intro H locs ls hP hD hS hl
  refine va_newa (atype := .char) (ty := .char) (a0 := (N, .inl (fun _ => 0))) hx hb (hts _ hw) rfl hK hP hD hS hA (fun cA => rfl) hn hN hbt h1 h2 hd (fun q cA H1 hK1 hP1 hD1 hS1 => ?_)
  have e1 := (hK1.2 4 (cA, .char) rfl).2
  have e2 := (hK.2 2 (ca 2, .char) rfl).2
  have e3 : cA = ca 2 := Option.some.inj (e1.symm.trans e2)
  subst e3
  exact h q H1 locs ls hP1 hD1 hS1 hl
end JR2
end
section
abbrev jw (y : MethodName) (cc : ByteArray) (nL : Nat) (ret : Option FieldType) : List Cond := Cond.code y cc nL ret :: jAll
def jQ (D : va_G) (ca : Nat → ClassId) (w0 : va_W) (sz : Nat) (post : Option Value → va_W → Prop) : Array Value → State → Outcome → State → Prop := fun _ st oc t =>
  (∃ (v : Option Value) (w1 : va_W), oc = .returned v ∧ post v w1 ∧ va_P D vwCl w1 t.heap ∧ va_K D vwCl (jT ca) t ∧ va_D (va_A w0 sz) w1) ∧ va_F (va_A w0 sz) st t
/-- the contract of the method y: with the arguments av and the cells w0 it returns what post says -/
def jM (l : Launch) (D : va_G) (ca : Nat → ClassId) (y : MethodName) (cc : ByteArray) (nL : Nat) (ret : Option FieldType) (fr loc mc ms : Nat) (av : List Value) (w0 : va_W) (post : Option Value → va_W → Prop) : Prop :=
  ∀ sz : Nat, Met l y (jw y cc nL ret) ({ frames := fr, cells := mc, slots := ms, locals := loc } : Room) (va_Pc av (fun U => U.heap.size = sz ∧ va_P D vwCl w0 U.heap ∧ va_K D vwCl (jT ca) U ∧ va_D (fun _ => True) w0 ∧ jN U)) (jQ D ca w0 sz post) mc ms (va_A w0 sz)
/-- how a method may end: the instruction, the type, the value -/
def jR (cc : ByteArray) (pc : Nat) (ret : Option FieldType) (v : Option Value) : Prop :=
  (∃ (x : Int32) (ty : FieldType), v = some (.int x) ∧ ret = some ty ∧ narrow ty (.int x) = .int x ∧ decode cc pc = .ok (.ireturn, 1)) ∨
  (∃ x : UInt32, v = some (.float x) ∧ ret = some .float ∧ decode cc pc = .ok (.freturn, 1)) ∨
  (v = none ∧ ret = none ∧ decode cc pc = .ok (.return_, 1)) ∨
  (∃ (w : Value) (C : String), v = some w ∧ ret = some (.object C) ∧ (w = .null ∨ ∃ a, w = .ref a) ∧ decode cc pc = .ok (.areturn, 1))
def jE (l : Launch) (R : Room) (D : va_G) (nL : Nat) (X : jX) (cc : ByteArray) (k n : Nat) (ret : Option FieldType) (post : Option Value → va_W → Prop) : Prop :=
  ∀ (ws : va_W) (lv : jLv) (pc : Nat) (v : Option Value), post v ws → jR cc pc ret v → J l R D nL X k n ws lv v.toList pc
theorem jM_of {l : Launch} {D : va_G} {ca : Nat → ClassId} {y : MethodName} {cc : ByteArray} {nL : Nat} {ret : Option FieldType} {fr loc mc ms : Nat} {av : List Value} {w0 : va_W} {post : Option Value → va_W → Prop} (lv : jLv) (hy : plainName y.cls = true) (hlen : (lg_sl av).length ≤ nL) (hlv : lv_args 0 av = lv)
    (h : ∀ X, jK l { frames := fr, cells := mc, slots := ms, locals := loc } D ca nL X cc y ret → jE l { frames := fr, cells := mc, slots := ms, locals := loc } D nL X cc mc ms ret post → J l { frames := fr, cells := mc, slots := ms, locals := loc } D nL X 0 0 w0 lv [] 0) : jM l D ca y cc nL ret fr loc mc ms av w0 post := by
  intro sz
  refine Met.ofW (cc := cc) (maxL := nL) (ret := ret) hy rfl ?_
  intro p e s m args below meth c s₁ B hml hv
  obtain ⟨rfl, hsz, hP, hK, hD0, hN⟩ := hv
  subst hsz
  have hts := atoms_spec (ws := jw y cc nL ret) B.pre
  have hown : s.vm.findClass y.cls = some m.cls := findClass_of_methodNamed B.named
  rw [lg_entry_eq]
  have hl := lv_entry av (n := nL) hlen
  rw [hlv] at hl
  have hx := B.exec
  have hb := B.bytes
  have hr := B.returns
  have hlk := B.notSynchronized
  refine h (p, e, s, m, av.toArray, below, meth, c, va_A w0 s.heap.size, s.heap, MQ below (jQ D ca w0 s.heap.size post) av.toArray s mc ms (va_A w0 s.heap.size)) ⟨hx, hb, hml, hown, fun w hw => hts w (List.mem_cons_of_mem _ hw), hK, hlk, fun q h => Or.inr h, hr, (name_of_methodNamed B.named B.method).1, hN⟩ ?_ s.heap [] _ hP hD0.self va_S.rf hl
  intro ws lv pc v hp hR H locs ls hP hD hS hl
  rcases hR with ⟨x, ty, rfl, h2, h3, h4⟩ | ⟨x, rfl, h2, h4⟩ | ⟨rfl, h2, h4⟩ | ⟨w, C, rfl, h2, h3, h4⟩
  · exact W.zret hx hb (hr.trans h2) h3 (fun t ht hW => ⟨⟨_, ws, rfl, hp, by rw [ht]; exact hP, va_K.moved hW.alike hK, hD⟩, hS.F ht⟩) hS.2.2 h4 hlk
  · exact W.fret hx hb (hr.trans h2) (fun t ht hW => ⟨⟨_, ws, rfl, hp, by rw [ht]; exact hP, va_K.moved hW.alike hK, hD⟩, hS.F ht⟩) hS.2.2 h4 hlk
  · exact W.vret hx hb (hr.trans h2) (fun t ht hW => ⟨⟨_, ws, rfl, hp, by rw [ht]; exact hP, va_K.moved hW.alike hK, hD⟩, hS.F ht⟩) hS.2.2 h4 hlk
  · exact W.aret hx hb (hr.trans h2) (Or.inl ⟨C, rfl⟩) h3 (fun t ht hW => ⟨⟨_, ws, rfl, hp, by rw [ht]; exact hP, va_K.moved hW.alike hK, hD⟩, hS.F ht⟩) hS.2.2 h4 hlk
/-- ws with the cells w at the places is -/
def jrep : va_W → List Nat → va_W → va_W
  | ws, i :: is, q :: w => jrep (ws.set i q) is w
  | ws, _, _ => ws
theorem jrep_len : ∀ (is : List Nat) (ws w : va_W), (jrep ws is w).length = ws.length
  | [], ws, w => by unfold jrep; rfl
  | i :: is, ws, [] => by unfold jrep; rfl
  | i :: is, ws, q :: w => by
    unfold jrep
    rw [jrep_len is (ws.set i q) w, List.length_set]
theorem jrep_get : ∀ (is : List Nat) (ws w : va_W), is.length = w.length → va_nd is = true → ∀ (k : Nat) (q : Nat × va_E), (jrep ws is w)[k]? = some q → (∃ j : Nat, is[j]? = some k ∧ w[j]? = some q) ∨ (k ∉ is ∧ ws[k]? = some q)
  | [], ws, w, _, _, k, q, h => by
    unfold jrep at h
    exact Or.inr ⟨List.not_mem_nil, h⟩
  | i :: is, ws, [], hl, _, k, q, h => by simp at hl
  | i :: is, ws, r :: w, hl, hn, k, q, h => by
    unfold jrep at h
    simp only [va_nd, Bool.and_eq_true, decide_eq_true_eq] at hn
    rcases jrep_get is (ws.set i r) w (by simpa using hl) hn.2 k q h with ⟨j, h1, h2⟩ | ⟨h1, h2⟩
    · exact Or.inl ⟨j + 1, h1, h2⟩
    · by_cases hk : k = i
      · subst hk
        by_cases hb : k < ws.length
        · rw [List.getElem?_set_self hb] at h2
          exact Or.inl ⟨0, rfl, h2⟩
        · have h3 := (List.getElem?_eq_some_iff.mp h2).1
          rw [List.length_set] at h3
          exact absurd h3 hb
      · rw [List.getElem?_set_ne (Ne.symm hk)] at h2
        exact Or.inr ⟨fun z => (List.mem_cons.mp z).elim hk h1, h2⟩
theorem jrep_self : ∀ (is : List Nat) (ws w : va_W), is.map (fun i => ws[i]?) = w.map some → jrep ws is w = ws
  | [], ws, w, _ => by unfold jrep; rfl
  | i :: is, ws, [], h => by simp at h
  | i :: is, ws, q :: w, h => by
    simp only [List.map_cons, List.cons.injEq] at h
    have hs : ws.set i q = ws := by
      apply List.ext_getElem?
      intro k
      by_cases hk : k = i
      · subst hk
        have hl := (List.getElem?_eq_some_iff.mp h.1).1
        rw [List.getElem?_set_self hl, h.1]
      · rw [List.getElem?_set_ne (Ne.symm hk)]
    unfold jrep
    rw [hs]
    exact jrep_self is ws w h.2
/-- where a list of places is that of w0's cells in ws -/
theorem j_plc {ws w0 : va_W} {is : List Nat} (hC : is.map (fun i => ws[i]?) = w0.map some) {j : Nat} {q : Nat × va_E} (h : w0[j]? = some q) : ∃ i, is[j]? = some i ∧ ws[i]? = some q := by
  have h1 := congrArg (fun z => z[j]?) hC
  simp only [List.getElem?_map, h, Option.map_some] at h1
  cases hi : is[j]? with
  | none => rw [hi] at h1; cases h1
  | some i => rw [hi] at h1; exact ⟨i, rfl, Option.some.inj h1⟩
theorem j_plc2 {ws w0 : va_W} {is : List Nat} (hC : is.map (fun i => ws[i]?) = w0.map some) {j i : Nat} (h : is[j]? = some i) : ∃ q, w0[j]? = some q ∧ ws[i]? = some q := by
  have h1 := congrArg (fun z => z[j]?) hC
  simp only [List.getElem?_map, h, Option.map_some] at h1
  cases hi : w0[j]? with
  | none => rw [hi] at h1; cases h1
  | some q => rw [hi] at h1; exact ⟨q, rfl, Option.some.inj h1⟩
/-- behind a call that makes no cell: its cells stand in their places -/
theorem j_repl {A : Nat → Prop} {D : va_G} {ws w0 w1 : va_W} {H H1 : Heap} {is : List Nat} (hP : va_P D vwCl ws H) (hD : va_D A ws) (hC : is.map (fun i => ws[i]?) = w0.map some) (hn : va_nd is = true) (hw : w1.map Prod.fst = w0.map Prod.fst)
    (hk : ∀ q : Nat, q < H.size → ¬ va_A w0 H.size q → H1[q]? = H[q]?) (hP1 : va_P D vwCl w1 H1) : va_P D vwCl (jrep ws is w1) H1 ∧ va_D A (jrep ws is w1) := by
  have hll : is.length = w1.length := by
    have h1 := congrArg List.length hC
    have h2 := congrArg List.length hw
    simp only [List.length_map] at h1 h2
    omega
  have hfst : ∀ (j : Nat) (q : Nat × va_E), w1[j]? = some q → ∃ q0, w0[j]? = some q0 ∧ q0.1 = q.1 := by
    intro j q hq
    have h2 := congrArg (fun z => z[j]?) hw
    simp only [List.getElem?_map, hq, Option.map_some] at h2
    cases hz : w0[j]? with
    | none => rw [hz] at h2; cases h2
    | some q0 => rw [hz] at h2; exact ⟨q0, rfl, (Option.some.inj h2).symm⟩
  have key : ∀ (i : Nat) (q : Nat × va_E), (jrep ws is w1)[i]? = some q → ∃ q0, ws[i]? = some q0 ∧ q0.1 = q.1 := by
    intro i q hq
    rcases jrep_get is ws w1 hll hn i q hq with ⟨j, h1, h2⟩ | ⟨h1, h2⟩
    · obtain ⟨q0, h3, h4⟩ := hfst j q h2
      obtain ⟨q2, h5, h6⟩ := j_plc2 hC h1
      rw [h3] at h5
      cases h5
      exact ⟨q0, h6, h4⟩
    · exact ⟨q, h2, rfl⟩
  refine ⟨fun i q hq => ?_, fun i j x y hx hy hxy => ?_, fun i q hq => ?_⟩
  · rcases jrep_get is ws w1 hll hn i q hq with ⟨j, h1, h2⟩ | ⟨h1, h2⟩
    · exact hP1 j q h2
    · refine (hP i q h2).kept (hk q.1 (hP i q h2).lt (fun z => ?_))
      rcases z with ⟨j, e, h3⟩ | h3
      · obtain ⟨i2, h4, h5⟩ := j_plc hC h3
        have := hD.1 i i2 q (q.1, e) h2 h5 rfl
        subst this
        exact h1 (List.mem_of_getElem? h4)
      · have := (hP i q h2).lt
        omega
  · obtain ⟨x0, h1, h2⟩ := key i x hx
    obtain ⟨y0, h3, h4⟩ := key j y hy
    exact hD.1 i j x0 y0 h1 h3 (by rw [h2, h4, hxy])
  · obtain ⟨q0, h1, h2⟩ := key i q hq
    rw [← h2]
    exact hD.2 i q0 h1
theorem j_back {l : Launch} {R : Room} {D : va_G} {ca : Nat → ClassId} {nL : Nat} {p : Program} {e : Env} {s : State} {m : MethodId} {args : Array Value} {below : List Frame} {meth : Method} {c : Code} {A : Nat → Prop} {H0 H : Heap} {Q : State → Prop} {k n mc ms pc : Nat} {ws w0 : va_W} {lv : jLv} {st0 rest : List Value} {locs : List Loc} {ls : Array Slot} {a : Array Value} {post : Option Value → va_W → Prop}
    (hr : va_Run p l e R s m args below meth c H locs k n mc ms (F0 m pc ls st0) rest (jQ D ca w0 H.size post a) (va_A w0 H.size)) (hD : va_D A ws) (hS : va_S A H0 H locs) (hl : lv_has ls nL lv) (hA : ∀ q, H0.size ≤ q → A q) (is : List Nat) (hC : is.map (fun i => ws[i]?) = w0.map some) (mk : va_W → va_W)
    (hmk : ∀ (v : Option Value) (w1 : va_W) (H1 : Heap), post v w1 → (∀ q : Nat, q < H.size → ¬ va_A w0 H.size q → H1[q]? = H[q]?) → (∀ q, va_A w0 H.size q → A q) → va_P D vwCl w1 H1 → va_D (va_A w0 H.size) w1 → va_P D vwCl (mk w1) H1 ∧ va_D A (mk w1))
    (kk : ∀ (v : Option Value) (w1 : va_W), post v w1 → J l R D nL (p, e, s, m, args, below, meth, c, A, H0, Q) (k + mc) (n + ms) (mk w1) lv (v.toList ++ rest) (pc + 3)) : W p l e R s m args below meth c H locs k n Q (F0 m pc ls st0) := by
  have hF : ∀ q, va_A w0 H.size q → A q := va_free hD hS hA is hC
  intro T hT X'
  obtain ⟨v, st₀, t, T', L, h0, X1, hL, e1, e2, ⟨⟨v', w1, hv, hp, hP1, hK1, hD1⟩, hz, hk⟩, st⟩ := hr T hT X'
  cases hv
  rw [h0] at hz hk
  obtain ⟨hP2, hD2⟩ := hmk v w1 T'.heap hp (fun q h1 h2 => by rw [e1]; exact hk q h1 h2) hF (by rw [e1]; exact hP1) hD1
  obtain ⟨t2, a1, b1⟩ := kk v w1 hp T'.heap (locs ++ L) ls hP2 hD2
    ⟨Nat.le_trans hS.1 (by rw [e1]; exact hz), fun q h1 h2 => by rw [e1, hk q (Nat.lt_of_lt_of_le h1 hS.1) (fun z => h2 (hF q z))]; exact hS.2.1 q h1 h2, fun q hq => by
      rcases List.mem_append.mp hq with h | h
      · exact hS.2.2 q h
      · exact hF _ (hL q h)⟩ hl T' rfl X1
  exact ⟨t2, st t2 a1, b1⟩
/-- what is known of a call's place in the code -/
def jGV (own : String) (idx : Nat) (y : MethodName) (cb : ByteArray) (maxL : Nat) (ret : Option FieldType) (na : Nat) : Prop := GoodIn jAll (wsV own idx y.cls y (jw y cb maxL ret)) ∧ y.cls ≠ "java/lang/invoke/MethodHandle" ∧ y.cls ≠ "java/lang/invoke/VarHandle" ∧ (parseMethodDescriptor y.desc).map (fun d => d.parameters.length) = some na
def jGS (own : String) (idx : Nat) (y : MethodName) (cb : ByteArray) (maxL : Nat) (ret : Option FieldType) (na : Nat) : Prop := y.cls = own ∧ GoodIn jAll (wsS own idx y (jw y cb maxL ret)) ∧ y.cls ≠ "java/lang/invoke/MethodHandle" ∧ y.cls ≠ "java/lang/invoke/VarHandle" ∧ (parseMethodDescriptor y.desc).map (fun d => d.parameters.length) = some na
def jGSN (own : String) (idx : Nat) (y : MethodName) (host : String) (cb : ByteArray) (maxL : Nat) (ret : Option FieldType) (na : Nat) : Prop := Cond.methodLinkNest own idx y host ∈ jNest ∧ Cond.static y ∈ jAll ∧ Cond.initialized y.cls ∈ jAll ∧ GoodIn jAll (jw y cb maxL ret) ∧ y.cls ≠ "java/lang/invoke/MethodHandle" ∧ y.cls ≠ "java/lang/invoke/VarHandle" ∧ (parseMethodDescriptor y.desc).map (fun d => d.parameters.length) = some na
def jGI (own : String) (idx : Nat) (y : MethodName) (cb : ByteArray) (maxL : Nat) (na : Nat) : Prop := y.name = "<init>" ∧ GoodIn jAll (jw y cb maxL none) ∧ Cond.initialized y.cls ∈ jAll ∧ Cond.methodLink own idx y ∈ jAll ∧ Cond.instanceMethod y ∈ jAll ∧ y.cls ≠ "java/lang/invoke/MethodHandle" ∧ y.cls ≠ "java/lang/invoke/VarHandle" ∧ (parseMethodDescriptor y.desc).map (fun d => d.parameters.length) = some na
def jGIN (own : String) (idx : Nat) (y : MethodName) (host : String) (cb : ByteArray) (maxL : Nat) (na : Nat) : Prop := y.name = "<init>" ∧ Cond.methodLinkNest own idx y host ∈ jNest ∧ GoodIn jAll (jw y cb maxL none) ∧ Cond.initialized y.cls ∈ jAll ∧ Cond.instanceMethod y ∈ jAll ∧ y.cls ≠ "java/lang/invoke/MethodHandle" ∧ y.cls ≠ "java/lang/invoke/VarHandle" ∧ (parseMethodDescriptor y.desc).map (fun d => d.parameters.length) = some na
theorem jN_warm {s U : State} (hW : s.WarmedH U.vm) (h : jN s) : jN U := by
  refine ⟨fun w hw => ?_, va_AO.moved hW.alike h.2⟩
  have h1 := h.1 w hw
  simp only [jNest, List.mem_cons, List.not_mem_nil, or_false] at hw
  rcases hw with rfl | rfl | rfl | rfl | rfl | rfl | rfl | rfl | rfl | rfl | rfl <;> exact va_Nw.warmM hW h1
theorem jN_blind {U : State} {g : JFrame} {mk : MethodId} {a : Array Value} (h : jN U) : jN (U.calling g mk a) := by
  refine ⟨fun w hw => ?_, va_AO.moved (Vm.Alike.refl U.vm) h.2⟩
  have h1 := h.1 w hw
  simp only [jNest, List.mem_cons, List.not_mem_nil, or_false] at hw
  rcases hw with rfl | rfl | rfl | rfl | rfl | rfl | rfl | rfl | rfl | rfl | rfl <;> exact va_Nw.same rfl (u := U) (U := U.calling g mk a) rfl h1
theorem jP_blind {D : va_G} {ca : Nat → ClassId} {av : List Value} {w0 : va_W} {sz : Nat} : FrameBlind (va_Pc av (fun U => U.heap.size = sz ∧ va_P D vwCl w0 U.heap ∧ va_K D vwCl (jT ca) U ∧ va_D (fun _ => True) w0 ∧ jN U)) := by
  intro a U g mk q
  obtain ⟨q0, q1, qP, qK, qD, qN⟩ := q
  exact ⟨q0, q1, qP, va_K.moved (u := U) (U := U.calling g mk a) (Vm.Alike.refl U.vm) qK, qD, jN_blind qN⟩
end
section
/-- a contract with one answer and one world behind it -/
abbrev jD (v : Option Value) (w : va_W) : Option Value → va_W → Prop := fun v' w' => v' = v ∧ w' = w
section JC
variable {l : Launch} {R : Room} {D : va_G} {ca : Nat → ClassId} {nL : Nat} {X : jX} {cc : ByteArray} {y0 : MethodName} {ret0 : Option FieldType} {k n pc : Nat} {ws w0 : va_W} {lv : jLv} {st As rest : List Value} {idx na fr loc maxL b : Nat} {y : MethodName} {cb : ByteArray} {ret : Option FieldType} {post : Option Value → va_W → Prop}
theorem j_fm {ws w0 : va_W} {is : List Nat} (hC : is.map (fun i => ws[i]?) = w0.map some) : is.filterMap (fun i => ws[i]?) = w0 := by
  have h : (is.map (fun i => ws[i]?)).filterMap id = (w0.map some).filterMap id := congrArg _ hC
  rw [List.filterMap_map, List.filterMap_map] at h
  simpa [Function.comp_def] using h
theorem j_callV (C : jK l R D ca nL X cc y0 ret0) (G : jGV y0.cls idx y cb maxL ret na) (hM : jM l D ca y cb maxL ret fr loc 0 0 (.ref b :: As) w0 post) (q0 : Nat) {ci : Nat} {fs : List Value} (hq : ws[q0]? = some (b, .inr (ci, fs))) (hcl : ∀ r, vwCl[ci]? = some r → r.1 = y.cls) (hR : fr + 1 ≤ R.frames ∧ 8 + (maxL + 11) + loc ≤ R.locals) (hkn : k ≤ R.cells ∧ n ≤ R.slots) (is : List Nat) (hC : is.map (fun i => ws[i]?) = w0.map some) (hn : va_nd is = true) (hAs : As.length = na) (hst : st = As.reverse ++ .ref b :: rest) (hcat : (rest.map fun v => v.category).sum ≤ 8) (hd : decode cc pc = .ok (.invokevirtual idx, 3)) (hw : ∀ (v : Option Value) (w1 : va_W), post v w1 → w1.map Prod.fst = w0.map Prod.fst) (kk : ∀ (v : Option Value) (w1 : va_W), post v w1 → J l R D nL X k n (jrep ws is w1) lv (v.toList ++ rest) (pc + 3)) : J l R D nL X k n ws lv st pc := by
  obtain ⟨p, e, s, m, args, below, meth, c, A, H0, Q⟩ := X
  obtain ⟨hx, hb, hml, hown, hts, hK, hlk, hA, hr, hnm0, hjn⟩ := C
  intro H locs ls hP hD hS hl
  subst hst
  have hK0 : va_K D vwCl (jT ca) s := hK
  obtain ⟨g1, g2, g3, g4⟩ := G
  have hci : ∃ r, vwCl[ci]? = some r := by
    obtain ⟨r, h1, -⟩ := hP q0 _ hq
    exact ⟨r, h1⟩
  obtain ⟨r, hr0⟩ := hci
  have hrec := va_recv hK0 hP (ci := ci) (q0 := q0) hr0 hq
  rw [hcl r hr0] at hrec
  refine j_back (va_runV (As := As) (rest := rest) (C := y.cls) ⟨hx, hb, hml, hown, hts⟩ (hM H.size) (cwV na hts g1 rfl rfl rfl ⟨rfl, g2, g3, g4⟩ hR) ⟨jP_blind, hrec, fun U hU hW => ⟨rfl, by rw [hU], by rw [hU]; exact hP.sub is (by rw [show (fun i => ws[i]?) = (fun i => ws[i]?) from rfl]; exact j_fm hC), va_K.moved hW.alike hK0, (hD.sub is hn hC).weaken (fun _ _ _ _ => trivial), jN_warm hW hjn⟩⟩ rfl hAs hl.1 rfl (lv_room hcat) hd ⟨hkn.1, hkn.2⟩) hD hS hl hA is hC (fun w1 => jrep ws is w1) (fun v w1 H1 h1 h2 _ h3 _ => j_repl hP hD hC hn (hw v w1 h1) h2 h3) kk
theorem j_callS (C : jK l R D ca nL X cc y0 ret0) (G : jGS y0.cls idx y cb maxL ret na) (hM : jM l D ca y cb maxL ret fr loc 0 0 As w0 post) (hR : fr + 1 ≤ R.frames ∧ 8 + (maxL + 11) + loc ≤ R.locals) (hkn : k ≤ R.cells ∧ n ≤ R.slots) (is : List Nat) (hC : is.map (fun i => ws[i]?) = w0.map some) (hn : va_nd is = true) (hAs : As.length = na) (hst : st = As.reverse ++ rest) (hcat : (rest.map fun v => v.category).sum ≤ 8) (hd : decode cc pc = .ok (.invokestatic idx, 3)) (hw : ∀ (v : Option Value) (w1 : va_W), post v w1 → w1.map Prod.fst = w0.map Prod.fst) (kk : ∀ (v : Option Value) (w1 : va_W), post v w1 → J l R D nL X k n (jrep ws is w1) lv (v.toList ++ rest) (pc + 3)) : J l R D nL X k n ws lv st pc := by
  obtain ⟨p, e, s, m, args, below, meth, c, A, H0, Q⟩ := X
  obtain ⟨hx, hb, hml, hown, hts, hK, hlk, hA, hr, hnm0, hjn⟩ := C
  intro H locs ls hP hD hS hl
  subst hst
  have hK0 : va_K D vwCl (jT ca) s := hK
  obtain ⟨g0, g1, g2, g3, g4⟩ := G
  refine j_back (va_runS (As := As) (rest := rest) ⟨hx, hb, hml, hown, hts⟩ (hM H.size) (cwS na hts g1 rfl rfl rfl ⟨g0, g2, g3, g4⟩ hR) ⟨jP_blind, fun U hU hW => ⟨rfl, by rw [hU], by rw [hU]; exact hP.sub is (by rw [show (fun i => ws[i]?) = (fun i => ws[i]?) from rfl]; exact j_fm hC), va_K.moved hW.alike hK0, (hD.sub is hn hC).weaken (fun _ _ _ _ => trivial), jN_warm hW hjn⟩⟩ rfl hAs hl.1 rfl (lv_room hcat) hd ⟨hkn.1, hkn.2⟩) hD hS hl hA is hC (fun w1 => jrep ws is w1) (fun v w1 H1 h1 h2 _ h3 _ => j_repl hP hD hC hn (hw v w1 h1) h2 h3) kk
theorem j_callSN (C : jK l R D ca nL X cc y0 ret0) {host : String} (G : jGSN y0.cls idx y host cb maxL ret na) (hM : jM l D ca y cb maxL ret fr loc 0 0 As w0 post) (hR : fr + 1 ≤ R.frames ∧ 8 + (maxL + 11) + loc ≤ R.locals) (hkn : k ≤ R.cells ∧ n ≤ R.slots) (is : List Nat) (hC : is.map (fun i => ws[i]?) = w0.map some) (hn : va_nd is = true) (hAs : As.length = na) (hst : st = As.reverse ++ rest) (hcat : (rest.map fun v => v.category).sum ≤ 8) (hd : decode cc pc = .ok (.invokestatic idx, 3)) (hw : ∀ (v : Option Value) (w1 : va_W), post v w1 → w1.map Prod.fst = w0.map Prod.fst) (kk : ∀ (v : Option Value) (w1 : va_W), post v w1 → J l R D nL X k n (jrep ws is w1) lv (v.toList ++ rest) (pc + 3)) : J l R D nL X k n ws lv st pc := by
  obtain ⟨p, e, s, m, args, below, meth, c, A, H0, Q⟩ := X
  obtain ⟨hx, hb, hml, hown, hts, hK, hlk, hA, hr, hnm0, hjn⟩ := C
  intro H locs ls hP hD hS hl
  subst hst
  have hK0 : va_K D vwCl (jT ca) s := hK
  obtain ⟨g0, g5, g6, g1, g2, g3, g4⟩ := G
  refine j_back (va_runSN (As := As) (rest := rest) ⟨hx, hb, hml, hown, hts⟩ (hM H.size) ⟨va_cnB na hts g1 rfl rfl rfl (hjn.1 _ g0) (hts _ g6) ⟨g2, g3, g4⟩ hR, hts _ g5, trivial⟩ ⟨jP_blind, fun U hU hW => ⟨rfl, by rw [hU], by rw [hU]; exact hP.sub is (by rw [show (fun i => ws[i]?) = (fun i => ws[i]?) from rfl]; exact j_fm hC), va_K.moved hW.alike hK0, (hD.sub is hn hC).weaken (fun _ _ _ _ => trivial), jN_warm hW hjn⟩⟩ rfl hAs hl.1 rfl (lv_room hcat) hd ⟨hkn.1, hkn.2⟩) hD hS hl hA is hC (fun w1 => jrep ws is w1) (fun v w1 H1 h1 h2 _ h3 _ => j_repl hP hD hC hn (hw v w1 h1) h2 h3) kk
theorem j_callVi (C : jK l R D ca nL X cc y0 ret0) {r : Int32} {w1 : va_W} (G : jGV y0.cls idx y cb maxL ret na) (hM : jM l D ca y cb maxL ret fr loc 0 0 (.ref b :: As) w0 (jD (some (.int r)) w1)) (q0 : Nat) {ci : Nat} {fs : List Value} (hq : ws[q0]? = some (b, .inr (ci, fs))) (hcl : ∀ r, vwCl[ci]? = some r → r.1 = y.cls) (hR : fr + 1 ≤ R.frames ∧ 8 + (maxL + 11) + loc ≤ R.locals) (hkn : k ≤ R.cells ∧ n ≤ R.slots) (is : List Nat) (hC : is.map (fun i => ws[i]?) = w0.map some) (hn : va_nd is = true) (hAs : As.length = na) (hst : st = As.reverse ++ .ref b :: rest) (hcat : (rest.map fun v => v.category).sum ≤ 8) (hd : decode cc pc = .ok (.invokevirtual idx, 3)) (hw : w1.map Prod.fst = w0.map Prod.fst) (kk : J l R D nL X k n (jrep ws is w1) lv (.int r :: rest) (pc + 3)) : J l R D nL X k n ws lv st pc := by
  refine j_callV C G hM q0 hq hcl hR hkn is hC hn hAs hst hcat hd (fun v2 w2 h => by rw [h.2, hw]) (fun v2 w2 h => ?_)
  obtain ⟨rfl, rfl⟩ := h
  skip
  exact kk
theorem j_callViR (C : jK l R D ca nL X cc y0 ret0) {r : Int32} (G : jGV y0.cls idx y cb maxL ret na) (hM : jM l D ca y cb maxL ret fr loc 0 0 (.ref b :: As) w0 (jD (some (.int r)) w0)) (q0 : Nat) {ci : Nat} {fs : List Value} (hq : ws[q0]? = some (b, .inr (ci, fs))) (hcl : ∀ r, vwCl[ci]? = some r → r.1 = y.cls) (hR : fr + 1 ≤ R.frames ∧ 8 + (maxL + 11) + loc ≤ R.locals) (hkn : k ≤ R.cells ∧ n ≤ R.slots) (is : List Nat) (hC : is.map (fun i => ws[i]?) = w0.map some) (hn : va_nd is = true) (hAs : As.length = na) (hst : st = As.reverse ++ .ref b :: rest) (hcat : (rest.map fun v => v.category).sum ≤ 8) (hd : decode cc pc = .ok (.invokevirtual idx, 3)) (kk : J l R D nL X k n ws lv (.int r :: rest) (pc + 3)) : J l R D nL X k n ws lv st pc := by
  refine j_callV C G hM q0 hq hcl hR hkn is hC hn hAs hst hcat hd (fun v2 w2 h => by rw [h.2]) (fun v2 w2 h => ?_)
  obtain ⟨rfl, rfl⟩ := h
  rw [jrep_self is ws _ hC]
  exact kk
theorem j_callVf (C : jK l R D ca nL X cc y0 ret0) {r : UInt32} {w1 : va_W} (G : jGV y0.cls idx y cb maxL ret na) (hM : jM l D ca y cb maxL ret fr loc 0 0 (.ref b :: As) w0 (jD (some (.float r)) w1)) (q0 : Nat) {ci : Nat} {fs : List Value} (hq : ws[q0]? = some (b, .inr (ci, fs))) (hcl : ∀ r, vwCl[ci]? = some r → r.1 = y.cls) (hR : fr + 1 ≤ R.frames ∧ 8 + (maxL + 11) + loc ≤ R.locals) (hkn : k ≤ R.cells ∧ n ≤ R.slots) (is : List Nat) (hC : is.map (fun i => ws[i]?) = w0.map some) (hn : va_nd is = true) (hAs : As.length = na) (hst : st = As.reverse ++ .ref b :: rest) (hcat : (rest.map fun v => v.category).sum ≤ 8) (hd : decode cc pc = .ok (.invokevirtual idx, 3)) (hw : w1.map Prod.fst = w0.map Prod.fst) (kk : J l R D nL X k n (jrep ws is w1) lv (.float r :: rest) (pc + 3)) : J l R D nL X k n ws lv st pc := by
  refine j_callV C G hM q0 hq hcl hR hkn is hC hn hAs hst hcat hd (fun v2 w2 h => by rw [h.2, hw]) (fun v2 w2 h => ?_)
  obtain ⟨rfl, rfl⟩ := h
  skip
  exact kk
theorem j_callVfR (C : jK l R D ca nL X cc y0 ret0) {r : UInt32} (G : jGV y0.cls idx y cb maxL ret na) (hM : jM l D ca y cb maxL ret fr loc 0 0 (.ref b :: As) w0 (jD (some (.float r)) w0)) (q0 : Nat) {ci : Nat} {fs : List Value} (hq : ws[q0]? = some (b, .inr (ci, fs))) (hcl : ∀ r, vwCl[ci]? = some r → r.1 = y.cls) (hR : fr + 1 ≤ R.frames ∧ 8 + (maxL + 11) + loc ≤ R.locals) (hkn : k ≤ R.cells ∧ n ≤ R.slots) (is : List Nat) (hC : is.map (fun i => ws[i]?) = w0.map some) (hn : va_nd is = true) (hAs : As.length = na) (hst : st = As.reverse ++ .ref b :: rest) (hcat : (rest.map fun v => v.category).sum ≤ 8) (hd : decode cc pc = .ok (.invokevirtual idx, 3)) (kk : J l R D nL X k n ws lv (.float r :: rest) (pc + 3)) : J l R D nL X k n ws lv st pc := by
  refine j_callV C G hM q0 hq hcl hR hkn is hC hn hAs hst hcat hd (fun v2 w2 h => by rw [h.2]) (fun v2 w2 h => ?_)
  obtain ⟨rfl, rfl⟩ := h
  rw [jrep_self is ws _ hC]
  exact kk
theorem j_callVv (C : jK l R D ca nL X cc y0 ret0)  {w1 : va_W} (G : jGV y0.cls idx y cb maxL ret na) (hM : jM l D ca y cb maxL ret fr loc 0 0 (.ref b :: As) w0 (jD none w1)) (q0 : Nat) {ci : Nat} {fs : List Value} (hq : ws[q0]? = some (b, .inr (ci, fs))) (hcl : ∀ r, vwCl[ci]? = some r → r.1 = y.cls) (hR : fr + 1 ≤ R.frames ∧ 8 + (maxL + 11) + loc ≤ R.locals) (hkn : k ≤ R.cells ∧ n ≤ R.slots) (is : List Nat) (hC : is.map (fun i => ws[i]?) = w0.map some) (hn : va_nd is = true) (hAs : As.length = na) (hst : st = As.reverse ++ .ref b :: rest) (hcat : (rest.map fun v => v.category).sum ≤ 8) (hd : decode cc pc = .ok (.invokevirtual idx, 3)) (hw : w1.map Prod.fst = w0.map Prod.fst) (kk : J l R D nL X k n (jrep ws is w1) lv (rest) (pc + 3)) : J l R D nL X k n ws lv st pc := by
  refine j_callV C G hM q0 hq hcl hR hkn is hC hn hAs hst hcat hd (fun v2 w2 h => by rw [h.2, hw]) (fun v2 w2 h => ?_)
  obtain ⟨rfl, rfl⟩ := h
  skip
  exact kk
theorem j_callVvR (C : jK l R D ca nL X cc y0 ret0)  (G : jGV y0.cls idx y cb maxL ret na) (hM : jM l D ca y cb maxL ret fr loc 0 0 (.ref b :: As) w0 (jD none w0)) (q0 : Nat) {ci : Nat} {fs : List Value} (hq : ws[q0]? = some (b, .inr (ci, fs))) (hcl : ∀ r, vwCl[ci]? = some r → r.1 = y.cls) (hR : fr + 1 ≤ R.frames ∧ 8 + (maxL + 11) + loc ≤ R.locals) (hkn : k ≤ R.cells ∧ n ≤ R.slots) (is : List Nat) (hC : is.map (fun i => ws[i]?) = w0.map some) (hn : va_nd is = true) (hAs : As.length = na) (hst : st = As.reverse ++ .ref b :: rest) (hcat : (rest.map fun v => v.category).sum ≤ 8) (hd : decode cc pc = .ok (.invokevirtual idx, 3)) (kk : J l R D nL X k n ws lv (rest) (pc + 3)) : J l R D nL X k n ws lv st pc := by
  refine j_callV C G hM q0 hq hcl hR hkn is hC hn hAs hst hcat hd (fun v2 w2 h => by rw [h.2]) (fun v2 w2 h => ?_)
  obtain ⟨rfl, rfl⟩ := h
  rw [jrep_self is ws _ hC]
  exact kk
theorem j_callVa (C : jK l R D ca nL X cc y0 ret0) {r : Value} {w1 : va_W} (G : jGV y0.cls idx y cb maxL ret na) (hM : jM l D ca y cb maxL ret fr loc 0 0 (.ref b :: As) w0 (jD (some r) w1)) (q0 : Nat) {ci : Nat} {fs : List Value} (hq : ws[q0]? = some (b, .inr (ci, fs))) (hcl : ∀ r, vwCl[ci]? = some r → r.1 = y.cls) (hR : fr + 1 ≤ R.frames ∧ 8 + (maxL + 11) + loc ≤ R.locals) (hkn : k ≤ R.cells ∧ n ≤ R.slots) (is : List Nat) (hC : is.map (fun i => ws[i]?) = w0.map some) (hn : va_nd is = true) (hAs : As.length = na) (hst : st = As.reverse ++ .ref b :: rest) (hcat : (rest.map fun v => v.category).sum ≤ 8) (hd : decode cc pc = .ok (.invokevirtual idx, 3)) (hw : w1.map Prod.fst = w0.map Prod.fst) (kk : J l R D nL X k n (jrep ws is w1) lv (r :: rest) (pc + 3)) : J l R D nL X k n ws lv st pc := by
  refine j_callV C G hM q0 hq hcl hR hkn is hC hn hAs hst hcat hd (fun v2 w2 h => by rw [h.2, hw]) (fun v2 w2 h => ?_)
  obtain ⟨rfl, rfl⟩ := h
  skip
  exact kk
theorem j_callVaR (C : jK l R D ca nL X cc y0 ret0) {r : Value} (G : jGV y0.cls idx y cb maxL ret na) (hM : jM l D ca y cb maxL ret fr loc 0 0 (.ref b :: As) w0 (jD (some r) w0)) (q0 : Nat) {ci : Nat} {fs : List Value} (hq : ws[q0]? = some (b, .inr (ci, fs))) (hcl : ∀ r, vwCl[ci]? = some r → r.1 = y.cls) (hR : fr + 1 ≤ R.frames ∧ 8 + (maxL + 11) + loc ≤ R.locals) (hkn : k ≤ R.cells ∧ n ≤ R.slots) (is : List Nat) (hC : is.map (fun i => ws[i]?) = w0.map some) (hn : va_nd is = true) (hAs : As.length = na) (hst : st = As.reverse ++ .ref b :: rest) (hcat : (rest.map fun v => v.category).sum ≤ 8) (hd : decode cc pc = .ok (.invokevirtual idx, 3)) (kk : J l R D nL X k n ws lv (r :: rest) (pc + 3)) : J l R D nL X k n ws lv st pc := by
  refine j_callV C G hM q0 hq hcl hR hkn is hC hn hAs hst hcat hd (fun v2 w2 h => by rw [h.2]) (fun v2 w2 h => ?_)
  obtain ⟨rfl, rfl⟩ := h
  rw [jrep_self is ws _ hC]
  exact kk
theorem j_callSi (C : jK l R D ca nL X cc y0 ret0) {r : Int32} {w1 : va_W} (G : jGS y0.cls idx y cb maxL ret na) (hM : jM l D ca y cb maxL ret fr loc 0 0 As w0 (jD (some (.int r)) w1)) (hR : fr + 1 ≤ R.frames ∧ 8 + (maxL + 11) + loc ≤ R.locals) (hkn : k ≤ R.cells ∧ n ≤ R.slots) (is : List Nat) (hC : is.map (fun i => ws[i]?) = w0.map some) (hn : va_nd is = true) (hAs : As.length = na) (hst : st = As.reverse ++ rest) (hcat : (rest.map fun v => v.category).sum ≤ 8) (hd : decode cc pc = .ok (.invokestatic idx, 3)) (hw : w1.map Prod.fst = w0.map Prod.fst) (kk : J l R D nL X k n (jrep ws is w1) lv (.int r :: rest) (pc + 3)) : J l R D nL X k n ws lv st pc := by
  refine j_callS C G hM hR hkn is hC hn hAs hst hcat hd (fun v2 w2 h => by rw [h.2, hw]) (fun v2 w2 h => ?_)
  obtain ⟨rfl, rfl⟩ := h
  skip
  exact kk
theorem j_callSiR (C : jK l R D ca nL X cc y0 ret0) {r : Int32} (G : jGS y0.cls idx y cb maxL ret na) (hM : jM l D ca y cb maxL ret fr loc 0 0 As w0 (jD (some (.int r)) w0)) (hR : fr + 1 ≤ R.frames ∧ 8 + (maxL + 11) + loc ≤ R.locals) (hkn : k ≤ R.cells ∧ n ≤ R.slots) (is : List Nat) (hC : is.map (fun i => ws[i]?) = w0.map some) (hn : va_nd is = true) (hAs : As.length = na) (hst : st = As.reverse ++ rest) (hcat : (rest.map fun v => v.category).sum ≤ 8) (hd : decode cc pc = .ok (.invokestatic idx, 3)) (kk : J l R D nL X k n ws lv (.int r :: rest) (pc + 3)) : J l R D nL X k n ws lv st pc := by
  refine j_callS C G hM hR hkn is hC hn hAs hst hcat hd (fun v2 w2 h => by rw [h.2]) (fun v2 w2 h => ?_)
  obtain ⟨rfl, rfl⟩ := h
  rw [jrep_self is ws _ hC]
  exact kk
theorem j_callSf (C : jK l R D ca nL X cc y0 ret0) {r : UInt32} {w1 : va_W} (G : jGS y0.cls idx y cb maxL ret na) (hM : jM l D ca y cb maxL ret fr loc 0 0 As w0 (jD (some (.float r)) w1)) (hR : fr + 1 ≤ R.frames ∧ 8 + (maxL + 11) + loc ≤ R.locals) (hkn : k ≤ R.cells ∧ n ≤ R.slots) (is : List Nat) (hC : is.map (fun i => ws[i]?) = w0.map some) (hn : va_nd is = true) (hAs : As.length = na) (hst : st = As.reverse ++ rest) (hcat : (rest.map fun v => v.category).sum ≤ 8) (hd : decode cc pc = .ok (.invokestatic idx, 3)) (hw : w1.map Prod.fst = w0.map Prod.fst) (kk : J l R D nL X k n (jrep ws is w1) lv (.float r :: rest) (pc + 3)) : J l R D nL X k n ws lv st pc := by
  refine j_callS C G hM hR hkn is hC hn hAs hst hcat hd (fun v2 w2 h => by rw [h.2, hw]) (fun v2 w2 h => ?_)
  obtain ⟨rfl, rfl⟩ := h
  skip
  exact kk
theorem j_callSfR (C : jK l R D ca nL X cc y0 ret0) {r : UInt32} (G : jGS y0.cls idx y cb maxL ret na) (hM : jM l D ca y cb maxL ret fr loc 0 0 As w0 (jD (some (.float r)) w0)) (hR : fr + 1 ≤ R.frames ∧ 8 + (maxL + 11) + loc ≤ R.locals) (hkn : k ≤ R.cells ∧ n ≤ R.slots) (is : List Nat) (hC : is.map (fun i => ws[i]?) = w0.map some) (hn : va_nd is = true) (hAs : As.length = na) (hst : st = As.reverse ++ rest) (hcat : (rest.map fun v => v.category).sum ≤ 8) (hd : decode cc pc = .ok (.invokestatic idx, 3)) (kk : J l R D nL X k n ws lv (.float r :: rest) (pc + 3)) : J l R D nL X k n ws lv st pc := by
  refine j_callS C G hM hR hkn is hC hn hAs hst hcat hd (fun v2 w2 h => by rw [h.2]) (fun v2 w2 h => ?_)
  obtain ⟨rfl, rfl⟩ := h
  rw [jrep_self is ws _ hC]
  exact kk
theorem j_callSv (C : jK l R D ca nL X cc y0 ret0)  {w1 : va_W} (G : jGS y0.cls idx y cb maxL ret na) (hM : jM l D ca y cb maxL ret fr loc 0 0 As w0 (jD none w1)) (hR : fr + 1 ≤ R.frames ∧ 8 + (maxL + 11) + loc ≤ R.locals) (hkn : k ≤ R.cells ∧ n ≤ R.slots) (is : List Nat) (hC : is.map (fun i => ws[i]?) = w0.map some) (hn : va_nd is = true) (hAs : As.length = na) (hst : st = As.reverse ++ rest) (hcat : (rest.map fun v => v.category).sum ≤ 8) (hd : decode cc pc = .ok (.invokestatic idx, 3)) (hw : w1.map Prod.fst = w0.map Prod.fst) (kk : J l R D nL X k n (jrep ws is w1) lv (rest) (pc + 3)) : J l R D nL X k n ws lv st pc := by
  refine j_callS C G hM hR hkn is hC hn hAs hst hcat hd (fun v2 w2 h => by rw [h.2, hw]) (fun v2 w2 h => ?_)
  obtain ⟨rfl, rfl⟩ := h
  skip
  exact kk
theorem j_callSvR (C : jK l R D ca nL X cc y0 ret0)  (G : jGS y0.cls idx y cb maxL ret na) (hM : jM l D ca y cb maxL ret fr loc 0 0 As w0 (jD none w0)) (hR : fr + 1 ≤ R.frames ∧ 8 + (maxL + 11) + loc ≤ R.locals) (hkn : k ≤ R.cells ∧ n ≤ R.slots) (is : List Nat) (hC : is.map (fun i => ws[i]?) = w0.map some) (hn : va_nd is = true) (hAs : As.length = na) (hst : st = As.reverse ++ rest) (hcat : (rest.map fun v => v.category).sum ≤ 8) (hd : decode cc pc = .ok (.invokestatic idx, 3)) (kk : J l R D nL X k n ws lv (rest) (pc + 3)) : J l R D nL X k n ws lv st pc := by
  refine j_callS C G hM hR hkn is hC hn hAs hst hcat hd (fun v2 w2 h => by rw [h.2]) (fun v2 w2 h => ?_)
  obtain ⟨rfl, rfl⟩ := h
  rw [jrep_self is ws _ hC]
  exact kk
theorem j_callSNi (C : jK l R D ca nL X cc y0 ret0) {r : Int32} {w1 : va_W} {host : String} (G : jGSN y0.cls idx y host cb maxL ret na) (hM : jM l D ca y cb maxL ret fr loc 0 0 As w0 (jD (some (.int r)) w1)) (hR : fr + 1 ≤ R.frames ∧ 8 + (maxL + 11) + loc ≤ R.locals) (hkn : k ≤ R.cells ∧ n ≤ R.slots) (is : List Nat) (hC : is.map (fun i => ws[i]?) = w0.map some) (hn : va_nd is = true) (hAs : As.length = na) (hst : st = As.reverse ++ rest) (hcat : (rest.map fun v => v.category).sum ≤ 8) (hd : decode cc pc = .ok (.invokestatic idx, 3)) (hw : w1.map Prod.fst = w0.map Prod.fst) (kk : J l R D nL X k n (jrep ws is w1) lv (.int r :: rest) (pc + 3)) : J l R D nL X k n ws lv st pc := by
  refine j_callSN C G hM hR hkn is hC hn hAs hst hcat hd (fun v2 w2 h => by rw [h.2, hw]) (fun v2 w2 h => ?_)
  obtain ⟨rfl, rfl⟩ := h
  skip
  exact kk
theorem j_callSNiR (C : jK l R D ca nL X cc y0 ret0) {r : Int32} {host : String} (G : jGSN y0.cls idx y host cb maxL ret na) (hM : jM l D ca y cb maxL ret fr loc 0 0 As w0 (jD (some (.int r)) w0)) (hR : fr + 1 ≤ R.frames ∧ 8 + (maxL + 11) + loc ≤ R.locals) (hkn : k ≤ R.cells ∧ n ≤ R.slots) (is : List Nat) (hC : is.map (fun i => ws[i]?) = w0.map some) (hn : va_nd is = true) (hAs : As.length = na) (hst : st = As.reverse ++ rest) (hcat : (rest.map fun v => v.category).sum ≤ 8) (hd : decode cc pc = .ok (.invokestatic idx, 3)) (kk : J l R D nL X k n ws lv (.int r :: rest) (pc + 3)) : J l R D nL X k n ws lv st pc := by
  refine j_callSN C G hM hR hkn is hC hn hAs hst hcat hd (fun v2 w2 h => by rw [h.2]) (fun v2 w2 h => ?_)
  obtain ⟨rfl, rfl⟩ := h
  rw [jrep_self is ws _ hC]
  exact kk
theorem j_callSNf (C : jK l R D ca nL X cc y0 ret0) {r : UInt32} {w1 : va_W} {host : String} (G : jGSN y0.cls idx y host cb maxL ret na) (hM : jM l D ca y cb maxL ret fr loc 0 0 As w0 (jD (some (.float r)) w1)) (hR : fr + 1 ≤ R.frames ∧ 8 + (maxL + 11) + loc ≤ R.locals) (hkn : k ≤ R.cells ∧ n ≤ R.slots) (is : List Nat) (hC : is.map (fun i => ws[i]?) = w0.map some) (hn : va_nd is = true) (hAs : As.length = na) (hst : st = As.reverse ++ rest) (hcat : (rest.map fun v => v.category).sum ≤ 8) (hd : decode cc pc = .ok (.invokestatic idx, 3)) (hw : w1.map Prod.fst = w0.map Prod.fst) (kk : J l R D nL X k n (jrep ws is w1) lv (.float r :: rest) (pc + 3)) : J l R D nL X k n ws lv st pc := by
  refine j_callSN C G hM hR hkn is hC hn hAs hst hcat hd (fun v2 w2 h => by rw [h.2, hw]) (fun v2 w2 h => ?_)
  obtain ⟨rfl, rfl⟩ := h
  skip
  exact kk
theorem j_callSNfR (C : jK l R D ca nL X cc y0 ret0) {r : UInt32} {host : String} (G : jGSN y0.cls idx y host cb maxL ret na) (hM : jM l D ca y cb maxL ret fr loc 0 0 As w0 (jD (some (.float r)) w0)) (hR : fr + 1 ≤ R.frames ∧ 8 + (maxL + 11) + loc ≤ R.locals) (hkn : k ≤ R.cells ∧ n ≤ R.slots) (is : List Nat) (hC : is.map (fun i => ws[i]?) = w0.map some) (hn : va_nd is = true) (hAs : As.length = na) (hst : st = As.reverse ++ rest) (hcat : (rest.map fun v => v.category).sum ≤ 8) (hd : decode cc pc = .ok (.invokestatic idx, 3)) (kk : J l R D nL X k n ws lv (.float r :: rest) (pc + 3)) : J l R D nL X k n ws lv st pc := by
  refine j_callSN C G hM hR hkn is hC hn hAs hst hcat hd (fun v2 w2 h => by rw [h.2]) (fun v2 w2 h => ?_)
  obtain ⟨rfl, rfl⟩ := h
  rw [jrep_self is ws _ hC]
  exact kk
theorem j_callSNv (C : jK l R D ca nL X cc y0 ret0)  {w1 : va_W} {host : String} (G : jGSN y0.cls idx y host cb maxL ret na) (hM : jM l D ca y cb maxL ret fr loc 0 0 As w0 (jD none w1)) (hR : fr + 1 ≤ R.frames ∧ 8 + (maxL + 11) + loc ≤ R.locals) (hkn : k ≤ R.cells ∧ n ≤ R.slots) (is : List Nat) (hC : is.map (fun i => ws[i]?) = w0.map some) (hn : va_nd is = true) (hAs : As.length = na) (hst : st = As.reverse ++ rest) (hcat : (rest.map fun v => v.category).sum ≤ 8) (hd : decode cc pc = .ok (.invokestatic idx, 3)) (hw : w1.map Prod.fst = w0.map Prod.fst) (kk : J l R D nL X k n (jrep ws is w1) lv (rest) (pc + 3)) : J l R D nL X k n ws lv st pc := by
  refine j_callSN C G hM hR hkn is hC hn hAs hst hcat hd (fun v2 w2 h => by rw [h.2, hw]) (fun v2 w2 h => ?_)
  obtain ⟨rfl, rfl⟩ := h
  skip
  exact kk
theorem j_callSNvR (C : jK l R D ca nL X cc y0 ret0)  {host : String} (G : jGSN y0.cls idx y host cb maxL ret na) (hM : jM l D ca y cb maxL ret fr loc 0 0 As w0 (jD none w0)) (hR : fr + 1 ≤ R.frames ∧ 8 + (maxL + 11) + loc ≤ R.locals) (hkn : k ≤ R.cells ∧ n ≤ R.slots) (is : List Nat) (hC : is.map (fun i => ws[i]?) = w0.map some) (hn : va_nd is = true) (hAs : As.length = na) (hst : st = As.reverse ++ rest) (hcat : (rest.map fun v => v.category).sum ≤ 8) (hd : decode cc pc = .ok (.invokestatic idx, 3)) (kk : J l R D nL X k n ws lv (rest) (pc + 3)) : J l R D nL X k n ws lv st pc := by
  refine j_callSN C G hM hR hkn is hC hn hAs hst hcat hd (fun v2 w2 h => by rw [h.2]) (fun v2 w2 h => ?_)
  obtain ⟨rfl, rfl⟩ := h
  rw [jrep_self is ws _ hC]
  exact kk
end JC
section JE
variable {l : Launch} {R : Room} {D : va_G} {nL : Nat} {X : jX} {cc : ByteArray} {k n pc : Nat} {ws : va_W} {lv : jLv} {ret : Option FieldType} {post : Option Value → va_W → Prop}
theorem j_iret (E : jE l R D nL X cc k n (some .int) post) {x : Int32} (hd : decode cc pc = .ok (.ireturn, 1)) (hp : post (some (.int x)) ws) : J l R D nL X k n ws lv [.int x] pc := E ws lv pc _ hp (Or.inl ⟨x, .int, rfl, rfl, rfl, hd⟩)
theorem j_zret (E : jE l R D nL X cc k n (some .boolean) post) {x : Int32} (hn : narrow .boolean (.int x) = .int x) (hd : decode cc pc = .ok (.ireturn, 1)) (hp : post (some (.int x)) ws) : J l R D nL X k n ws lv [.int x] pc := E ws lv pc _ hp (Or.inl ⟨x, .boolean, rfl, rfl, hn, hd⟩)
theorem j_fret (E : jE l R D nL X cc k n (some .float) post) {x : UInt32} (hd : decode cc pc = .ok (.freturn, 1)) (hp : post (some (.float x)) ws) : J l R D nL X k n ws lv [.float x] pc := E ws lv pc _ hp (Or.inr (Or.inl ⟨x, rfl, rfl, hd⟩))
theorem j_vret (E : jE l R D nL X cc k n none post) (hd : decode cc pc = .ok (.return_, 1)) (hp : post none ws) : J l R D nL X k n ws lv [] pc := E ws lv pc _ hp (Or.inr (Or.inr (Or.inl ⟨rfl, rfl, hd⟩)))
theorem j_aret (E : jE l R D nL X cc k n ret post) {C : String} (hr : ret = some (.object C)) {w : Value} (hw : w = .null ∨ ∃ a, w = .ref a) (hd : decode cc pc = .ok (.areturn, 1)) (hp : post (some w) ws) : J l R D nL X k n ws lv [w] pc := E ws lv pc _ hp (Or.inr (Or.inr (Or.inr ⟨w, C, rfl, hr, hw, hd⟩)))
end JE
end
section
theorem lay_X0 : ∀ w ∈ u_ws RX0 TX0 11, w ∈ jAll := List.forall_mem_cons.mpr ⟨q_143, List.forall_mem_cons.mpr ⟨q_145, List.forall_mem_cons.mpr ⟨q_147, List.forall_mem_cons.mpr ⟨q_149, List.forall_mem_cons.mpr ⟨q_151, List.forall_mem_cons.mpr ⟨q_153, List.forall_mem_cons.mpr ⟨q_155, List.forall_mem_cons.mpr ⟨q_157, List.forall_mem_cons.mpr ⟨q_159, List.forall_mem_cons.mpr ⟨q_161, List.forall_mem_cons.mpr ⟨q_163, fun _ h => absurd h List.not_mem_nil⟩⟩⟩⟩⟩⟩⟩⟩⟩⟩⟩
theorem lay_X1 : ∀ w ∈ u_ws RX1 TX1 3, w ∈ jAll := List.forall_mem_cons.mpr ⟨q_65, List.forall_mem_cons.mpr ⟨q_67, List.forall_mem_cons.mpr ⟨q_69, fun _ h => absurd h List.not_mem_nil⟩⟩⟩
theorem lay_X2 : ∀ w ∈ u_ws RX2 TX2 3, w ∈ jAll := List.forall_mem_cons.mpr ⟨q_180, List.forall_mem_cons.mpr ⟨q_182, List.forall_mem_cons.mpr ⟨q_184, fun _ h => absurd h List.not_mem_nil⟩⟩⟩
theorem lay_X3 : ∀ w ∈ u_ws RX3 TX3 8, w ∈ jAll := List.forall_mem_cons.mpr ⟨q_101, List.forall_mem_cons.mpr ⟨q_103, List.forall_mem_cons.mpr ⟨q_105, List.forall_mem_cons.mpr ⟨q_107, List.forall_mem_cons.mpr ⟨q_109, List.forall_mem_cons.mpr ⟨q_111, List.forall_mem_cons.mpr ⟨q_113, List.forall_mem_cons.mpr ⟨q_115, fun _ h => absurd h List.not_mem_nil⟩⟩⟩⟩⟩⟩⟩⟩
theorem lay_X4 : ∀ w ∈ u_ws RX4 TX4 5, w ∈ jAll := List.forall_mem_cons.mpr ⟨q_41, List.forall_mem_cons.mpr ⟨q_43, List.forall_mem_cons.mpr ⟨q_45, List.forall_mem_cons.mpr ⟨q_47, List.forall_mem_cons.mpr ⟨q_49, fun _ h => absurd h List.not_mem_nil⟩⟩⟩⟩⟩
theorem lay_X5 : ∀ w ∈ u_ws RX5 TX5 3, w ∈ jAll := List.forall_mem_cons.mpr ⟨q_222, List.forall_mem_cons.mpr ⟨q_224, List.forall_mem_cons.mpr ⟨q_226, fun _ h => absurd h List.not_mem_nil⟩⟩⟩
theorem lay_X6 : ∀ w ∈ u_ws RX6 TX6 5, w ∈ jAll := List.forall_mem_cons.mpr ⟨q_200, List.forall_mem_cons.mpr ⟨q_202, List.forall_mem_cons.mpr ⟨q_204, List.forall_mem_cons.mpr ⟨q_206, List.forall_mem_cons.mpr ⟨q_208, fun _ h => absurd h List.not_mem_nil⟩⟩⟩⟩⟩
theorem lay_X7 : ∀ w ∈ u_ws RX7 TX7 9, w ∈ jAll := List.forall_mem_cons.mpr ⟨q_238, List.forall_mem_cons.mpr ⟨q_240, List.forall_mem_cons.mpr ⟨q_242, List.forall_mem_cons.mpr ⟨q_244, List.forall_mem_cons.mpr ⟨q_246, List.forall_mem_cons.mpr ⟨q_248, List.forall_mem_cons.mpr ⟨q_250, List.forall_mem_cons.mpr ⟨q_252, List.forall_mem_cons.mpr ⟨q_254, fun _ h => absurd h List.not_mem_nil⟩⟩⟩⟩⟩⟩⟩⟩⟩
theorem lay_X8 : ∀ w ∈ u_ws RX8 TX8 15, w ∈ jAll := List.forall_mem_cons.mpr ⟨q_640, List.forall_mem_cons.mpr ⟨q_642, List.forall_mem_cons.mpr ⟨q_644, List.forall_mem_cons.mpr ⟨q_646, List.forall_mem_cons.mpr ⟨q_648, List.forall_mem_cons.mpr ⟨q_650, List.forall_mem_cons.mpr ⟨q_652, List.forall_mem_cons.mpr ⟨q_654, List.forall_mem_cons.mpr ⟨q_656, List.forall_mem_cons.mpr ⟨q_658, List.forall_mem_cons.mpr ⟨q_660, List.forall_mem_cons.mpr ⟨q_662, List.forall_mem_cons.mpr ⟨q_664, List.forall_mem_cons.mpr ⟨q_666, List.forall_mem_cons.mpr ⟨q_668, fun _ h => absurd h List.not_mem_nil⟩⟩⟩⟩⟩⟩⟩⟩⟩⟩⟩⟩⟩⟩⟩
theorem f_X4_9 : jFw RX4 9 4 0 true (.array .int) := ⟨(RX4, TX4, 5), rfl, by decide, lay_X4, q_30, rfl, rfl, by decide +kernel, ⟨tyX4, tyX4_ok⟩, nmX4⟩
theorem f_X0_143 : jFw RX0 143 4 0 true (.array .int) := ⟨(RX4, TX4, 5), rfl, by decide, lay_X4, q_31, rfl, rfl, by decide +kernel, ⟨tyX4, tyX4_ok⟩, nmX4⟩
theorem f_X7_178 : jFw RX7 178 4 0 true (.array .int) := ⟨(RX4, TX4, 5), rfl, by decide, lay_X4, q_32, rfl, rfl, by decide +kernel, ⟨tyX4, tyX4_ok⟩, nmX4⟩
theorem f_X4_15 : jFw RX4 15 4 1 true (.array .int) := ⟨(RX4, TX4, 5), rfl, by decide, lay_X4, q_33, rfl, rfl, by decide +kernel, ⟨tyX4, tyX4_ok⟩, nmX4⟩
theorem f_X7_93 : jFw RX7 93 4 1 true (.array .int) := ⟨(RX4, TX4, 5), rfl, by decide, lay_X4, q_34, rfl, rfl, by decide +kernel, ⟨tyX4, tyX4_ok⟩, nmX4⟩
theorem f_X4_18 : jFw RX4 18 4 2 true (.array .int) := ⟨(RX4, TX4, 5), rfl, by decide, lay_X4, q_35, rfl, rfl, by decide +kernel, ⟨tyX4, tyX4_ok⟩, nmX4⟩
theorem f_X7_181 : jFw RX7 181 4 2 true (.array .int) := ⟨(RX4, TX4, 5), rfl, by decide, lay_X4, q_36, rfl, rfl, by decide +kernel, ⟨tyX4, tyX4_ok⟩, nmX4⟩
theorem f_X4_21 : jFw RX4 21 4 3 true (.array .int) := ⟨(RX4, TX4, 5), rfl, by decide, lay_X4, q_37, rfl, rfl, by decide +kernel, ⟨tyX4, tyX4_ok⟩, nmX4⟩
theorem f_X7_191 : jFw RX7 191 4 3 true (.array .int) := ⟨(RX4, TX4, 5), rfl, by decide, lay_X4, q_38, rfl, rfl, by decide +kernel, ⟨tyX4, tyX4_ok⟩, nmX4⟩
theorem f_X4_24 : jFw RX4 24 4 4 false .int := ⟨(RX4, TX4, 5), rfl, by decide, lay_X4, q_39, rfl, rfl, by decide +kernel, ⟨tyX4, tyX4_ok⟩, nmX4⟩
theorem f_X7_79 : jFw RX7 79 4 4 false .int := ⟨(RX4, TX4, 5), rfl, by decide, lay_X4, q_40, rfl, rfl, by decide +kernel, ⟨tyX4, tyX4_ok⟩, nmX4⟩
theorem f_X1_9 : jFw RX1 9 1 0 true (.array .int) := ⟨(RX1, TX1, 3), rfl, by decide, lay_X1, q_59, rfl, rfl, by decide +kernel, ⟨tyX1, tyX1_ok⟩, nmX1⟩
theorem f_X7_194 : jFw RX7 194 1 0 true (.array .int) := ⟨(RX1, TX1, 3), rfl, by decide, lay_X1, q_60, rfl, rfl, by decide +kernel, ⟨tyX1, tyX1_ok⟩, nmX1⟩
theorem f_X1_15 : jFw RX1 15 1 1 true (.array .int) := ⟨(RX1, TX1, 3), rfl, by decide, lay_X1, q_61, rfl, rfl, by decide +kernel, ⟨tyX1, tyX1_ok⟩, nmX1⟩
theorem f_X7_197 : jFw RX7 197 1 1 true (.array .int) := ⟨(RX1, TX1, 3), rfl, by decide, lay_X1, q_62, rfl, rfl, by decide +kernel, ⟨tyX1, tyX1_ok⟩, nmX1⟩
theorem f_X1_18 : jFw RX1 18 1 2 true (.array .int) := ⟨(RX1, TX1, 3), rfl, by decide, lay_X1, q_63, rfl, rfl, by decide +kernel, ⟨tyX1, tyX1_ok⟩, nmX1⟩
theorem f_X7_200 : jFw RX7 200 1 2 true (.array .int) := ⟨(RX1, TX1, 3), rfl, by decide, lay_X1, q_64, rfl, rfl, by decide +kernel, ⟨tyX1, tyX1_ok⟩, nmX1⟩
theorem f_X3_9 : jFw RX3 9 3 0 true (.array .int) := ⟨(RX3, TX3, 8), rfl, by decide, lay_X3, q_78, rfl, rfl, by decide +kernel, ⟨tyX3, tyX3_ok⟩, nmX3⟩
theorem f_X0_107 : jFw RX0 107 3 0 true (.array .int) := ⟨(RX3, TX3, 8), rfl, by decide, lay_X3, q_79, rfl, rfl, by decide +kernel, ⟨tyX3, tyX3_ok⟩, nmX3⟩
theorem f_X7_212 : jFw RX7 212 3 0 true (.array .int) := ⟨(RX3, TX3, 8), rfl, by decide, lay_X3, q_80, rfl, rfl, by decide +kernel, ⟨tyX3, tyX3_ok⟩, nmX3⟩
theorem f_X3_15 : jFw RX3 15 3 1 true (.array .int) := ⟨(RX3, TX3, 8), rfl, by decide, lay_X3, q_81, rfl, rfl, by decide +kernel, ⟨tyX3, tyX3_ok⟩, nmX3⟩
theorem f_X0_72 : jFw RX0 72 3 1 true (.array .int) := ⟨(RX3, TX3, 8), rfl, by decide, lay_X3, q_82, rfl, rfl, by decide +kernel, ⟨tyX3, tyX3_ok⟩, nmX3⟩
theorem f_X7_215 : jFw RX7 215 3 1 true (.array .int) := ⟨(RX3, TX3, 8), rfl, by decide, lay_X3, q_83, rfl, rfl, by decide +kernel, ⟨tyX3, tyX3_ok⟩, nmX3⟩
theorem f_X3_18 : jFw RX3 18 3 2 true (.array .int) := ⟨(RX3, TX3, 8), rfl, by decide, lay_X3, q_84, rfl, rfl, by decide +kernel, ⟨tyX3, tyX3_ok⟩, nmX3⟩
theorem f_X0_79 : jFw RX0 79 3 2 true (.array .int) := ⟨(RX3, TX3, 8), rfl, by decide, lay_X3, q_85, rfl, rfl, by decide +kernel, ⟨tyX3, tyX3_ok⟩, nmX3⟩
theorem f_X7_218 : jFw RX7 218 3 2 true (.array .int) := ⟨(RX3, TX3, 8), rfl, by decide, lay_X3, q_86, rfl, rfl, by decide +kernel, ⟨tyX3, tyX3_ok⟩, nmX3⟩
theorem f_X3_21 : jFw RX3 21 3 3 true (.array .int) := ⟨(RX3, TX3, 8), rfl, by decide, lay_X3, q_87, rfl, rfl, by decide +kernel, ⟨tyX3, tyX3_ok⟩, nmX3⟩
theorem f_X0_57 : jFw RX0 57 3 3 true (.array .int) := ⟨(RX3, TX3, 8), rfl, by decide, lay_X3, q_88, rfl, rfl, by decide +kernel, ⟨tyX3, tyX3_ok⟩, nmX3⟩
theorem f_X7_221 : jFw RX7 221 3 3 true (.array .int) := ⟨(RX3, TX3, 8), rfl, by decide, lay_X3, q_89, rfl, rfl, by decide +kernel, ⟨tyX3, tyX3_ok⟩, nmX3⟩
theorem f_X3_24 : jFw RX3 24 3 4 true (.array .int) := ⟨(RX3, TX3, 8), rfl, by decide, lay_X3, q_90, rfl, rfl, by decide +kernel, ⟨tyX3, tyX3_ok⟩, nmX3⟩
theorem f_X0_89 : jFw RX0 89 3 4 true (.array .int) := ⟨(RX3, TX3, 8), rfl, by decide, lay_X3, q_91, rfl, rfl, by decide +kernel, ⟨tyX3, tyX3_ok⟩, nmX3⟩
theorem f_X7_224 : jFw RX7 224 3 4 true (.array .int) := ⟨(RX3, TX3, 8), rfl, by decide, lay_X3, q_92, rfl, rfl, by decide +kernel, ⟨tyX3, tyX3_ok⟩, nmX3⟩
theorem f_X3_27 : jFw RX3 27 3 5 true (.array .int) := ⟨(RX3, TX3, 8), rfl, by decide, lay_X3, q_93, rfl, rfl, by decide +kernel, ⟨tyX3, tyX3_ok⟩, nmX3⟩
theorem f_X0_92 : jFw RX0 92 3 5 true (.array .int) := ⟨(RX3, TX3, 8), rfl, by decide, lay_X3, q_94, rfl, rfl, by decide +kernel, ⟨tyX3, tyX3_ok⟩, nmX3⟩
theorem f_X7_227 : jFw RX7 227 3 5 true (.array .int) := ⟨(RX3, TX3, 8), rfl, by decide, lay_X3, q_95, rfl, rfl, by decide +kernel, ⟨tyX3, tyX3_ok⟩, nmX3⟩
theorem f_X3_30 : jFw RX3 30 3 6 true (.array .int) := ⟨(RX3, TX3, 8), rfl, by decide, lay_X3, q_96, rfl, rfl, by decide +kernel, ⟨tyX3, tyX3_ok⟩, nmX3⟩
theorem f_X0_104 : jFw RX0 104 3 6 true (.array .int) := ⟨(RX3, TX3, 8), rfl, by decide, lay_X3, q_97, rfl, rfl, by decide +kernel, ⟨tyX3, tyX3_ok⟩, nmX3⟩
theorem f_X7_230 : jFw RX7 230 3 6 true (.array .int) := ⟨(RX3, TX3, 8), rfl, by decide, lay_X3, q_98, rfl, rfl, by decide +kernel, ⟨tyX3, tyX3_ok⟩, nmX3⟩
theorem f_X3_33 : jFw RX3 33 3 7 false .int := ⟨(RX3, TX3, 8), rfl, by decide, lay_X3, q_99, rfl, rfl, by decide +kernel, ⟨tyX3, tyX3_ok⟩, nmX3⟩
theorem f_X7_111 : jFw RX7 111 3 7 false .int := ⟨(RX3, TX3, 8), rfl, by decide, lay_X3, q_100, rfl, rfl, by decide +kernel, ⟨tyX3, tyX3_ok⟩, nmX3⟩
theorem f_X0_12 : jFw RX0 12 0 0 true (.object "GuildFund$Members") := ⟨(RX0, TX0, 11), rfl, by decide, lay_X0, q_121, rfl, rfl, by decide +kernel, ⟨tyX0, tyX0_ok⟩, nmX0⟩
theorem f_X7_75 : jFw RX7 75 0 0 true (.object "GuildFund$Members") := ⟨(RX0, TX0, 11), rfl, by decide, lay_X0, q_122, rfl, rfl, by decide +kernel, ⟨tyX0, tyX0_ok⟩, nmX0⟩
theorem f_X0_21 : jFw RX0 21 0 1 true (.object "GuildFund$Clients") := ⟨(RX0, TX0, 11), rfl, by decide, lay_X0, q_123, rfl, rfl, by decide +kernel, ⟨tyX0, tyX0_ok⟩, nmX0⟩
theorem f_X7_100 : jFw RX7 100 0 1 true (.object "GuildFund$Clients") := ⟨(RX0, TX0, 11), rfl, by decide, lay_X0, q_124, rfl, rfl, by decide +kernel, ⟨tyX0, tyX0_ok⟩, nmX0⟩
theorem f_X0_28 : jFw RX0 28 0 2 true (.object "GuildFund$Invoices") := ⟨(RX0, TX0, 11), rfl, by decide, lay_X0, q_125, rfl, rfl, by decide +kernel, ⟨tyX0, tyX0_ok⟩, nmX0⟩
theorem f_X7_107 : jFw RX7 107 0 2 true (.object "GuildFund$Invoices") := ⟨(RX0, TX0, 11), rfl, by decide, lay_X0, q_126, rfl, rfl, by decide +kernel, ⟨tyX0, tyX0_ok⟩, nmX0⟩
theorem f_X0_32 : jFw RX0 32 0 3 true (.array .float) := ⟨(RX0, TX0, 11), rfl, by decide, lay_X0, q_127, rfl, rfl, by decide +kernel, ⟨tyX0, tyX0_ok⟩, nmX0⟩
theorem f_X7_58 : jFw RX7 58 0 3 true (.array .float) := ⟨(RX0, TX0, 11), rfl, by decide, lay_X0, q_128, rfl, rfl, by decide +kernel, ⟨tyX0, tyX0_ok⟩, nmX0⟩
theorem f_X0_36 : jFw RX0 36 0 4 true (.array .int) := ⟨(RX0, TX0, 11), rfl, by decide, lay_X0, q_129, rfl, rfl, by decide +kernel, ⟨tyX0, tyX0_ok⟩, nmX0⟩
theorem f_X7_72 : jFw RX7 72 0 4 true (.array .int) := ⟨(RX0, TX0, 11), rfl, by decide, lay_X0, q_130, rfl, rfl, by decide +kernel, ⟨tyX0, tyX0_ok⟩, nmX0⟩
theorem f_X0_53 : jFw RX0 53 0 5 false .int := ⟨(RX0, TX0, 11), rfl, by decide, lay_X0, q_131, rfl, rfl, by decide +kernel, ⟨tyX0, tyX0_ok⟩, nmX0⟩
theorem f_X7_156 : jFw RX7 156 0 5 false .int := ⟨(RX0, TX0, 11), rfl, by decide, lay_X0, q_132, rfl, rfl, by decide +kernel, ⟨tyX0, tyX0_ok⟩, nmX0⟩
theorem f_X7_97 : jFw RX7 97 0 6 false .int := ⟨(RX0, TX0, 11), rfl, by decide, lay_X0, q_133, rfl, rfl, by decide +kernel, ⟨tyX0, tyX0_ok⟩, nmX0⟩
theorem f_X0_95 : jFw RX0 95 0 6 false .int := ⟨(RX0, TX0, 11), rfl, by decide, lay_X0, q_134, rfl, rfl, by decide +kernel, ⟨tyX0, tyX0_ok⟩, nmX0⟩
theorem f_X0_114 : jFw RX0 114 0 7 false .int := ⟨(RX0, TX0, 11), rfl, by decide, lay_X0, q_135, rfl, rfl, by decide +kernel, ⟨tyX0, tyX0_ok⟩, nmX0⟩
theorem f_X7_266 : jFw RX7 266 0 7 false .int := ⟨(RX0, TX0, 11), rfl, by decide, lay_X0, q_136, rfl, rfl, by decide +kernel, ⟨tyX0, tyX0_ok⟩, nmX0⟩
theorem f_X0_117 : jFw RX0 117 0 8 false .int := ⟨(RX0, TX0, 11), rfl, by decide, lay_X0, q_137, rfl, rfl, by decide +kernel, ⟨tyX0, tyX0_ok⟩, nmX0⟩
theorem f_X7_269 : jFw RX7 269 0 8 false .int := ⟨(RX0, TX0, 11), rfl, by decide, lay_X0, q_138, rfl, rfl, by decide +kernel, ⟨tyX0, tyX0_ok⟩, nmX0⟩
theorem f_X0_130 : jFw RX0 130 0 9 false .int := ⟨(RX0, TX0, 11), rfl, by decide, lay_X0, q_139, rfl, rfl, by decide +kernel, ⟨tyX0, tyX0_ok⟩, nmX0⟩
theorem f_X7_272 : jFw RX7 272 0 9 false .int := ⟨(RX0, TX0, 11), rfl, by decide, lay_X0, q_140, rfl, rfl, by decide +kernel, ⟨tyX0, tyX0_ok⟩, nmX0⟩
theorem f_X0_149 : jFw RX0 149 0 10 false .int := ⟨(RX0, TX0, 11), rfl, by decide, lay_X0, q_141, rfl, rfl, by decide +kernel, ⟨tyX0, tyX0_ok⟩, nmX0⟩
theorem f_X7_275 : jFw RX7 275 0 10 false .int := ⟨(RX0, TX0, 11), rfl, by decide, lay_X0, q_142, rfl, rfl, by decide +kernel, ⟨tyX0, tyX0_ok⟩, nmX0⟩
theorem f_X2_11 : jFw RX2 11 2 0 true (.array (.object "GuildFund$Book")) := ⟨(RX2, TX2, 3), rfl, by decide, lay_X2, q_176, rfl, rfl, by decide +kernel, ⟨tyX2, tyX2_ok⟩, nmX2⟩
theorem f_X2_18 : jFw RX2 18 2 1 false .int := ⟨(RX2, TX2, 3), rfl, by decide, lay_X2, q_177, rfl, rfl, by decide +kernel, ⟨tyX2, tyX2_ok⟩, nmX2⟩
theorem f_X2_30 : jFw RX2 30 2 2 false .int := ⟨(RX2, TX2, 3), rfl, by decide, lay_X2, q_178, rfl, rfl, by decide +kernel, ⟨tyX2, tyX2_ok⟩, nmX2⟩
theorem f_X7_166 : jFw RX7 166 2 2 false .int := ⟨(RX2, TX2, 3), rfl, by decide, lay_X2, q_179, rfl, rfl, by decide +kernel, ⟨tyX2, tyX2_ok⟩, nmX2⟩
theorem f_X6_9 : jFw RX6 9 6 0 true (.array .char) := ⟨(RX6, TX6, 5), rfl, by decide, lay_X6, q_193, rfl, rfl, by decide +kernel, ⟨tyX6, tyX6_ok⟩, nmX6⟩
theorem f_X6_15 : jFw RX6 15 6 1 true (.array .int) := ⟨(RX6, TX6, 5), rfl, by decide, lay_X6, q_194, rfl, rfl, by decide +kernel, ⟨tyX6, tyX6_ok⟩, nmX6⟩
theorem f_X6_19 : jFw RX6 19 6 2 true (.array .int) := ⟨(RX6, TX6, 5), rfl, by decide, lay_X6, q_195, rfl, rfl, by decide +kernel, ⟨tyX6, tyX6_ok⟩, nmX6⟩
theorem f_X6_22 : jFw RX6 22 6 3 false .int := ⟨(RX6, TX6, 5), rfl, by decide, lay_X6, q_196, rfl, rfl, by decide +kernel, ⟨tyX6, tyX6_ok⟩, nmX6⟩
theorem f_X7_163 : jFw RX7 163 6 3 false .int := ⟨(RX6, TX6, 5), rfl, by decide, lay_X6, q_197, rfl, rfl, by decide +kernel, ⟨tyX6, tyX6_ok⟩, nmX6⟩
theorem f_X6_26 : jFw RX6 26 6 4 false .int := ⟨(RX6, TX6, 5), rfl, by decide, lay_X6, q_198, rfl, rfl, by decide +kernel, ⟨tyX6, tyX6_ok⟩, nmX6⟩
theorem f_X7_144 : jFw RX7 144 6 4 false .int := ⟨(RX6, TX6, 5), rfl, by decide, lay_X6, q_199, rfl, rfl, by decide +kernel, ⟨tyX6, tyX6_ok⟩, nmX6⟩
theorem f_X5_9 : jFw RX5 9 5 0 true (.array .int) := ⟨(RX5, TX5, 3), rfl, by decide, lay_X5, q_218, rfl, rfl, by decide +kernel, ⟨tyX5, tyX5_ok⟩, nmX5⟩
theorem f_X5_15 : jFw RX5 15 5 1 true (.array .float) := ⟨(RX5, TX5, 3), rfl, by decide, lay_X5, q_219, rfl, rfl, by decide +kernel, ⟨tyX5, tyX5_ok⟩, nmX5⟩
theorem f_X5_19 : jFw RX5 19 5 2 false .int := ⟨(RX5, TX5, 3), rfl, by decide, lay_X5, q_220, rfl, rfl, by decide +kernel, ⟨tyX5, tyX5_ok⟩, nmX5⟩
theorem f_X7_246 : jFw RX7 246 5 2 false .int := ⟨(RX5, TX5, 3), rfl, by decide, lay_X5, q_221, rfl, rfl, by decide +kernel, ⟨tyX5, tyX5_ok⟩, nmX5⟩
theorem f_X7_10 : jFw RX7 10 7 0 true (.object "GuildFund$Book") := ⟨(RX7, TX7, 9), rfl, by decide, lay_X7, q_229, rfl, rfl, by decide +kernel, ⟨tyX7, tyX7_ok⟩, nmX7⟩
theorem f_X7_16 : jFw RX7 16 7 1 true (.object "GuildFund$Book") := ⟨(RX7, TX7, 9), rfl, by decide, lay_X7, q_230, rfl, rfl, by decide +kernel, ⟨tyX7, tyX7_ok⟩, nmX7⟩
theorem f_X7_19 : jFw RX7 19 7 2 true (.object "GuildFund$Book") := ⟨(RX7, TX7, 9), rfl, by decide, lay_X7, q_231, rfl, rfl, by decide +kernel, ⟨tyX7, tyX7_ok⟩, nmX7⟩
theorem f_X7_25 : jFw RX7 25 7 3 true (.object "GuildFund$History") := ⟨(RX7, TX7, 9), rfl, by decide, lay_X7, q_232, rfl, rfl, by decide +kernel, ⟨tyX7, tyX7_ok⟩, nmX7⟩
theorem f_X7_32 : jFw RX7 32 7 4 true (.object "GuildFund$Text") := ⟨(RX7, TX7, 9), rfl, by decide, lay_X7, q_233, rfl, rfl, by decide +kernel, ⟨tyX7, tyX7_ok⟩, nmX7⟩
theorem f_X7_39 : jFw RX7 39 7 5 true (.object "GuildFund$Ranking") := ⟨(RX7, TX7, 9), rfl, by decide, lay_X7, q_234, rfl, rfl, by decide +kernel, ⟨tyX7, tyX7_ok⟩, nmX7⟩
theorem f_X7_170 : jFw RX7 170 7 6 false .boolean := ⟨(RX7, TX7, 9), rfl, by decide, lay_X7, q_235, rfl, rfl, by decide +kernel, ⟨tyX7, tyX7_ok⟩, nmX7⟩
theorem f_X7_153 : jFw RX7 153 7 7 false .int := ⟨(RX7, TX7, 9), rfl, by decide, lay_X7, q_236, rfl, rfl, by decide +kernel, ⟨tyX7, tyX7_ok⟩, nmX7⟩
theorem f_X7_43 : jFw RX7 43 7 8 false .int := ⟨(RX7, TX7, 9), rfl, by decide, lay_X7, q_237, rfl, rfl, by decide +kernel, ⟨tyX7, tyX7_ok⟩, nmX7⟩
theorem f_X8_7 : jFw RX8 7 8 0 true (.array .int) := ⟨(RX8, TX8, 15), rfl, by decide, lay_X8, q_625, rfl, rfl, by decide +kernel, ⟨tyX8, tyX8_ok⟩, nmX8⟩
theorem f_X8_13 : jFw RX8 13 8 1 true (.array .int) := ⟨(RX8, TX8, 15), rfl, by decide, lay_X8, q_626, rfl, rfl, by decide +kernel, ⟨tyX8, tyX8_ok⟩, nmX8⟩
theorem f_X8_16 : jFw RX8 16 8 2 true (.array .int) := ⟨(RX8, TX8, 15), rfl, by decide, lay_X8, q_627, rfl, rfl, by decide +kernel, ⟨tyX8, tyX8_ok⟩, nmX8⟩
theorem f_X8_42 : jFw RX8 42 8 3 false .int := ⟨(RX8, TX8, 15), rfl, by decide, lay_X8, q_628, rfl, rfl, by decide +kernel, ⟨tyX8, tyX8_ok⟩, nmX8⟩
theorem f_X8_19 : jFw RX8 19 8 4 true (.array .int) := ⟨(RX8, TX8, 15), rfl, by decide, lay_X8, q_629, rfl, rfl, by decide +kernel, ⟨tyX8, tyX8_ok⟩, nmX8⟩
theorem f_X8_154 : jFw RX8 154 8 5 false .boolean := ⟨(RX8, TX8, 15), rfl, by decide, lay_X8, q_630, rfl, rfl, by decide +kernel, ⟨tyX8, tyX8_ok⟩, nmX8⟩
theorem f_X8_22 : jFw RX8 22 8 6 true (.array .int) := ⟨(RX8, TX8, 15), rfl, by decide, lay_X8, q_631, rfl, rfl, by decide +kernel, ⟨tyX8, tyX8_ok⟩, nmX8⟩
theorem f_X8_127 : jFw RX8 127 8 7 false .int := ⟨(RX8, TX8, 15), rfl, by decide, lay_X8, q_632, rfl, rfl, by decide +kernel, ⟨tyX8, tyX8_ok⟩, nmX8⟩
theorem f_X8_25 : jFw RX8 25 8 8 false .int := ⟨(RX8, TX8, 15), rfl, by decide, lay_X8, q_633, rfl, rfl, by decide +kernel, ⟨tyX8, tyX8_ok⟩, nmX8⟩
theorem f_X8_29 : jFw RX8 29 8 9 false .int := ⟨(RX8, TX8, 15), rfl, by decide, lay_X8, q_634, rfl, rfl, by decide +kernel, ⟨tyX8, tyX8_ok⟩, nmX8⟩
theorem f_X8_32 : jFw RX8 32 8 10 true (.array .int) := ⟨(RX8, TX8, 15), rfl, by decide, lay_X8, q_635, rfl, rfl, by decide +kernel, ⟨tyX8, tyX8_ok⟩, nmX8⟩
theorem f_X8_124 : jFw RX8 124 8 11 false .int := ⟨(RX8, TX8, 15), rfl, by decide, lay_X8, q_636, rfl, rfl, by decide +kernel, ⟨tyX8, tyX8_ok⟩, nmX8⟩
theorem f_X8_130 : jFw RX8 130 8 12 false .boolean := ⟨(RX8, TX8, 15), rfl, by decide, lay_X8, q_637, rfl, rfl, by decide +kernel, ⟨tyX8, tyX8_ok⟩, nmX8⟩
theorem f_X8_140 : jFw RX8 140 8 13 false .int := ⟨(RX8, TX8, 15), rfl, by decide, lay_X8, q_638, rfl, rfl, by decide +kernel, ⟨tyX8, tyX8_ok⟩, nmX8⟩
theorem f_X8_137 : jFw RX8 137 8 14 false .int := ⟨(RX8, TX8, 15), rfl, by decide, lay_X8, q_639, rfl, rfl, by decide +kernel, ⟨tyX8, tyX8_ok⟩, nmX8⟩
theorem jgV {own : String} {idx : Nat} {y : MethodName} {cb : ByteArray} {maxL : Nat} {ret : Option FieldType} (h1 : Cond.methodLink own idx y ∈ jAll) (h2 : Cond.instanceMethod y ∈ jAll) (h3 : Cond.selects y.cls y y ∈ jAll) (h4 : Cond.initialized y.cls ∈ jAll) (h5 : Cond.code y cb maxL ret ∈ jAll) : GoodIn jAll (wsV own idx y.cls y (jw y cb maxL ret)) := jgood (by
  intro w hw
  unfold wsV jw at hw
  simp only [List.cons_append, List.nil_append, List.mem_cons] at hw
  rcases hw with rfl | rfl | rfl | rfl | rfl | hw
  · exact h1
  · exact h2
  · exact h3
  · exact h4
  · exact h5
  · exact hw)
theorem jgS {own : String} {idx : Nat} {y : MethodName} {cb : ByteArray} {maxL : Nat} {ret : Option FieldType} (h1 : Cond.methodLink own idx y ∈ jAll) (h2 : Cond.static y ∈ jAll) (h4 : Cond.initialized own ∈ jAll) (h5 : Cond.code y cb maxL ret ∈ jAll) : GoodIn jAll (wsS own idx y (jw y cb maxL ret)) := jgood (by
  intro w hw
  unfold wsS jw at hw
  simp only [List.cons_append, List.nil_append, List.mem_cons] at hw
  rcases hw with rfl | rfl | rfl | rfl | hw
  · exact h1
  · exact h2
  · exact h4
  · exact h5
  · exact hw)
theorem jgI {y : MethodName} {cb : ByteArray} {maxL : Nat} {ret : Option FieldType} (h5 : Cond.code y cb maxL ret ∈ jAll) : GoodIn jAll (jw y cb maxL ret) := jgood (List.forall_mem_cons.mpr ⟨h5, fun _ h => h⟩)
theorem g_L_9 : jGI RL 9 yX7_init cX7_init 1 0 := ⟨rfl, jgI q_14, q_1, q_12, q_13, by decide, by decide, by decide +kernel⟩
theorem g_X7_9 : jGI RX7 9 yX0_init cX0_init 1 0 := ⟨rfl, jgI q_22, q_2, q_20, q_21, by decide, by decide, by decide +kernel⟩
theorem g_X7_24 : jGI RX7 24 yX2_init cX2_init 2 0 := ⟨rfl, jgI q_171, q_6, q_169, q_170, by decide, by decide, by decide +kernel⟩
theorem g_X2_17 : jGI RX2 17 yX0_init cX0_init 1 0 := ⟨rfl, jgI q_22, q_2, q_175, q_21, by decide, by decide, by decide +kernel⟩
theorem g_L_13 : jGV RL 13 yX7_setRate cX7_setRate 4 (some .int) 2 := ⟨jgV q_257 q_258 q_259 q_1 q_260, by decide, by decide, by decide +kernel⟩
theorem g_X7_54 : jGS RX7 54 yX7_floatOf cX7_floatOf 6 (Option.some FieldType.float) 1 := ⟨rfl, jgS q_265 q_266 q_1 q_267, by decide, by decide, by decide +kernel⟩
theorem g_X7_62 : jGV RX7 62 yX2_push cX2_push 2 (none : Option FieldType) 1 := ⟨jgV q_271 q_272 q_273 q_6 q_274, by decide, by decide, by decide +kernel⟩
theorem g_X2_22 : jGV RX2 22 yX2_stateAt cX2_stateAt 2 (Option.some (FieldType.object RX0)) 1 := ⟨jgV q_275 q_277 q_p0 q_6 q_278, by decide, by decide, by decide +kernel⟩
theorem g_X2_26 : jGS RX2 26 yX2_copy cX2_copy 2 (none : Option FieldType) 2 := ⟨rfl, jgS q_279 q_280 q_6 q_281, by decide, by decide, by decide +kernel⟩
theorem g_X2_33 : jGV RX2 33 yX0_copyFrom cX0_copyFrom 3 (none : Option FieldType) 1 := ⟨jgV q_282 q_283 q_284 q_2 q_285, by decide, by decide, by decide +kernel⟩
theorem g_X0_152 : jGV RX0 152 yX4_copyFrom cX4_copyFrom 2 (none : Option FieldType) 1 := ⟨jgV q_286 q_287 q_288 q_3 q_289, by decide, by decide, by decide +kernel⟩
theorem g_X0_156 : jGV RX0 156 yX1_copyFrom cX1_copyFrom 2 (none : Option FieldType) 1 := ⟨jgV q_293 q_294 q_295 q_4 q_296, by decide, by decide, by decide +kernel⟩
theorem g_X0_159 : jGV RX0 159 yX3_copyFrom cX3_copyFrom 2 (none : Option FieldType) 1 := ⟨jgV q_298 q_299 q_300 q_5 q_301, by decide, by decide, by decide +kernel⟩
theorem g_L_18 : jGV RL 18 yX7_setNumber cX7_setNumber 4 (some .int) 2 := ⟨jgV q_304 q_305 q_306 q_1 q_307, by decide, by decide, by decide +kernel⟩
theorem g_L_22 : jGV RL 22 yX7_addMember cX7_addMember 2 (some .int) 1 := ⟨jgV q_312 q_313 q_314 q_1 q_315, by decide, by decide, by decide +kernel⟩
theorem g_X7_84 : jGV RX7 84 yX4_append cX4_append 2 (some .int) 1 := ⟨jgV q_316 q_317 q_318 q_3 q_319, by decide, by decide, by decide +kernel⟩
theorem g_L_27 : jGV RL 27 yX7_payDues cX7_payDues 4 (some .int) 2 := ⟨jgV q_320 q_321 q_322 q_1 q_323, by decide, by decide, by decide +kernel⟩
theorem g_X7_88 : jGV RX7 88 yX4_has cX4_has 2 (Option.some FieldType.boolean) 1 := ⟨jgV q_324 q_325 q_326 q_3 q_327, by decide, by decide, by decide +kernel⟩
theorem g_L_31 : jGV RL 31 yX7_addInvoice cX7_addInvoice 5 (some .int) 4 := ⟨jgV q_330 q_331 q_332 q_1 q_333, by decide, by decide, by decide +kernel⟩
theorem g_X7_104 : jGV RX7 104 yX1_has cX1_has 2 (Option.some FieldType.boolean) 1 := ⟨jgV q_334 q_335 q_336 q_4 q_337, by decide, by decide, by decide +kernel⟩
theorem g_X7_114 : jGV RX7 114 yX3_append cX3_append 5 (some .int) 4 := ⟨jgV q_338 q_339 q_340 q_5 q_341, by decide, by decide, by decide +kernel⟩
theorem g_L_36 : jGV RL 36 yX7_payAhead cX7_payAhead 2 (some .int) 1 := ⟨jgV q_342 q_343 q_344 q_1 q_345, by decide, by decide, by decide +kernel⟩
theorem g_X7_117 : jGV RX7 117 yX3_has cX3_has 2 (Option.some FieldType.boolean) 1 := ⟨jgV q_346 q_347 q_348 q_5 q_349, by decide, by decide, by decide +kernel⟩
theorem g_X7_118 : jGV RX7 118 yX0_canPayAhead cX0_canPayAhead 3 (Option.some FieldType.boolean) 1 := ⟨jgV q_350 q_351 q_352 q_2 q_353, by decide, by decide, by decide +kernel⟩
theorem g_X0_49 : jGV RX0 49 yX3_has cX3_has 2 (Option.some FieldType.boolean) 1 := ⟨jgV q_354 q_347 q_348 q_5 q_349, by decide, by decide, by decide +kernel⟩
theorem g_X0_60 : jGV RX0 60 yX0_ageOf cX0_ageOf 2 (some .int) 1 := ⟨jgV q_355 q_356 q_357 q_2 q_358, by decide, by decide, by decide +kernel⟩
theorem g_X0_86 : jGV RX0 86 yX0_offerAfter cX0_offerAfter 3 (some .int) 2 := ⟨jgV q_359 q_360 q_361 q_2 q_362, by decide, by decide, by decide +kernel⟩
theorem g_X0_82 : jGV RX0 82 yX0_rateAfter cX0_rateAfter 5 (Option.some FieldType.float) 2 := ⟨jgV q_363 q_364 q_365 q_2 q_366, by decide, by decide, by decide +kernel⟩
theorem g_X0_68 : jGV RX0 68 yX0_lateAfter cX0_lateAfter 4 (some .int) 2 := ⟨jgV q_371 q_372 q_373 q_2 q_374, by decide, by decide, by decide +kernel⟩
theorem g_X0_75 : jGV RX0 75 yX1_riskOf cX1_riskOf 2 (Option.some FieldType.float) 1 := ⟨jgV q_375 q_376 q_377 q_4 q_378, by decide, by decide, by decide +kernel⟩
theorem g_X1_21 : jGV RX1 21 yX1_has cX1_has 2 (Option.some FieldType.boolean) 1 := ⟨jgV q_379 q_335 q_336 q_4 q_337, by decide, by decide, by decide +kernel⟩
theorem g_X0_98 : jGV RX0 98 yX0_reserveCents cX0_reserveCents 1 (some .int) 0 := ⟨jgV q_381 q_382 q_383 q_2 q_384, by decide, by decide, by decide +kernel⟩
theorem g_X0_43 : jGV RX0 43 yX4_allDues cX4_allDues 3 (some .int) 0 := ⟨jgV q_385 q_386 q_387 q_3 q_388, by decide, by decide, by decide +kernel⟩
theorem g_X4_28 : jGV RX4 28 yX4_has cX4_has 2 (Option.some FieldType.boolean) 1 := ⟨jgV q_389 q_325 q_326 q_3 q_327, by decide, by decide, by decide +kernel⟩
theorem g_X7_121 : jGV RX7 121 yX0_advance cX0_advance 3 (some .int) 1 := ⟨jgV q_391 q_392 q_393 q_2 q_394, by decide, by decide, by decide +kernel⟩
theorem g_X0_110 : jGV RX0 110 yX4_intoPurse cX4_intoPurse 3 (none : Option FieldType) 2 := ⟨jgV q_395 q_396 q_397 q_3 q_398, by decide, by decide, by decide +kernel⟩
theorem g_L_40 : jGV RL 40 yX7_pay cX7_pay 4 (some .int) 2 := ⟨jgV q_399 q_400 q_401 q_1 q_402, by decide, by decide, by decide +kernel⟩
theorem g_X7_124 : jGV RX7 124 yX0_errorOfPayment cX0_errorOfPayment 4 (some .int) 2 := ⟨jgV q_403 q_404 q_405 q_2 q_406, by decide, by decide, by decide +kernel⟩
theorem g_X0_101 : jGV RX0 101 yX3_isUnsettled cX3_isUnsettled 2 (Option.some FieldType.boolean) 1 := ⟨jgV q_407 q_408 q_409 q_5 q_410, by decide, by decide, by decide +kernel⟩
theorem g_X3_37 : jGV RX3 37 yX3_has cX3_has 2 (Option.some FieldType.boolean) 1 := ⟨jgV q_411 q_347 q_348 q_5 q_349, by decide, by decide, by decide +kernel⟩
theorem g_X7_128 : jGV RX7 128 yX0_collect cX0_collect 4 (some .int) 2 := ⟨jgV q_412 q_413 q_414 q_2 q_415, by decide, by decide, by decide +kernel⟩
theorem g_X0_120 : jGV RX0 120 yX0_settle cX0_settle 2 (none : Option FieldType) 1 := ⟨jgV q_416 q_417 q_418 q_2 q_419, by decide, by decide, by decide +kernel⟩
theorem g_X0_124 : jGV RX0 124 yX0_passOn cX0_passOn 4 (none : Option FieldType) 1 := ⟨jgV q_420 q_421 q_422 q_2 q_423, by decide, by decide, by decide +kernel⟩
theorem g_X0_127 : jGV RX0 127 yX1_addSettled cX1_addSettled 3 (none : Option FieldType) 2 := ⟨jgV q_424 q_425 q_426 q_4 q_427, by decide, by decide, by decide +kernel⟩
theorem g_L_44 : jGV RL 44 yX7_giveUp cX7_giveUp 2 (some .int) 1 := ⟨jgV q_428 q_429 q_430 q_1 q_431, by decide, by decide, by decide +kernel⟩
theorem g_X7_131 : jGV RX7 131 yX0_canGiveUp cX0_canGiveUp 2 (Option.some FieldType.boolean) 1 := ⟨jgV q_432 q_433 q_434 q_2 q_435, by decide, by decide, by decide +kernel⟩
theorem g_X7_134 : jGV RX7 134 yX0_lose cX0_lose 4 (some .int) 1 := ⟨jgV q_436 q_437 q_438 q_2 q_439, by decide, by decide, by decide +kernel⟩
theorem g_X0_133 : jGV RX0 133 yX1_addLost cX1_addLost 2 (none : Option FieldType) 1 := ⟨jgV q_440 q_441 q_442 q_4 q_443, by decide, by decide, by decide +kernel⟩
theorem g_X0_136 : jGV RX0 136 yX0_share cX0_share 8 (none : Option FieldType) 1 := ⟨jgV q_444 q_445 q_446 q_2 q_447, by decide, by decide, by decide +kernel⟩
theorem g_X0_139 : jGV RX0 139 yX4_allWeights cX4_allWeights 3 (some .int) 0 := ⟨jgV q_448 q_449 q_450 q_3 q_451, by decide, by decide, by decide +kernel⟩
theorem g_X0_142 : jGV RX0 142 yX4_has cX4_has 2 (Option.some FieldType.boolean) 1 := ⟨jgV q_452 q_325 q_326 q_3 q_327, by decide, by decide, by decide +kernel⟩
theorem g_X0_146 : jGV RX0 146 yX4_bear cX4_bear 3 (none : Option FieldType) 2 := ⟨jgV q_453 q_454 q_455 q_3 q_456, by decide, by decide, by decide +kernel⟩
theorem g_L_48 : jGV RL 48 yX7_readPayments cX7_readPayments 7 (some .int) 0 := ⟨jgV q_457 q_458 q_459 q_1 q_460, by decide, by decide, by decide +kernel⟩
theorem g_X7_137 : jGV RX7 137 yX6_read cX6_read 3 (some .int) 0 := ⟨jgV q_461 q_462 q_463 q_7 q_464, by decide, by decide, by decide +kernel⟩
theorem g_X6_29 : jGS RX6 29 yX6_placeBehind cX6_placeBehind 3 (some .int) 2 := ⟨rfl, jgS q_465 q_466 q_7 q_467, by decide, by decide, by decide +kernel⟩
theorem g_X6_33 : jGV RX6 33 yX6_readNumbers cX6_readNumbers 5 (none : Option FieldType) 0 := ⟨jgV q_468 q_470 q_p1 q_7 q_471, by decide, by decide, by decide +kernel⟩
theorem g_X7_141 : jGV RX7 141 yX0_copyFrom cX0_copyFrom 3 (none : Option FieldType) 1 := ⟨jgV q_472 q_283 q_284 q_2 q_285, by decide, by decide, by decide +kernel⟩
theorem g_X7_147 : jGV RX7 147 yX6_invoiceOf cX6_invoiceOf 2 (some .int) 1 := ⟨jgV q_473 q_474 q_475 q_7 q_476, by decide, by decide, by decide +kernel⟩
theorem g_X7_150 : jGV RX7 150 yX6_centsOf cX6_centsOf 2 (some .int) 1 := ⟨jgV q_477 q_478 q_479 q_7 q_480, by decide, by decide, by decide +kernel⟩
theorem g_L_53 : jGV RL 53 yX7_refusal cX7_refusal 2 (some .int) 1 := ⟨jgV q_481 q_482 q_483 q_1 q_484, by decide, by decide, by decide +kernel⟩
theorem g_L_57 : jGV RL 57 yX7_pass cX7_pass 2 (some .int) 1 := ⟨jgV q_485 q_486 q_487 q_1 q_488, by decide, by decide, by decide +kernel⟩
theorem g_L_61 : jGV RL 61 yX7_type cX7_type 2 (some .int) 1 := ⟨jgV q_490 q_491 q_492 q_1 q_493, by decide, by decide, by decide +kernel⟩
theorem g_X7_160 : jGV RX7 160 yX6_append cX6_append 2 (some .int) 1 := ⟨jgV q_494 q_495 q_496 q_7 q_497, by decide, by decide, by decide +kernel⟩
theorem g_L_66 : jGV RL 66 yX7_clearText cX7_clearText 2 (some .int) 0 := ⟨jgV q_498 q_499 q_500 q_1 q_501, by decide, by decide, by decide +kernel⟩
theorem g_L_70 : jGV RL 70 yX7_undo cX7_undo 1 (some .int) 0 := ⟨jgV q_502 q_503 q_504 q_1 q_505, by decide, by decide, by decide +kernel⟩
theorem g_X7_167 : jGV RX7 167 yX2_popInto cX2_popInto 2 (none : Option FieldType) 1 := ⟨jgV q_506 q_507 q_508 q_6 q_509, by decide, by decide, by decide +kernel⟩
theorem g_L_74 : jGV RL 74 yX7_keep cX7_keep 1 (some .int) 0 := ⟨jgV q_510 q_511 q_512 q_1 q_513, by decide, by decide, by decide +kernel⟩
theorem g_L_78 : jGV RL 78 yX7_restore cX7_restore 1 (some .int) 0 := ⟨jgV q_514 q_515 q_516 q_1 q_517, by decide, by decide, by decide +kernel⟩
theorem g_L_82 : jGV RL 82 yX7_rate cX7_rate 2 (Option.some FieldType.float) 1 := ⟨jgV q_518 q_519 q_520 q_1 q_521, by decide, by decide, by decide +kernel⟩
theorem g_X7_174 : jGS RX7 174 yX7_noNumber cX7_noNumber 0 (Option.some FieldType.float) 0 := ⟨rfl, jgS q_522 q_368 q_1 q_369, by decide, by decide, by decide +kernel⟩
theorem g_L_87 : jGV RL 87 yX7_number cX7_number 2 (some .int) 1 := ⟨jgV q_523 q_524 q_525 q_1 q_526, by decide, by decide, by decide +kernel⟩
theorem g_L_91 : jGV RL 91 yX7_member cX7_member 4 (some .int) 2 := ⟨jgV q_527 q_528 q_529 q_1 q_530, by decide, by decide, by decide +kernel⟩
theorem g_X7_185 : jGV RX7 185 yX3_countOfMember cX3_countOfMember 4 (some .int) 1 := ⟨jgV q_532 q_533 q_534 q_5 q_535, by decide, by decide, by decide +kernel⟩
theorem g_X7_188 : jGV RX7 188 yX3_countOfMemberAhead cX3_countOfMemberAhead 4 (some .int) 1 := ⟨jgV q_536 q_537 q_538 q_5 q_539, by decide, by decide, by decide +kernel⟩
theorem g_L_95 : jGV RL 95 yX7_client cX7_client 4 (some .int) 2 := ⟨jgV q_540 q_541 q_542 q_1 q_543, by decide, by decide, by decide +kernel⟩
theorem g_X7_203 : jGV RX7 203 yX3_countOfClientUnsettled cX3_countOfClientUnsettled 4 (some .int) 1 := ⟨jgV q_544 q_545 q_546 q_5 q_547, by decide, by decide, by decide +kernel⟩
theorem g_X3_41 : jGV RX3 41 yX3_isUnsettled cX3_isUnsettled 2 (Option.some FieldType.boolean) 1 := ⟨jgV q_548 q_408 q_409 q_5 q_410, by decide, by decide, by decide +kernel⟩
theorem g_L_99 : jGV RL 99 yX7_risk cX7_risk 2 (Option.some FieldType.float) 1 := ⟨jgV q_549 q_550 q_551 q_1 q_552, by decide, by decide, by decide +kernel⟩
theorem g_X7_206 : jGV RX7 206 yX1_riskOf cX1_riskOf 2 (Option.some FieldType.float) 1 := ⟨jgV q_553 q_376 q_377 q_4 q_378, by decide, by decide, by decide +kernel⟩
theorem g_L_103 : jGV RL 103 yX7_lateness cX7_lateness 2 (Option.some FieldType.float) 1 := ⟨jgV q_554 q_555 q_556 q_1 q_557, by decide, by decide, by decide +kernel⟩
theorem g_X7_209 : jGV RX7 209 yX1_latenessOf cX1_latenessOf 2 (Option.some FieldType.float) 1 := ⟨jgV q_558 q_559 q_560 q_4 q_561, by decide, by decide, by decide +kernel⟩
theorem g_L_107 : jGV RL 107 yX7_invoice cX7_invoice 4 (some .int) 2 := ⟨jgV q_562 q_563 q_564 q_1 q_565, by decide, by decide, by decide +kernel⟩
theorem g_X7_232 : jGV RX7 232 yX0_ageOf cX0_ageOf 2 (some .int) 1 := ⟨jgV q_566 q_356 q_357 q_2 q_358, by decide, by decide, by decide +kernel⟩
theorem g_X7_236 : jGV RX7 236 yX0_offerAfter cX0_offerAfter 3 (some .int) 2 := ⟨jgV q_568 q_360 q_361 q_2 q_362, by decide, by decide, by decide +kernel⟩
theorem g_L_111 : jGV RL 111 yX7_rateIn cX7_rateIn 3 (Option.some FieldType.float) 2 := ⟨jgV q_569 q_570 q_571 q_1 q_572, by decide, by decide, by decide +kernel⟩
theorem g_X7_239 : jGV RX7 239 yX0_rateAfter cX0_rateAfter 5 (Option.some FieldType.float) 2 := ⟨jgV q_573 q_364 q_365 q_2 q_366, by decide, by decide, by decide +kernel⟩
theorem g_L_116 : jGV RL 116 yX7_worth cX7_worth 2 (Option.some FieldType.float) 1 := ⟨jgV q_574 q_575 q_576 q_1 q_577, by decide, by decide, by decide +kernel⟩
theorem g_X7_243 : jGV RX7 243 yX0_worthOf cX0_worthOf 5 (Option.some FieldType.float) 1 := ⟨jgV q_578 q_579 q_580 q_2 q_581, by decide, by decide, by decide +kernel⟩
theorem g_L_120 : jGV RL 120 yX7_best cX7_best 3 (some .int) 1 := ⟨jgV q_582 q_583 q_584 q_1 q_585, by decide, by decide, by decide +kernel⟩
theorem g_X7_247 : jGV RX7 247 yX5_insert cX5_insert 4 (none : Option FieldType) 2 := ⟨jgV q_586 q_587 q_588 q_8 q_589, by decide, by decide, by decide +kernel⟩
theorem g_X7_251 : jGV RX7 251 yX5_invoiceAt cX5_invoiceAt 2 (some .int) 1 := ⟨jgV q_590 q_591 q_592 q_8 q_593, by decide, by decide, by decide +kernel⟩
theorem g_L_124 : jGV RL 124 yX7_worthlessIn cX7_worthlessIn 3 (some .int) 1 := ⟨jgV q_594 q_595 q_596 q_1 q_597, by decide, by decide, by decide +kernel⟩
theorem g_L_128 : jGV RL 128 yX7_exposure cX7_exposure 2 (Option.some FieldType.float) 0 := ⟨jgV q_598 q_599 q_600 q_1 q_601, by decide, by decide, by decide +kernel⟩
theorem g_X7_254 : jGV RX7 254 yX4_allDues cX4_allDues 3 (some .int) 0 := ⟨jgV q_602 q_386 q_387 q_3 q_388, by decide, by decide, by decide +kernel⟩
theorem g_X7_257 : jGV RX7 257 yX3_advancesOut cX3_advancesOut 3 (some .int) 0 := ⟨jgV q_603 q_604 q_605 q_5 q_606, by decide, by decide, by decide +kernel⟩
theorem g_L_133 : jGV RL 133 yX7_count cX7_count 2 (some .int) 1 := ⟨jgV q_607 q_608 q_609 q_1 q_610, by decide, by decide, by decide +kernel⟩
theorem g_X7_260 : jGV RX7 260 yX0_reserveCents cX0_reserveCents 1 (some .int) 0 := ⟨jgV q_611 q_382 q_383 q_2 q_384, by decide, by decide, by decide +kernel⟩
theorem g_X7_263 : jGV RX7 263 yX3_countOfState cX3_countOfState 4 (some .int) 1 := ⟨jgV q_612 q_613 q_614 q_5 q_615, by decide, by decide, by decide +kernel⟩
theorem g_L_12 : jGI RL 12 yX8_init cX8_init 1 0 := ⟨rfl, jgI q_620, q_9, q_618, q_619, by decide, by decide, by decide +kernel⟩
theorem g_L_17 : jGV RL 17 yX8_setRate cX8_setRate 7 (some .int) 2 := ⟨jgV q_671 q_672 q_673 q_9 q_674, by decide, by decide, by decide +kernel⟩
theorem g_X8_38 : jGS RX8 38 yX8_in cX8_in 3 (Option.some FieldType.boolean) 3 := ⟨rfl, jgS q_675 q_676 q_9 q_677, by decide, by decide, by decide +kernel⟩
theorem g_X8_51 : jGS RX8 51 yX8_ofBits cX8_ofBits 4 (Option.some FieldType.float) 1 := ⟨rfl, jgS q_678 q_679 q_9 q_680, by decide, by decide, by decide +kernel⟩
theorem g_X8_81 : jGV RX8 81 yX8_know cX8_know 2 (none : Option FieldType) 0 := ⟨jgV q_687 q_689 q_p2 q_9 q_690, by decide, by decide, by decide +kernel⟩
theorem g_L_21 : jGV RL 21 yX8_setNumber cX8_setNumber 4 (some .int) 2 := ⟨jgV q_691 q_692 q_693 q_9 q_694, by decide, by decide, by decide +kernel⟩
theorem g_L_26 : jGV RL 26 yX8_addMember cX8_addMember 3 (some .int) 1 := ⟨jgV q_695 q_696 q_697 q_9 q_698, by decide, by decide, by decide +kernel⟩
theorem g_X8_84 : jGS RX8 84 yX8_ofMember cX8_ofMember 2 (some .int) 2 := ⟨rfl, jgS q_699 q_700 q_9 q_701, by decide, by decide, by decide +kernel⟩
theorem g_L_30 : jGV RL 30 yX8_payDues cX8_payDues 3 (some .int) 2 := ⟨jgV q_702 q_703 q_704 q_9 q_705, by decide, by decide, by decide +kernel⟩
theorem g_X8_87 : jGV RX8 87 yX8_isMember cX8_isMember 2 (Option.some FieldType.boolean) 1 := ⟨jgV q_706 q_708 q_p3 q_9 q_709, by decide, by decide, by decide +kernel⟩
theorem g_L_35 : jGV RL 35 yX8_addInvoice cX8_addInvoice 6 (some .int) 4 := ⟨jgV q_712 q_713 q_714 q_9 q_715, by decide, by decide, by decide +kernel⟩
theorem g_X8_93 : jGS RX8 93 yX8_isClient cX8_isClient 1 (Option.some FieldType.boolean) 1 := ⟨rfl, jgS q_716 q_717 q_9 q_718, by decide, by decide, by decide +kernel⟩
theorem g_X8_59 : jGS RX8 59 yX8_of cX8_of 2 (some .int) 2 := ⟨rfl, jgS q_719 q_720 q_9 q_721, by decide, by decide, by decide +kernel⟩
theorem g_L_39 : jGV RL 39 yX8_payAhead cX8_payAhead 3 (some .int) 1 := ⟨jgV q_722 q_723 q_724 q_9 q_725, by decide, by decide, by decide +kernel⟩
theorem g_X8_105 : jGV RX8 105 yX8_isInvoice cX8_isInvoice 2 (Option.some FieldType.boolean) 1 := ⟨jgV q_726 q_728 q_p4 q_9 q_729, by decide, by decide, by decide +kernel⟩
theorem g_X8_108 : jGV RX8 108 yX8_mayAhead cX8_mayAhead 4 (Option.some FieldType.boolean) 1 := ⟨jgV q_730 q_732 q_p5 q_9 q_733, by decide, by decide, by decide +kernel⟩
theorem g_X8_75 : jGV RX8 75 yX8_offerBehind cX8_offerBehind 3 (some .int) 2 := ⟨jgV q_734 q_736 q_p6 q_9 q_737, by decide, by decide, by decide +kernel⟩
theorem g_X8_71 : jGV RX8 71 yX8_rateBehind cX8_rateBehind 5 (Option.some FieldType.float) 2 := ⟨jgV q_738 q_740 q_p7 q_9 q_741, by decide, by decide, by decide +kernel⟩
theorem g_X8_62 : jGV RX8 62 yX8_rateOf cX8_rateOf 2 (Option.some FieldType.float) 1 := ⟨jgV q_742 q_744 q_p8 q_9 q_745, by decide, by decide, by decide +kernel⟩
theorem g_X8_65 : jGV RX8 65 yX8_late cX8_late 4 (some .int) 2 := ⟨jgV q_746 q_748 q_p9 q_9 q_749, by decide, by decide, by decide +kernel⟩
theorem g_X8_68 : jGV RX8 68 yX8_riskOf cX8_riskOf 3 (Option.some FieldType.float) 1 := ⟨jgV q_750 q_752 q_p10 q_9 q_753, by decide, by decide, by decide +kernel⟩
theorem g_X8_55 : jGS RX8 55 yX8_ofClient cX8_ofClient 2 (some .int) 2 := ⟨rfl, jgS q_754 q_755 q_9 q_756, by decide, by decide, by decide +kernel⟩
theorem g_X8_102 : jGV RX8 102 yX8_reserve cX8_reserve 1 (some .int) 0 := ⟨jgV q_757 q_759 q_p11 q_9 q_760, by decide, by decide, by decide +kernel⟩
theorem g_X8_96 : jGV RX8 96 yX8_allDues cX8_allDues 3 (some .int) 0 := ⟨jgV q_761 q_763 q_p12 q_9 q_764, by decide, by decide, by decide +kernel⟩
theorem g_L_43 : jGV RL 43 yX8_pay cX8_pay 4 (some .int) 2 := ⟨jgV q_766 q_767 q_768 q_9 q_769, by decide, by decide, by decide +kernel⟩
theorem g_X8_111 : jGV RX8 111 yX8_payFault cX8_payFault 3 (some .int) 2 := ⟨jgV q_770 q_772 q_p13 q_9 q_773, by decide, by decide, by decide +kernel⟩
theorem g_X8_114 : jGV RX8 114 yX8_pays cX8_pays 9 (some .int) 2 := ⟨jgV q_774 q_776 q_p14 q_9 q_777, by decide, by decide, by decide +kernel⟩
theorem g_L_47 : jGV RL 47 yX8_giveUp cX8_giveUp 3 (some .int) 1 := ⟨jgV q_778 q_779 q_780 q_9 q_781, by decide, by decide, by decide +kernel⟩
theorem g_X8_117 : jGV RX8 117 yX8_mayGiveUp cX8_mayGiveUp 2 (Option.some FieldType.boolean) 1 := ⟨jgV q_782 q_784 q_p15 q_9 q_785, by decide, by decide, by decide +kernel⟩
theorem g_X8_120 : jGV RX8 120 yX8_share cX8_share 7 (none : Option FieldType) 1 := ⟨jgV q_786 q_788 q_p16 q_9 q_789, by decide, by decide, by decide +kernel⟩
theorem g_L_52 : jGV RL 52 yX8_readPayments cX8_readPayments 3 (some .int) 0 := ⟨jgV q_790 q_791 q_792 q_9 q_793, by decide, by decide, by decide +kernel⟩
theorem g_X8_146 : jGV RX8 146 yX8_go cX8_go 8 (some .int) 1 := ⟨jgV q_794 q_796 q_p17 q_9 q_797, by decide, by decide, by decide +kernel⟩
theorem g_X8_143 : jGV RX8 143 yX8_number cX8_number 5 (some .int) 2 := ⟨jgV q_798 q_800 q_p18 q_9 q_801, by decide, by decide, by decide +kernel⟩
theorem g_X8_134 : jGV RX8 134 yX8_sign cX8_sign 4 (some .int) 2 := ⟨jgV q_802 q_804 q_p19 q_9 q_805, by decide, by decide, by decide +kernel⟩
theorem g_X8_150 : jGV RX8 150 yX8_swap cX8_swap 3 (none : Option FieldType) 0 := ⟨jgV q_806 q_808 q_p20 q_9 q_809, by decide, by decide, by decide +kernel⟩
theorem g_L_56 : jGV RL 56 yX8_refusal cX8_refusal 2 (some .int) 1 := ⟨jgV q_810 q_811 q_812 q_9 q_813, by decide, by decide, by decide +kernel⟩
theorem g_L_60 : jGV RL 60 yX8_pass cX8_pass 2 (some .int) 1 := ⟨jgV q_814 q_815 q_816 q_9 q_817, by decide, by decide, by decide +kernel⟩
theorem g_L_65 : jGV RL 65 yX8_type cX8_type 2 (some .int) 1 := ⟨jgV q_819 q_820 q_821 q_9 q_822, by decide, by decide, by decide +kernel⟩
theorem g_L_69 : jGV RL 69 yX8_clearText cX8_clearText 2 (some .int) 0 := ⟨jgV q_823 q_824 q_825 q_9 q_826, by decide, by decide, by decide +kernel⟩
theorem g_L_73 : jGV RL 73 yX8_undo cX8_undo 2 (some .int) 0 := ⟨jgV q_827 q_828 q_829 q_9 q_830, by decide, by decide, by decide +kernel⟩
theorem g_L_77 : jGV RL 77 yX8_keep cX8_keep 2 (some .int) 0 := ⟨jgV q_831 q_832 q_833 q_9 q_834, by decide, by decide, by decide +kernel⟩
theorem g_L_81 : jGV RL 81 yX8_restore cX8_restore 2 (some .int) 0 := ⟨jgV q_835 q_836 q_837 q_9 q_838, by decide, by decide, by decide +kernel⟩
theorem g_L_86 : jGV RL 86 yX8_rate cX8_rate 2 (Option.some FieldType.float) 1 := ⟨jgV q_839 q_840 q_841 q_9 q_842, by decide, by decide, by decide +kernel⟩
theorem g_X8_157 : jGS RX8 157 yX8_nan cX8_nan 0 (Option.some FieldType.float) 0 := ⟨rfl, jgS q_843 q_844 q_9 q_845, by decide, by decide, by decide +kernel⟩
theorem g_L_90 : jGV RL 90 yX8_number_ cX8_number_ 2 (some .int) 1 := ⟨jgV q_847 q_848 q_849 q_9 q_850, by decide, by decide, by decide +kernel⟩
theorem g_L_94 : jGV RL 94 yX8_member cX8_member 3 (some .int) 2 := ⟨jgV q_851 q_852 q_853 q_9 q_854, by decide, by decide, by decide +kernel⟩
theorem g_X8_162 : jGV RX8 162 yX8_invoices cX8_invoices 7 (some .int) 4 := ⟨jgV q_856 q_858 q_p21 q_9 q_859, by decide, by decide, by decide +kernel⟩
theorem g_L_98 : jGV RL 98 yX8_client cX8_client 3 (some .int) 2 := ⟨jgV q_860 q_861 q_862 q_9 q_863, by decide, by decide, by decide +kernel⟩
theorem g_L_102 : jGV RL 102 yX8_risk cX8_risk 2 (Option.some FieldType.float) 1 := ⟨jgV q_864 q_865 q_866 q_9 q_867, by decide, by decide, by decide +kernel⟩
theorem g_L_106 : jGV RL 106 yX8_lateness cX8_lateness 3 (Option.some FieldType.float) 1 := ⟨jgV q_868 q_869 q_870 q_9 q_871, by decide, by decide, by decide +kernel⟩
theorem g_L_110 : jGV RL 110 yX8_invoice cX8_invoice 3 (some .int) 2 := ⟨jgV q_872 q_873 q_874 q_9 q_875, by decide, by decide, by decide +kernel⟩
theorem g_L_115 : jGV RL 115 yX8_rateIn cX8_rateIn 3 (Option.some FieldType.float) 2 := ⟨jgV q_877 q_878 q_879 q_9 q_880, by decide, by decide, by decide +kernel⟩
theorem g_L_119 : jGV RL 119 yX8_worth cX8_worth 2 (Option.some FieldType.float) 1 := ⟨jgV q_881 q_882 q_883 q_9 q_884, by decide, by decide, by decide +kernel⟩
theorem g_X8_167 : jGV RX8 167 yX8_worthOf cX8_worthOf 5 (Option.some FieldType.float) 1 := ⟨jgV q_885 q_887 q_p22 q_9 q_888, by decide, by decide, by decide +kernel⟩
theorem g_L_123 : jGV RL 123 yX8_best cX8_best 5 (some .int) 1 := ⟨jgV q_889 q_890 q_891 q_9 q_892, by decide, by decide, by decide +kernel⟩
theorem g_L_127 : jGV RL 127 yX8_worthlessIn cX8_worthlessIn 3 (some .int) 1 := ⟨jgV q_893 q_894 q_895 q_9 q_896, by decide, by decide, by decide +kernel⟩
theorem g_L_132 : jGV RL 132 yX8_exposure cX8_exposure 3 (Option.some FieldType.float) 0 := ⟨jgV q_897 q_898 q_899 q_9 q_900, by decide, by decide, by decide +kernel⟩
theorem g_L_136 : jGV RL 136 yX8_count cX8_count 2 (some .int) 1 := ⟨jgV q_901 q_902 q_903 q_9 q_904, by decide, by decide, by decide +kernel⟩
theorem g_X0_11 : jGIN RX0 11 yX4_init RX7 cX4_init 1 0 := ⟨rfl, List.mem_of_getElem? (i := 0) rfl, jgI q_28, q_3, q_27, by decide, by decide, by decide +kernel⟩
theorem g_X0_20 : jGIN RX0 20 yX1_init RX7 cX1_init 1 0 := ⟨rfl, List.mem_of_getElem? (i := 1) rfl, jgI q_57, q_4, q_56, by decide, by decide, by decide +kernel⟩
theorem g_X0_27 : jGIN RX0 27 yX3_init RX7 cX3_init 1 0 := ⟨rfl, List.mem_of_getElem? (i := 2) rfl, jgI q_76, q_5, q_75, by decide, by decide, by decide +kernel⟩
theorem g_X7_31 : jGIN RX7 31 yX6_init RX7 cX6_init 1 0 := ⟨rfl, List.mem_of_getElem? (i := 3) rfl, jgI q_191, q_7, q_190, by decide, by decide, by decide +kernel⟩
theorem g_X7_38 : jGIN RX7 38 yX5_init RX7 cX5_init 1 0 := ⟨rfl, List.mem_of_getElem? (i := 4) rfl, jgI q_216, q_8, q_215, by decide, by decide, by decide +kernel⟩
theorem g_X4_32 : jGSN RX4 32 yX7_copyRow RX7 cX7_copyRow 3 (none : Option FieldType) 2 := ⟨List.mem_of_getElem? (i := 5) rfl, q_291, q_1, jgI q_292, by decide, by decide, by decide +kernel⟩
theorem g_X1_29 : jGSN RX1 29 yX7_copyRow RX7 cX7_copyRow 3 (none : Option FieldType) 2 := ⟨List.mem_of_getElem? (i := 6) rfl, q_291, q_1, jgI q_292, by decide, by decide, by decide +kernel⟩
theorem g_X3_44 : jGSN RX3 44 yX7_copyRow RX7 cX7_copyRow 3 (none : Option FieldType) 2 := ⟨List.mem_of_getElem? (i := 7) rfl, q_291, q_1, jgI q_292, by decide, by decide, by decide +kernel⟩
theorem g_X0_162 : jGSN RX0 162 yX7_copyRow RX7 cX7_copyRow 3 (none : Option FieldType) 2 := ⟨List.mem_of_getElem? (i := 8) rfl, q_291, q_1, jgI q_292, by decide, by decide, by decide +kernel⟩
theorem g_X0_64 : jGSN RX0 64 yX7_noNumber RX7 cX7_noNumber 0 (Option.some FieldType.float) 0 := ⟨List.mem_of_getElem? (i := 9) rfl, q_368, q_1, jgI q_369, by decide, by decide, by decide +kernel⟩
theorem g_X1_25 : jGSN RX1 25 yX7_noNumber RX7 cX7_noNumber 0 (Option.some FieldType.float) 0 := ⟨List.mem_of_getElem? (i := 10) rfl, q_368, q_1, jgI q_369, by decide, by decide, by decide +kernel⟩
end
section
abbrev jB : Type := Nat → Nat → Int32
def up2 (B : jB) (r k : Nat) (v : Int32) : jB := fun r1 => cond (Nat.beq r1 r) (upd (B r) k v) (B r1)
def up3 (K : Nat → jB) (b r k : Nat) (v : Int32) : Nat → jB := fun b1 => cond (Nat.beq b1 b) (up2 (K b) r k v) (K b1)
def up1 (K : Nat → jB) (b : Nat) (B : jB) : Nat → jB := fun b1 => cond (Nat.beq b1 b) B (K b1)
def mbW (ca : Nat → ClassId) (g : Nat → Nat) (B : jB) : va_W := [(g 1, .inr (4, [.ref (g 6), .ref (g 7), .ref (g 8), .ref (g 9), .int (B 16 0)])), (g 6, .inl (ca 0, 8, .inl (B 0))), (g 7, .inl (ca 0, 8, .inl (B 1))), (g 8, .inl (ca 0, 8, .inl (B 2))), (g 9, .inl (ca 0, 8, .inl (B 3)))]
theorem mbW_0 {ca : Nat → ClassId} {g : Nat → Nat} {B : jB} : (mbW ca g B)[0]? = some (g 1, .inr (4, [.ref (g 6), .ref (g 7), .ref (g 8), .ref (g 9), .int (B 16 0)])) := rfl
theorem mbW_1 {ca : Nat → ClassId} {g : Nat → Nat} {B : jB} : (mbW ca g B)[1]? = some (g 6, .inl (ca 0, 8, .inl (B 0))) := rfl
theorem mbW_2 {ca : Nat → ClassId} {g : Nat → Nat} {B : jB} : (mbW ca g B)[2]? = some (g 7, .inl (ca 0, 8, .inl (B 1))) := rfl
theorem mbW_3 {ca : Nat → ClassId} {g : Nat → Nat} {B : jB} : (mbW ca g B)[3]? = some (g 8, .inl (ca 0, 8, .inl (B 2))) := rfl
theorem mbW_4 {ca : Nat → ClassId} {g : Nat → Nat} {B : jB} : (mbW ca g B)[4]? = some (g 9, .inl (ca 0, 8, .inl (B 3))) := rfl
def clW (ca : Nat → ClassId) (g : Nat → Nat) (B : jB) : va_W := [(g 2, .inr (1, [.ref (g 10), .ref (g 11), .ref (g 12)])), (g 10, .inl (ca 0, 6, .inl (B 4))), (g 11, .inl (ca 0, 6, .inl (B 5))), (g 12, .inl (ca 0, 6, .inl (B 6)))]
theorem clW_0 {ca : Nat → ClassId} {g : Nat → Nat} {B : jB} : (clW ca g B)[0]? = some (g 2, .inr (1, [.ref (g 10), .ref (g 11), .ref (g 12)])) := rfl
theorem clW_1 {ca : Nat → ClassId} {g : Nat → Nat} {B : jB} : (clW ca g B)[1]? = some (g 10, .inl (ca 0, 6, .inl (B 4))) := rfl
theorem clW_2 {ca : Nat → ClassId} {g : Nat → Nat} {B : jB} : (clW ca g B)[2]? = some (g 11, .inl (ca 0, 6, .inl (B 5))) := rfl
theorem clW_3 {ca : Nat → ClassId} {g : Nat → Nat} {B : jB} : (clW ca g B)[3]? = some (g 12, .inl (ca 0, 6, .inl (B 6))) := rfl
def ivW (ca : Nat → ClassId) (g : Nat → Nat) (B : jB) : va_W := [(g 3, .inr (3, [.ref (g 13), .ref (g 14), .ref (g 15), .ref (g 16), .ref (g 17), .ref (g 18), .ref (g 19), .int (B 16 1)])), (g 13, .inl (ca 0, 20, .inl (B 7))), (g 14, .inl (ca 0, 20, .inl (B 8))), (g 15, .inl (ca 0, 20, .inl (B 9))), (g 16, .inl (ca 0, 20, .inl (B 10))), (g 17, .inl (ca 0, 20, .inl (B 11))), (g 18, .inl (ca 0, 20, .inl (B 12))), (g 19, .inl (ca 0, 20, .inl (B 13)))]
theorem ivW_0 {ca : Nat → ClassId} {g : Nat → Nat} {B : jB} : (ivW ca g B)[0]? = some (g 3, .inr (3, [.ref (g 13), .ref (g 14), .ref (g 15), .ref (g 16), .ref (g 17), .ref (g 18), .ref (g 19), .int (B 16 1)])) := rfl
theorem ivW_1 {ca : Nat → ClassId} {g : Nat → Nat} {B : jB} : (ivW ca g B)[1]? = some (g 13, .inl (ca 0, 20, .inl (B 7))) := rfl
theorem ivW_2 {ca : Nat → ClassId} {g : Nat → Nat} {B : jB} : (ivW ca g B)[2]? = some (g 14, .inl (ca 0, 20, .inl (B 8))) := rfl
theorem ivW_3 {ca : Nat → ClassId} {g : Nat → Nat} {B : jB} : (ivW ca g B)[3]? = some (g 15, .inl (ca 0, 20, .inl (B 9))) := rfl
theorem ivW_4 {ca : Nat → ClassId} {g : Nat → Nat} {B : jB} : (ivW ca g B)[4]? = some (g 16, .inl (ca 0, 20, .inl (B 10))) := rfl
theorem ivW_5 {ca : Nat → ClassId} {g : Nat → Nat} {B : jB} : (ivW ca g B)[5]? = some (g 17, .inl (ca 0, 20, .inl (B 11))) := rfl
theorem ivW_6 {ca : Nat → ClassId} {g : Nat → Nat} {B : jB} : (ivW ca g B)[6]? = some (g 18, .inl (ca 0, 20, .inl (B 12))) := rfl
theorem ivW_7 {ca : Nat → ClassId} {g : Nat → Nat} {B : jB} : (ivW ca g B)[7]? = some (g 19, .inl (ca 0, 20, .inl (B 13))) := rfl
def bkW (ca : Nat → ClassId) (g : Nat → Nat) (B : jB) : va_W := [(g 0, .inr (0, [.ref (g 1), .ref (g 2), .ref (g 3), .ref (g 4), .ref (g 5), .int (B 16 2), .int (B 16 3), .int (B 16 4), .int (B 16 5), .int (B 16 6), .int (B 16 7)])), (g 1, .inr (4, [.ref (g 6), .ref (g 7), .ref (g 8), .ref (g 9), .int (B 16 0)])), (g 2, .inr (1, [.ref (g 10), .ref (g 11), .ref (g 12)])), (g 3, .inr (3, [.ref (g 13), .ref (g 14), .ref (g 15), .ref (g 16), .ref (g 17), .ref (g 18), .ref (g 19), .int (B 16 1)])), (g 4, .inl (ca 1, 3, .inr (.inr (.inl (fun k => (B 15 k).toUInt32))))), (g 5, .inl (ca 0, 3, .inl (B 14))), (g 6, .inl (ca 0, 8, .inl (B 0))), (g 7, .inl (ca 0, 8, .inl (B 1))), (g 8, .inl (ca 0, 8, .inl (B 2))), (g 9, .inl (ca 0, 8, .inl (B 3))), (g 10, .inl (ca 0, 6, .inl (B 4))), (g 11, .inl (ca 0, 6, .inl (B 5))), (g 12, .inl (ca 0, 6, .inl (B 6))), (g 13, .inl (ca 0, 20, .inl (B 7))), (g 14, .inl (ca 0, 20, .inl (B 8))), (g 15, .inl (ca 0, 20, .inl (B 9))), (g 16, .inl (ca 0, 20, .inl (B 10))), (g 17, .inl (ca 0, 20, .inl (B 11))), (g 18, .inl (ca 0, 20, .inl (B 12))), (g 19, .inl (ca 0, 20, .inl (B 13)))]
theorem bkW_0 {ca : Nat → ClassId} {g : Nat → Nat} {B : jB} : (bkW ca g B)[0]? = some (g 0, .inr (0, [.ref (g 1), .ref (g 2), .ref (g 3), .ref (g 4), .ref (g 5), .int (B 16 2), .int (B 16 3), .int (B 16 4), .int (B 16 5), .int (B 16 6), .int (B 16 7)])) := rfl
theorem bkW_1 {ca : Nat → ClassId} {g : Nat → Nat} {B : jB} : (bkW ca g B)[1]? = some (g 1, .inr (4, [.ref (g 6), .ref (g 7), .ref (g 8), .ref (g 9), .int (B 16 0)])) := rfl
theorem bkW_2 {ca : Nat → ClassId} {g : Nat → Nat} {B : jB} : (bkW ca g B)[2]? = some (g 2, .inr (1, [.ref (g 10), .ref (g 11), .ref (g 12)])) := rfl
theorem bkW_3 {ca : Nat → ClassId} {g : Nat → Nat} {B : jB} : (bkW ca g B)[3]? = some (g 3, .inr (3, [.ref (g 13), .ref (g 14), .ref (g 15), .ref (g 16), .ref (g 17), .ref (g 18), .ref (g 19), .int (B 16 1)])) := rfl
theorem bkW_4 {ca : Nat → ClassId} {g : Nat → Nat} {B : jB} : (bkW ca g B)[4]? = some (g 4, .inl (ca 1, 3, .inr (.inr (.inl (fun k => (B 15 k).toUInt32))))) := rfl
theorem bkW_5 {ca : Nat → ClassId} {g : Nat → Nat} {B : jB} : (bkW ca g B)[5]? = some (g 5, .inl (ca 0, 3, .inl (B 14))) := rfl
theorem bkW_6 {ca : Nat → ClassId} {g : Nat → Nat} {B : jB} : (bkW ca g B)[6]? = some (g 6, .inl (ca 0, 8, .inl (B 0))) := rfl
theorem bkW_7 {ca : Nat → ClassId} {g : Nat → Nat} {B : jB} : (bkW ca g B)[7]? = some (g 7, .inl (ca 0, 8, .inl (B 1))) := rfl
theorem bkW_8 {ca : Nat → ClassId} {g : Nat → Nat} {B : jB} : (bkW ca g B)[8]? = some (g 8, .inl (ca 0, 8, .inl (B 2))) := rfl
theorem bkW_9 {ca : Nat → ClassId} {g : Nat → Nat} {B : jB} : (bkW ca g B)[9]? = some (g 9, .inl (ca 0, 8, .inl (B 3))) := rfl
theorem bkW_10 {ca : Nat → ClassId} {g : Nat → Nat} {B : jB} : (bkW ca g B)[10]? = some (g 10, .inl (ca 0, 6, .inl (B 4))) := rfl
theorem bkW_11 {ca : Nat → ClassId} {g : Nat → Nat} {B : jB} : (bkW ca g B)[11]? = some (g 11, .inl (ca 0, 6, .inl (B 5))) := rfl
theorem bkW_12 {ca : Nat → ClassId} {g : Nat → Nat} {B : jB} : (bkW ca g B)[12]? = some (g 12, .inl (ca 0, 6, .inl (B 6))) := rfl
theorem bkW_13 {ca : Nat → ClassId} {g : Nat → Nat} {B : jB} : (bkW ca g B)[13]? = some (g 13, .inl (ca 0, 20, .inl (B 7))) := rfl
theorem bkW_14 {ca : Nat → ClassId} {g : Nat → Nat} {B : jB} : (bkW ca g B)[14]? = some (g 14, .inl (ca 0, 20, .inl (B 8))) := rfl
theorem bkW_15 {ca : Nat → ClassId} {g : Nat → Nat} {B : jB} : (bkW ca g B)[15]? = some (g 15, .inl (ca 0, 20, .inl (B 9))) := rfl
theorem bkW_16 {ca : Nat → ClassId} {g : Nat → Nat} {B : jB} : (bkW ca g B)[16]? = some (g 16, .inl (ca 0, 20, .inl (B 10))) := rfl
theorem bkW_17 {ca : Nat → ClassId} {g : Nat → Nat} {B : jB} : (bkW ca g B)[17]? = some (g 17, .inl (ca 0, 20, .inl (B 11))) := rfl
theorem bkW_18 {ca : Nat → ClassId} {g : Nat → Nat} {B : jB} : (bkW ca g B)[18]? = some (g 18, .inl (ca 0, 20, .inl (B 12))) := rfl
theorem bkW_19 {ca : Nat → ClassId} {g : Nat → Nat} {B : jB} : (bkW ca g B)[19]? = some (g 19, .inl (ca 0, 20, .inl (B 13))) := rfl
def txW (ca : Nat → ClassId) (g : Nat → Nat) (K : Nat → jB) : va_W := [(g 3, .inr (6, [.ref (g 4), .ref (g 5), .ref (g 6), .int (K 7 5 0), .int (K 7 5 1)])), (g 4, .inl (ca 2, 60, .inl (K 7 0))), (g 5, .inl (ca 0, 60, .inl (K 7 1))), (g 6, .inl (ca 0, 60, .inl (K 7 2)))]
theorem txW_0 {ca : Nat → ClassId} {g : Nat → Nat} {K : Nat → jB} : (txW ca g K)[0]? = some (g 3, .inr (6, [.ref (g 4), .ref (g 5), .ref (g 6), .int (K 7 5 0), .int (K 7 5 1)])) := rfl
theorem txW_1 {ca : Nat → ClassId} {g : Nat → Nat} {K : Nat → jB} : (txW ca g K)[1]? = some (g 4, .inl (ca 2, 60, .inl (K 7 0))) := rfl
theorem txW_2 {ca : Nat → ClassId} {g : Nat → Nat} {K : Nat → jB} : (txW ca g K)[2]? = some (g 5, .inl (ca 0, 60, .inl (K 7 1))) := rfl
theorem txW_3 {ca : Nat → ClassId} {g : Nat → Nat} {K : Nat → jB} : (txW ca g K)[3]? = some (g 6, .inl (ca 0, 60, .inl (K 7 2))) := rfl
def rkW (ca : Nat → ClassId) (g : Nat → Nat) (K : Nat → jB) : va_W := [(g 7, .inr (5, [.ref (g 8), .ref (g 9), .int (K 7 5 4)])), (g 8, .inl (ca 0, 20, .inl (K 7 3))), (g 9, .inl (ca 1, 20, .inr (.inr (.inl (fun k => (K 7 4 k).toUInt32)))))]
theorem rkW_0 {ca : Nat → ClassId} {g : Nat → Nat} {K : Nat → jB} : (rkW ca g K)[0]? = some (g 7, .inr (5, [.ref (g 8), .ref (g 9), .int (K 7 5 4)])) := rfl
theorem rkW_1 {ca : Nat → ClassId} {g : Nat → Nat} {K : Nat → jB} : (rkW ca g K)[1]? = some (g 8, .inl (ca 0, 20, .inl (K 7 3))) := rfl
theorem rkW_2 {ca : Nat → ClassId} {g : Nat → Nat} {K : Nat → jB} : (rkW ca g K)[2]? = some (g 9, .inl (ca 1, 20, .inr (.inr (.inl (fun k => (K 7 4 k).toUInt32))))) := rfl
def fW0 (ca : Nat → ClassId) (g : Nat → Nat) (K : Nat → jB) : va_W := [(g 0, .inr (7, [.ref (g 10), .ref (g 30), .ref (g 50), .ref (g 1), .ref (g 3), .ref (g 7), .int (K 7 5 5), .int (K 7 5 6), .int (K 7 5 7)])), (g 1, .inr (2, [.ref (g 2), .int (K 7 5 2), .int (K 7 5 3)])), (g 2, .inl (ca 3, 4, .inr (.inr (.inr (.inr (fun k => some (g (70 + 20 * k)))))))), (g 3, .inr (6, [.ref (g 4), .ref (g 5), .ref (g 6), .int (K 7 5 0), .int (K 7 5 1)])), (g 4, .inl (ca 2, 60, .inl (K 7 0))), (g 5, .inl (ca 0, 60, .inl (K 7 1))), (g 6, .inl (ca 0, 60, .inl (K 7 2))), (g 7, .inr (5, [.ref (g 8), .ref (g 9), .int (K 7 5 4)])), (g 8, .inl (ca 0, 20, .inl (K 7 3))), (g 9, .inl (ca 1, 20, .inr (.inr (.inl (fun k => (K 7 4 k).toUInt32)))))]
def fW (ca : Nat → ClassId) (g : Nat → Nat) (K : Nat → jB) : va_W := [(g 0, .inr (7, [.ref (g 10), .ref (g 30), .ref (g 50), .ref (g 1), .ref (g 3), .ref (g 7), .int (K 7 5 5), .int (K 7 5 6), .int (K 7 5 7)])), (g 1, .inr (2, [.ref (g 2), .int (K 7 5 2), .int (K 7 5 3)])), (g 2, .inl (ca 3, 4, .inr (.inr (.inr (.inr (fun k => some (g (70 + 20 * k)))))))), (g 3, .inr (6, [.ref (g 4), .ref (g 5), .ref (g 6), .int (K 7 5 0), .int (K 7 5 1)])), (g 4, .inl (ca 2, 60, .inl (K 7 0))), (g 5, .inl (ca 0, 60, .inl (K 7 1))), (g 6, .inl (ca 0, 60, .inl (K 7 2))), (g 7, .inr (5, [.ref (g 8), .ref (g 9), .int (K 7 5 4)])), (g 8, .inl (ca 0, 20, .inl (K 7 3))), (g 9, .inl (ca 1, 20, .inr (.inr (.inl (fun k => (K 7 4 k).toUInt32))))), (g 10, .inr (0, [.ref (g 11), .ref (g 12), .ref (g 13), .ref (g 14), .ref (g 15), .int (K 0 16 2), .int (K 0 16 3), .int (K 0 16 4), .int (K 0 16 5), .int (K 0 16 6), .int (K 0 16 7)])), (g 11, .inr (4, [.ref (g 16), .ref (g 17), .ref (g 18), .ref (g 19), .int (K 0 16 0)])), (g 12, .inr (1, [.ref (g 20), .ref (g 21), .ref (g 22)])), (g 13, .inr (3, [.ref (g 23), .ref (g 24), .ref (g 25), .ref (g 26), .ref (g 27), .ref (g 28), .ref (g 29), .int (K 0 16 1)])), (g 14, .inl (ca 1, 3, .inr (.inr (.inl (fun k => (K 0 15 k).toUInt32))))), (g 15, .inl (ca 0, 3, .inl (K 0 14))), (g 16, .inl (ca 0, 8, .inl (K 0 0))), (g 17, .inl (ca 0, 8, .inl (K 0 1))), (g 18, .inl (ca 0, 8, .inl (K 0 2))), (g 19, .inl (ca 0, 8, .inl (K 0 3))), (g 20, .inl (ca 0, 6, .inl (K 0 4))), (g 21, .inl (ca 0, 6, .inl (K 0 5))), (g 22, .inl (ca 0, 6, .inl (K 0 6))), (g 23, .inl (ca 0, 20, .inl (K 0 7))), (g 24, .inl (ca 0, 20, .inl (K 0 8))), (g 25, .inl (ca 0, 20, .inl (K 0 9))), (g 26, .inl (ca 0, 20, .inl (K 0 10))), (g 27, .inl (ca 0, 20, .inl (K 0 11))), (g 28, .inl (ca 0, 20, .inl (K 0 12))), (g 29, .inl (ca 0, 20, .inl (K 0 13))), (g 30, .inr (0, [.ref (g 31), .ref (g 32), .ref (g 33), .ref (g 34), .ref (g 35), .int (K 1 16 2), .int (K 1 16 3), .int (K 1 16 4), .int (K 1 16 5), .int (K 1 16 6), .int (K 1 16 7)])), (g 31, .inr (4, [.ref (g 36), .ref (g 37), .ref (g 38), .ref (g 39), .int (K 1 16 0)])), (g 32, .inr (1, [.ref (g 40), .ref (g 41), .ref (g 42)])), (g 33, .inr (3, [.ref (g 43), .ref (g 44), .ref (g 45), .ref (g 46), .ref (g 47), .ref (g 48), .ref (g 49), .int (K 1 16 1)])), (g 34, .inl (ca 1, 3, .inr (.inr (.inl (fun k => (K 1 15 k).toUInt32))))), (g 35, .inl (ca 0, 3, .inl (K 1 14))), (g 36, .inl (ca 0, 8, .inl (K 1 0))), (g 37, .inl (ca 0, 8, .inl (K 1 1))), (g 38, .inl (ca 0, 8, .inl (K 1 2))), (g 39, .inl (ca 0, 8, .inl (K 1 3))), (g 40, .inl (ca 0, 6, .inl (K 1 4))), (g 41, .inl (ca 0, 6, .inl (K 1 5))), (g 42, .inl (ca 0, 6, .inl (K 1 6))), (g 43, .inl (ca 0, 20, .inl (K 1 7))), (g 44, .inl (ca 0, 20, .inl (K 1 8))), (g 45, .inl (ca 0, 20, .inl (K 1 9))), (g 46, .inl (ca 0, 20, .inl (K 1 10))), (g 47, .inl (ca 0, 20, .inl (K 1 11))), (g 48, .inl (ca 0, 20, .inl (K 1 12))), (g 49, .inl (ca 0, 20, .inl (K 1 13))), (g 50, .inr (0, [.ref (g 51), .ref (g 52), .ref (g 53), .ref (g 54), .ref (g 55), .int (K 2 16 2), .int (K 2 16 3), .int (K 2 16 4), .int (K 2 16 5), .int (K 2 16 6), .int (K 2 16 7)])), (g 51, .inr (4, [.ref (g 56), .ref (g 57), .ref (g 58), .ref (g 59), .int (K 2 16 0)])), (g 52, .inr (1, [.ref (g 60), .ref (g 61), .ref (g 62)])), (g 53, .inr (3, [.ref (g 63), .ref (g 64), .ref (g 65), .ref (g 66), .ref (g 67), .ref (g 68), .ref (g 69), .int (K 2 16 1)])), (g 54, .inl (ca 1, 3, .inr (.inr (.inl (fun k => (K 2 15 k).toUInt32))))), (g 55, .inl (ca 0, 3, .inl (K 2 14))), (g 56, .inl (ca 0, 8, .inl (K 2 0))), (g 57, .inl (ca 0, 8, .inl (K 2 1))), (g 58, .inl (ca 0, 8, .inl (K 2 2))), (g 59, .inl (ca 0, 8, .inl (K 2 3))), (g 60, .inl (ca 0, 6, .inl (K 2 4))), (g 61, .inl (ca 0, 6, .inl (K 2 5))), (g 62, .inl (ca 0, 6, .inl (K 2 6))), (g 63, .inl (ca 0, 20, .inl (K 2 7))), (g 64, .inl (ca 0, 20, .inl (K 2 8))), (g 65, .inl (ca 0, 20, .inl (K 2 9))), (g 66, .inl (ca 0, 20, .inl (K 2 10))), (g 67, .inl (ca 0, 20, .inl (K 2 11))), (g 68, .inl (ca 0, 20, .inl (K 2 12))), (g 69, .inl (ca 0, 20, .inl (K 2 13))), (g 70, .inr (0, [.ref (g 71), .ref (g 72), .ref (g 73), .ref (g 74), .ref (g 75), .int (K 3 16 2), .int (K 3 16 3), .int (K 3 16 4), .int (K 3 16 5), .int (K 3 16 6), .int (K 3 16 7)])), (g 71, .inr (4, [.ref (g 76), .ref (g 77), .ref (g 78), .ref (g 79), .int (K 3 16 0)])), (g 72, .inr (1, [.ref (g 80), .ref (g 81), .ref (g 82)])), (g 73, .inr (3, [.ref (g 83), .ref (g 84), .ref (g 85), .ref (g 86), .ref (g 87), .ref (g 88), .ref (g 89), .int (K 3 16 1)])), (g 74, .inl (ca 1, 3, .inr (.inr (.inl (fun k => (K 3 15 k).toUInt32))))), (g 75, .inl (ca 0, 3, .inl (K 3 14))), (g 76, .inl (ca 0, 8, .inl (K 3 0))), (g 77, .inl (ca 0, 8, .inl (K 3 1))), (g 78, .inl (ca 0, 8, .inl (K 3 2))), (g 79, .inl (ca 0, 8, .inl (K 3 3))), (g 80, .inl (ca 0, 6, .inl (K 3 4))), (g 81, .inl (ca 0, 6, .inl (K 3 5))), (g 82, .inl (ca 0, 6, .inl (K 3 6))), (g 83, .inl (ca 0, 20, .inl (K 3 7))), (g 84, .inl (ca 0, 20, .inl (K 3 8))), (g 85, .inl (ca 0, 20, .inl (K 3 9))), (g 86, .inl (ca 0, 20, .inl (K 3 10))), (g 87, .inl (ca 0, 20, .inl (K 3 11))), (g 88, .inl (ca 0, 20, .inl (K 3 12))), (g 89, .inl (ca 0, 20, .inl (K 3 13))), (g 90, .inr (0, [.ref (g 91), .ref (g 92), .ref (g 93), .ref (g 94), .ref (g 95), .int (K 4 16 2), .int (K 4 16 3), .int (K 4 16 4), .int (K 4 16 5), .int (K 4 16 6), .int (K 4 16 7)])), (g 91, .inr (4, [.ref (g 96), .ref (g 97), .ref (g 98), .ref (g 99), .int (K 4 16 0)])), (g 92, .inr (1, [.ref (g 100), .ref (g 101), .ref (g 102)])), (g 93, .inr (3, [.ref (g 103), .ref (g 104), .ref (g 105), .ref (g 106), .ref (g 107), .ref (g 108), .ref (g 109), .int (K 4 16 1)])), (g 94, .inl (ca 1, 3, .inr (.inr (.inl (fun k => (K 4 15 k).toUInt32))))), (g 95, .inl (ca 0, 3, .inl (K 4 14))), (g 96, .inl (ca 0, 8, .inl (K 4 0))), (g 97, .inl (ca 0, 8, .inl (K 4 1))), (g 98, .inl (ca 0, 8, .inl (K 4 2))), (g 99, .inl (ca 0, 8, .inl (K 4 3))), (g 100, .inl (ca 0, 6, .inl (K 4 4))), (g 101, .inl (ca 0, 6, .inl (K 4 5))), (g 102, .inl (ca 0, 6, .inl (K 4 6))), (g 103, .inl (ca 0, 20, .inl (K 4 7))), (g 104, .inl (ca 0, 20, .inl (K 4 8))), (g 105, .inl (ca 0, 20, .inl (K 4 9))), (g 106, .inl (ca 0, 20, .inl (K 4 10))), (g 107, .inl (ca 0, 20, .inl (K 4 11))), (g 108, .inl (ca 0, 20, .inl (K 4 12))), (g 109, .inl (ca 0, 20, .inl (K 4 13))), (g 110, .inr (0, [.ref (g 111), .ref (g 112), .ref (g 113), .ref (g 114), .ref (g 115), .int (K 5 16 2), .int (K 5 16 3), .int (K 5 16 4), .int (K 5 16 5), .int (K 5 16 6), .int (K 5 16 7)])), (g 111, .inr (4, [.ref (g 116), .ref (g 117), .ref (g 118), .ref (g 119), .int (K 5 16 0)])), (g 112, .inr (1, [.ref (g 120), .ref (g 121), .ref (g 122)])), (g 113, .inr (3, [.ref (g 123), .ref (g 124), .ref (g 125), .ref (g 126), .ref (g 127), .ref (g 128), .ref (g 129), .int (K 5 16 1)])), (g 114, .inl (ca 1, 3, .inr (.inr (.inl (fun k => (K 5 15 k).toUInt32))))), (g 115, .inl (ca 0, 3, .inl (K 5 14))), (g 116, .inl (ca 0, 8, .inl (K 5 0))), (g 117, .inl (ca 0, 8, .inl (K 5 1))), (g 118, .inl (ca 0, 8, .inl (K 5 2))), (g 119, .inl (ca 0, 8, .inl (K 5 3))), (g 120, .inl (ca 0, 6, .inl (K 5 4))), (g 121, .inl (ca 0, 6, .inl (K 5 5))), (g 122, .inl (ca 0, 6, .inl (K 5 6))), (g 123, .inl (ca 0, 20, .inl (K 5 7))), (g 124, .inl (ca 0, 20, .inl (K 5 8))), (g 125, .inl (ca 0, 20, .inl (K 5 9))), (g 126, .inl (ca 0, 20, .inl (K 5 10))), (g 127, .inl (ca 0, 20, .inl (K 5 11))), (g 128, .inl (ca 0, 20, .inl (K 5 12))), (g 129, .inl (ca 0, 20, .inl (K 5 13))), (g 130, .inr (0, [.ref (g 131), .ref (g 132), .ref (g 133), .ref (g 134), .ref (g 135), .int (K 6 16 2), .int (K 6 16 3), .int (K 6 16 4), .int (K 6 16 5), .int (K 6 16 6), .int (K 6 16 7)])), (g 131, .inr (4, [.ref (g 136), .ref (g 137), .ref (g 138), .ref (g 139), .int (K 6 16 0)])), (g 132, .inr (1, [.ref (g 140), .ref (g 141), .ref (g 142)])), (g 133, .inr (3, [.ref (g 143), .ref (g 144), .ref (g 145), .ref (g 146), .ref (g 147), .ref (g 148), .ref (g 149), .int (K 6 16 1)])), (g 134, .inl (ca 1, 3, .inr (.inr (.inl (fun k => (K 6 15 k).toUInt32))))), (g 135, .inl (ca 0, 3, .inl (K 6 14))), (g 136, .inl (ca 0, 8, .inl (K 6 0))), (g 137, .inl (ca 0, 8, .inl (K 6 1))), (g 138, .inl (ca 0, 8, .inl (K 6 2))), (g 139, .inl (ca 0, 8, .inl (K 6 3))), (g 140, .inl (ca 0, 6, .inl (K 6 4))), (g 141, .inl (ca 0, 6, .inl (K 6 5))), (g 142, .inl (ca 0, 6, .inl (K 6 6))), (g 143, .inl (ca 0, 20, .inl (K 6 7))), (g 144, .inl (ca 0, 20, .inl (K 6 8))), (g 145, .inl (ca 0, 20, .inl (K 6 9))), (g 146, .inl (ca 0, 20, .inl (K 6 10))), (g 147, .inl (ca 0, 20, .inl (K 6 11))), (g 148, .inl (ca 0, 20, .inl (K 6 12))), (g 149, .inl (ca 0, 20, .inl (K 6 13)))]
theorem fW_0 {ca : Nat → ClassId} {g : Nat → Nat} {K : Nat → jB} : (fW ca g K)[0]? = some (g 0, .inr (7, [.ref (g 10), .ref (g 30), .ref (g 50), .ref (g 1), .ref (g 3), .ref (g 7), .int (K 7 5 5), .int (K 7 5 6), .int (K 7 5 7)])) := rfl
theorem fW_1 {ca : Nat → ClassId} {g : Nat → Nat} {K : Nat → jB} : (fW ca g K)[1]? = some (g 1, .inr (2, [.ref (g 2), .int (K 7 5 2), .int (K 7 5 3)])) := rfl
theorem fW_2 {ca : Nat → ClassId} {g : Nat → Nat} {K : Nat → jB} : (fW ca g K)[2]? = some (g 2, .inl (ca 3, 4, .inr (.inr (.inr (.inr (fun k => some (g (70 + 20 * k)))))))) := rfl
theorem fW_3 {ca : Nat → ClassId} {g : Nat → Nat} {K : Nat → jB} : (fW ca g K)[3]? = some (g 3, .inr (6, [.ref (g 4), .ref (g 5), .ref (g 6), .int (K 7 5 0), .int (K 7 5 1)])) := rfl
theorem fW_4 {ca : Nat → ClassId} {g : Nat → Nat} {K : Nat → jB} : (fW ca g K)[4]? = some (g 4, .inl (ca 2, 60, .inl (K 7 0))) := rfl
theorem fW_5 {ca : Nat → ClassId} {g : Nat → Nat} {K : Nat → jB} : (fW ca g K)[5]? = some (g 5, .inl (ca 0, 60, .inl (K 7 1))) := rfl
theorem fW_6 {ca : Nat → ClassId} {g : Nat → Nat} {K : Nat → jB} : (fW ca g K)[6]? = some (g 6, .inl (ca 0, 60, .inl (K 7 2))) := rfl
theorem fW_7 {ca : Nat → ClassId} {g : Nat → Nat} {K : Nat → jB} : (fW ca g K)[7]? = some (g 7, .inr (5, [.ref (g 8), .ref (g 9), .int (K 7 5 4)])) := rfl
theorem fW_8 {ca : Nat → ClassId} {g : Nat → Nat} {K : Nat → jB} : (fW ca g K)[8]? = some (g 8, .inl (ca 0, 20, .inl (K 7 3))) := rfl
theorem fW_9 {ca : Nat → ClassId} {g : Nat → Nat} {K : Nat → jB} : (fW ca g K)[9]? = some (g 9, .inl (ca 1, 20, .inr (.inr (.inl (fun k => (K 7 4 k).toUInt32))))) := rfl
theorem fW_10 {ca : Nat → ClassId} {g : Nat → Nat} {K : Nat → jB} : (fW ca g K)[10]? = some (g 10, .inr (0, [.ref (g 11), .ref (g 12), .ref (g 13), .ref (g 14), .ref (g 15), .int (K 0 16 2), .int (K 0 16 3), .int (K 0 16 4), .int (K 0 16 5), .int (K 0 16 6), .int (K 0 16 7)])) := rfl
theorem fW_11 {ca : Nat → ClassId} {g : Nat → Nat} {K : Nat → jB} : (fW ca g K)[11]? = some (g 11, .inr (4, [.ref (g 16), .ref (g 17), .ref (g 18), .ref (g 19), .int (K 0 16 0)])) := rfl
theorem fW_12 {ca : Nat → ClassId} {g : Nat → Nat} {K : Nat → jB} : (fW ca g K)[12]? = some (g 12, .inr (1, [.ref (g 20), .ref (g 21), .ref (g 22)])) := rfl
theorem fW_13 {ca : Nat → ClassId} {g : Nat → Nat} {K : Nat → jB} : (fW ca g K)[13]? = some (g 13, .inr (3, [.ref (g 23), .ref (g 24), .ref (g 25), .ref (g 26), .ref (g 27), .ref (g 28), .ref (g 29), .int (K 0 16 1)])) := rfl
theorem fW_14 {ca : Nat → ClassId} {g : Nat → Nat} {K : Nat → jB} : (fW ca g K)[14]? = some (g 14, .inl (ca 1, 3, .inr (.inr (.inl (fun k => (K 0 15 k).toUInt32))))) := rfl
theorem fW_15 {ca : Nat → ClassId} {g : Nat → Nat} {K : Nat → jB} : (fW ca g K)[15]? = some (g 15, .inl (ca 0, 3, .inl (K 0 14))) := rfl
theorem fW_16 {ca : Nat → ClassId} {g : Nat → Nat} {K : Nat → jB} : (fW ca g K)[16]? = some (g 16, .inl (ca 0, 8, .inl (K 0 0))) := rfl
theorem fW_17 {ca : Nat → ClassId} {g : Nat → Nat} {K : Nat → jB} : (fW ca g K)[17]? = some (g 17, .inl (ca 0, 8, .inl (K 0 1))) := rfl
theorem fW_18 {ca : Nat → ClassId} {g : Nat → Nat} {K : Nat → jB} : (fW ca g K)[18]? = some (g 18, .inl (ca 0, 8, .inl (K 0 2))) := rfl
theorem fW_19 {ca : Nat → ClassId} {g : Nat → Nat} {K : Nat → jB} : (fW ca g K)[19]? = some (g 19, .inl (ca 0, 8, .inl (K 0 3))) := rfl
theorem fW_20 {ca : Nat → ClassId} {g : Nat → Nat} {K : Nat → jB} : (fW ca g K)[20]? = some (g 20, .inl (ca 0, 6, .inl (K 0 4))) := rfl
theorem fW_21 {ca : Nat → ClassId} {g : Nat → Nat} {K : Nat → jB} : (fW ca g K)[21]? = some (g 21, .inl (ca 0, 6, .inl (K 0 5))) := rfl
theorem fW_22 {ca : Nat → ClassId} {g : Nat → Nat} {K : Nat → jB} : (fW ca g K)[22]? = some (g 22, .inl (ca 0, 6, .inl (K 0 6))) := rfl
theorem fW_23 {ca : Nat → ClassId} {g : Nat → Nat} {K : Nat → jB} : (fW ca g K)[23]? = some (g 23, .inl (ca 0, 20, .inl (K 0 7))) := rfl
theorem fW_24 {ca : Nat → ClassId} {g : Nat → Nat} {K : Nat → jB} : (fW ca g K)[24]? = some (g 24, .inl (ca 0, 20, .inl (K 0 8))) := rfl
theorem fW_25 {ca : Nat → ClassId} {g : Nat → Nat} {K : Nat → jB} : (fW ca g K)[25]? = some (g 25, .inl (ca 0, 20, .inl (K 0 9))) := rfl
theorem fW_26 {ca : Nat → ClassId} {g : Nat → Nat} {K : Nat → jB} : (fW ca g K)[26]? = some (g 26, .inl (ca 0, 20, .inl (K 0 10))) := rfl
theorem fW_27 {ca : Nat → ClassId} {g : Nat → Nat} {K : Nat → jB} : (fW ca g K)[27]? = some (g 27, .inl (ca 0, 20, .inl (K 0 11))) := rfl
theorem fW_28 {ca : Nat → ClassId} {g : Nat → Nat} {K : Nat → jB} : (fW ca g K)[28]? = some (g 28, .inl (ca 0, 20, .inl (K 0 12))) := rfl
theorem fW_29 {ca : Nat → ClassId} {g : Nat → Nat} {K : Nat → jB} : (fW ca g K)[29]? = some (g 29, .inl (ca 0, 20, .inl (K 0 13))) := rfl
theorem fW_30 {ca : Nat → ClassId} {g : Nat → Nat} {K : Nat → jB} : (fW ca g K)[30]? = some (g 30, .inr (0, [.ref (g 31), .ref (g 32), .ref (g 33), .ref (g 34), .ref (g 35), .int (K 1 16 2), .int (K 1 16 3), .int (K 1 16 4), .int (K 1 16 5), .int (K 1 16 6), .int (K 1 16 7)])) := rfl
theorem fW_31 {ca : Nat → ClassId} {g : Nat → Nat} {K : Nat → jB} : (fW ca g K)[31]? = some (g 31, .inr (4, [.ref (g 36), .ref (g 37), .ref (g 38), .ref (g 39), .int (K 1 16 0)])) := rfl
theorem fW_32 {ca : Nat → ClassId} {g : Nat → Nat} {K : Nat → jB} : (fW ca g K)[32]? = some (g 32, .inr (1, [.ref (g 40), .ref (g 41), .ref (g 42)])) := rfl
theorem fW_33 {ca : Nat → ClassId} {g : Nat → Nat} {K : Nat → jB} : (fW ca g K)[33]? = some (g 33, .inr (3, [.ref (g 43), .ref (g 44), .ref (g 45), .ref (g 46), .ref (g 47), .ref (g 48), .ref (g 49), .int (K 1 16 1)])) := rfl
theorem fW_34 {ca : Nat → ClassId} {g : Nat → Nat} {K : Nat → jB} : (fW ca g K)[34]? = some (g 34, .inl (ca 1, 3, .inr (.inr (.inl (fun k => (K 1 15 k).toUInt32))))) := rfl
theorem fW_35 {ca : Nat → ClassId} {g : Nat → Nat} {K : Nat → jB} : (fW ca g K)[35]? = some (g 35, .inl (ca 0, 3, .inl (K 1 14))) := rfl
theorem fW_36 {ca : Nat → ClassId} {g : Nat → Nat} {K : Nat → jB} : (fW ca g K)[36]? = some (g 36, .inl (ca 0, 8, .inl (K 1 0))) := rfl
theorem fW_37 {ca : Nat → ClassId} {g : Nat → Nat} {K : Nat → jB} : (fW ca g K)[37]? = some (g 37, .inl (ca 0, 8, .inl (K 1 1))) := rfl
theorem fW_38 {ca : Nat → ClassId} {g : Nat → Nat} {K : Nat → jB} : (fW ca g K)[38]? = some (g 38, .inl (ca 0, 8, .inl (K 1 2))) := rfl
theorem fW_39 {ca : Nat → ClassId} {g : Nat → Nat} {K : Nat → jB} : (fW ca g K)[39]? = some (g 39, .inl (ca 0, 8, .inl (K 1 3))) := rfl
theorem fW_40 {ca : Nat → ClassId} {g : Nat → Nat} {K : Nat → jB} : (fW ca g K)[40]? = some (g 40, .inl (ca 0, 6, .inl (K 1 4))) := rfl
theorem fW_41 {ca : Nat → ClassId} {g : Nat → Nat} {K : Nat → jB} : (fW ca g K)[41]? = some (g 41, .inl (ca 0, 6, .inl (K 1 5))) := rfl
theorem fW_42 {ca : Nat → ClassId} {g : Nat → Nat} {K : Nat → jB} : (fW ca g K)[42]? = some (g 42, .inl (ca 0, 6, .inl (K 1 6))) := rfl
theorem fW_43 {ca : Nat → ClassId} {g : Nat → Nat} {K : Nat → jB} : (fW ca g K)[43]? = some (g 43, .inl (ca 0, 20, .inl (K 1 7))) := rfl
theorem fW_44 {ca : Nat → ClassId} {g : Nat → Nat} {K : Nat → jB} : (fW ca g K)[44]? = some (g 44, .inl (ca 0, 20, .inl (K 1 8))) := rfl
theorem fW_45 {ca : Nat → ClassId} {g : Nat → Nat} {K : Nat → jB} : (fW ca g K)[45]? = some (g 45, .inl (ca 0, 20, .inl (K 1 9))) := rfl
theorem fW_46 {ca : Nat → ClassId} {g : Nat → Nat} {K : Nat → jB} : (fW ca g K)[46]? = some (g 46, .inl (ca 0, 20, .inl (K 1 10))) := rfl
theorem fW_47 {ca : Nat → ClassId} {g : Nat → Nat} {K : Nat → jB} : (fW ca g K)[47]? = some (g 47, .inl (ca 0, 20, .inl (K 1 11))) := rfl
theorem fW_48 {ca : Nat → ClassId} {g : Nat → Nat} {K : Nat → jB} : (fW ca g K)[48]? = some (g 48, .inl (ca 0, 20, .inl (K 1 12))) := rfl
theorem fW_49 {ca : Nat → ClassId} {g : Nat → Nat} {K : Nat → jB} : (fW ca g K)[49]? = some (g 49, .inl (ca 0, 20, .inl (K 1 13))) := rfl
theorem fW_50 {ca : Nat → ClassId} {g : Nat → Nat} {K : Nat → jB} : (fW ca g K)[50]? = some (g 50, .inr (0, [.ref (g 51), .ref (g 52), .ref (g 53), .ref (g 54), .ref (g 55), .int (K 2 16 2), .int (K 2 16 3), .int (K 2 16 4), .int (K 2 16 5), .int (K 2 16 6), .int (K 2 16 7)])) := rfl
theorem fW_51 {ca : Nat → ClassId} {g : Nat → Nat} {K : Nat → jB} : (fW ca g K)[51]? = some (g 51, .inr (4, [.ref (g 56), .ref (g 57), .ref (g 58), .ref (g 59), .int (K 2 16 0)])) := rfl
theorem fW_52 {ca : Nat → ClassId} {g : Nat → Nat} {K : Nat → jB} : (fW ca g K)[52]? = some (g 52, .inr (1, [.ref (g 60), .ref (g 61), .ref (g 62)])) := rfl
theorem fW_53 {ca : Nat → ClassId} {g : Nat → Nat} {K : Nat → jB} : (fW ca g K)[53]? = some (g 53, .inr (3, [.ref (g 63), .ref (g 64), .ref (g 65), .ref (g 66), .ref (g 67), .ref (g 68), .ref (g 69), .int (K 2 16 1)])) := rfl
theorem fW_54 {ca : Nat → ClassId} {g : Nat → Nat} {K : Nat → jB} : (fW ca g K)[54]? = some (g 54, .inl (ca 1, 3, .inr (.inr (.inl (fun k => (K 2 15 k).toUInt32))))) := rfl
theorem fW_55 {ca : Nat → ClassId} {g : Nat → Nat} {K : Nat → jB} : (fW ca g K)[55]? = some (g 55, .inl (ca 0, 3, .inl (K 2 14))) := rfl
theorem fW_56 {ca : Nat → ClassId} {g : Nat → Nat} {K : Nat → jB} : (fW ca g K)[56]? = some (g 56, .inl (ca 0, 8, .inl (K 2 0))) := rfl
theorem fW_57 {ca : Nat → ClassId} {g : Nat → Nat} {K : Nat → jB} : (fW ca g K)[57]? = some (g 57, .inl (ca 0, 8, .inl (K 2 1))) := rfl
theorem fW_58 {ca : Nat → ClassId} {g : Nat → Nat} {K : Nat → jB} : (fW ca g K)[58]? = some (g 58, .inl (ca 0, 8, .inl (K 2 2))) := rfl
theorem fW_59 {ca : Nat → ClassId} {g : Nat → Nat} {K : Nat → jB} : (fW ca g K)[59]? = some (g 59, .inl (ca 0, 8, .inl (K 2 3))) := rfl
theorem fW_60 {ca : Nat → ClassId} {g : Nat → Nat} {K : Nat → jB} : (fW ca g K)[60]? = some (g 60, .inl (ca 0, 6, .inl (K 2 4))) := rfl
theorem fW_61 {ca : Nat → ClassId} {g : Nat → Nat} {K : Nat → jB} : (fW ca g K)[61]? = some (g 61, .inl (ca 0, 6, .inl (K 2 5))) := rfl
theorem fW_62 {ca : Nat → ClassId} {g : Nat → Nat} {K : Nat → jB} : (fW ca g K)[62]? = some (g 62, .inl (ca 0, 6, .inl (K 2 6))) := rfl
theorem fW_63 {ca : Nat → ClassId} {g : Nat → Nat} {K : Nat → jB} : (fW ca g K)[63]? = some (g 63, .inl (ca 0, 20, .inl (K 2 7))) := rfl
theorem fW_64 {ca : Nat → ClassId} {g : Nat → Nat} {K : Nat → jB} : (fW ca g K)[64]? = some (g 64, .inl (ca 0, 20, .inl (K 2 8))) := rfl
theorem fW_65 {ca : Nat → ClassId} {g : Nat → Nat} {K : Nat → jB} : (fW ca g K)[65]? = some (g 65, .inl (ca 0, 20, .inl (K 2 9))) := rfl
theorem fW_66 {ca : Nat → ClassId} {g : Nat → Nat} {K : Nat → jB} : (fW ca g K)[66]? = some (g 66, .inl (ca 0, 20, .inl (K 2 10))) := rfl
theorem fW_67 {ca : Nat → ClassId} {g : Nat → Nat} {K : Nat → jB} : (fW ca g K)[67]? = some (g 67, .inl (ca 0, 20, .inl (K 2 11))) := rfl
theorem fW_68 {ca : Nat → ClassId} {g : Nat → Nat} {K : Nat → jB} : (fW ca g K)[68]? = some (g 68, .inl (ca 0, 20, .inl (K 2 12))) := rfl
theorem fW_69 {ca : Nat → ClassId} {g : Nat → Nat} {K : Nat → jB} : (fW ca g K)[69]? = some (g 69, .inl (ca 0, 20, .inl (K 2 13))) := rfl
theorem fW_70 {ca : Nat → ClassId} {g : Nat → Nat} {K : Nat → jB} : (fW ca g K)[70]? = some (g 70, .inr (0, [.ref (g 71), .ref (g 72), .ref (g 73), .ref (g 74), .ref (g 75), .int (K 3 16 2), .int (K 3 16 3), .int (K 3 16 4), .int (K 3 16 5), .int (K 3 16 6), .int (K 3 16 7)])) := rfl
theorem fW_71 {ca : Nat → ClassId} {g : Nat → Nat} {K : Nat → jB} : (fW ca g K)[71]? = some (g 71, .inr (4, [.ref (g 76), .ref (g 77), .ref (g 78), .ref (g 79), .int (K 3 16 0)])) := rfl
theorem fW_72 {ca : Nat → ClassId} {g : Nat → Nat} {K : Nat → jB} : (fW ca g K)[72]? = some (g 72, .inr (1, [.ref (g 80), .ref (g 81), .ref (g 82)])) := rfl
theorem fW_73 {ca : Nat → ClassId} {g : Nat → Nat} {K : Nat → jB} : (fW ca g K)[73]? = some (g 73, .inr (3, [.ref (g 83), .ref (g 84), .ref (g 85), .ref (g 86), .ref (g 87), .ref (g 88), .ref (g 89), .int (K 3 16 1)])) := rfl
theorem fW_74 {ca : Nat → ClassId} {g : Nat → Nat} {K : Nat → jB} : (fW ca g K)[74]? = some (g 74, .inl (ca 1, 3, .inr (.inr (.inl (fun k => (K 3 15 k).toUInt32))))) := rfl
theorem fW_75 {ca : Nat → ClassId} {g : Nat → Nat} {K : Nat → jB} : (fW ca g K)[75]? = some (g 75, .inl (ca 0, 3, .inl (K 3 14))) := rfl
theorem fW_76 {ca : Nat → ClassId} {g : Nat → Nat} {K : Nat → jB} : (fW ca g K)[76]? = some (g 76, .inl (ca 0, 8, .inl (K 3 0))) := rfl
theorem fW_77 {ca : Nat → ClassId} {g : Nat → Nat} {K : Nat → jB} : (fW ca g K)[77]? = some (g 77, .inl (ca 0, 8, .inl (K 3 1))) := rfl
theorem fW_78 {ca : Nat → ClassId} {g : Nat → Nat} {K : Nat → jB} : (fW ca g K)[78]? = some (g 78, .inl (ca 0, 8, .inl (K 3 2))) := rfl
theorem fW_79 {ca : Nat → ClassId} {g : Nat → Nat} {K : Nat → jB} : (fW ca g K)[79]? = some (g 79, .inl (ca 0, 8, .inl (K 3 3))) := rfl
theorem fW_80 {ca : Nat → ClassId} {g : Nat → Nat} {K : Nat → jB} : (fW ca g K)[80]? = some (g 80, .inl (ca 0, 6, .inl (K 3 4))) := rfl
theorem fW_81 {ca : Nat → ClassId} {g : Nat → Nat} {K : Nat → jB} : (fW ca g K)[81]? = some (g 81, .inl (ca 0, 6, .inl (K 3 5))) := rfl
theorem fW_82 {ca : Nat → ClassId} {g : Nat → Nat} {K : Nat → jB} : (fW ca g K)[82]? = some (g 82, .inl (ca 0, 6, .inl (K 3 6))) := rfl
theorem fW_83 {ca : Nat → ClassId} {g : Nat → Nat} {K : Nat → jB} : (fW ca g K)[83]? = some (g 83, .inl (ca 0, 20, .inl (K 3 7))) := rfl
theorem fW_84 {ca : Nat → ClassId} {g : Nat → Nat} {K : Nat → jB} : (fW ca g K)[84]? = some (g 84, .inl (ca 0, 20, .inl (K 3 8))) := rfl
theorem fW_85 {ca : Nat → ClassId} {g : Nat → Nat} {K : Nat → jB} : (fW ca g K)[85]? = some (g 85, .inl (ca 0, 20, .inl (K 3 9))) := rfl
theorem fW_86 {ca : Nat → ClassId} {g : Nat → Nat} {K : Nat → jB} : (fW ca g K)[86]? = some (g 86, .inl (ca 0, 20, .inl (K 3 10))) := rfl
theorem fW_87 {ca : Nat → ClassId} {g : Nat → Nat} {K : Nat → jB} : (fW ca g K)[87]? = some (g 87, .inl (ca 0, 20, .inl (K 3 11))) := rfl
theorem fW_88 {ca : Nat → ClassId} {g : Nat → Nat} {K : Nat → jB} : (fW ca g K)[88]? = some (g 88, .inl (ca 0, 20, .inl (K 3 12))) := rfl
theorem fW_89 {ca : Nat → ClassId} {g : Nat → Nat} {K : Nat → jB} : (fW ca g K)[89]? = some (g 89, .inl (ca 0, 20, .inl (K 3 13))) := rfl
theorem fW_90 {ca : Nat → ClassId} {g : Nat → Nat} {K : Nat → jB} : (fW ca g K)[90]? = some (g 90, .inr (0, [.ref (g 91), .ref (g 92), .ref (g 93), .ref (g 94), .ref (g 95), .int (K 4 16 2), .int (K 4 16 3), .int (K 4 16 4), .int (K 4 16 5), .int (K 4 16 6), .int (K 4 16 7)])) := rfl
theorem fW_91 {ca : Nat → ClassId} {g : Nat → Nat} {K : Nat → jB} : (fW ca g K)[91]? = some (g 91, .inr (4, [.ref (g 96), .ref (g 97), .ref (g 98), .ref (g 99), .int (K 4 16 0)])) := rfl
theorem fW_92 {ca : Nat → ClassId} {g : Nat → Nat} {K : Nat → jB} : (fW ca g K)[92]? = some (g 92, .inr (1, [.ref (g 100), .ref (g 101), .ref (g 102)])) := rfl
theorem fW_93 {ca : Nat → ClassId} {g : Nat → Nat} {K : Nat → jB} : (fW ca g K)[93]? = some (g 93, .inr (3, [.ref (g 103), .ref (g 104), .ref (g 105), .ref (g 106), .ref (g 107), .ref (g 108), .ref (g 109), .int (K 4 16 1)])) := rfl
theorem fW_94 {ca : Nat → ClassId} {g : Nat → Nat} {K : Nat → jB} : (fW ca g K)[94]? = some (g 94, .inl (ca 1, 3, .inr (.inr (.inl (fun k => (K 4 15 k).toUInt32))))) := rfl
theorem fW_95 {ca : Nat → ClassId} {g : Nat → Nat} {K : Nat → jB} : (fW ca g K)[95]? = some (g 95, .inl (ca 0, 3, .inl (K 4 14))) := rfl
theorem fW_96 {ca : Nat → ClassId} {g : Nat → Nat} {K : Nat → jB} : (fW ca g K)[96]? = some (g 96, .inl (ca 0, 8, .inl (K 4 0))) := rfl
theorem fW_97 {ca : Nat → ClassId} {g : Nat → Nat} {K : Nat → jB} : (fW ca g K)[97]? = some (g 97, .inl (ca 0, 8, .inl (K 4 1))) := rfl
theorem fW_98 {ca : Nat → ClassId} {g : Nat → Nat} {K : Nat → jB} : (fW ca g K)[98]? = some (g 98, .inl (ca 0, 8, .inl (K 4 2))) := rfl
theorem fW_99 {ca : Nat → ClassId} {g : Nat → Nat} {K : Nat → jB} : (fW ca g K)[99]? = some (g 99, .inl (ca 0, 8, .inl (K 4 3))) := rfl
theorem fW_100 {ca : Nat → ClassId} {g : Nat → Nat} {K : Nat → jB} : (fW ca g K)[100]? = some (g 100, .inl (ca 0, 6, .inl (K 4 4))) := rfl
theorem fW_101 {ca : Nat → ClassId} {g : Nat → Nat} {K : Nat → jB} : (fW ca g K)[101]? = some (g 101, .inl (ca 0, 6, .inl (K 4 5))) := rfl
theorem fW_102 {ca : Nat → ClassId} {g : Nat → Nat} {K : Nat → jB} : (fW ca g K)[102]? = some (g 102, .inl (ca 0, 6, .inl (K 4 6))) := rfl
theorem fW_103 {ca : Nat → ClassId} {g : Nat → Nat} {K : Nat → jB} : (fW ca g K)[103]? = some (g 103, .inl (ca 0, 20, .inl (K 4 7))) := rfl
theorem fW_104 {ca : Nat → ClassId} {g : Nat → Nat} {K : Nat → jB} : (fW ca g K)[104]? = some (g 104, .inl (ca 0, 20, .inl (K 4 8))) := rfl
theorem fW_105 {ca : Nat → ClassId} {g : Nat → Nat} {K : Nat → jB} : (fW ca g K)[105]? = some (g 105, .inl (ca 0, 20, .inl (K 4 9))) := rfl
theorem fW_106 {ca : Nat → ClassId} {g : Nat → Nat} {K : Nat → jB} : (fW ca g K)[106]? = some (g 106, .inl (ca 0, 20, .inl (K 4 10))) := rfl
theorem fW_107 {ca : Nat → ClassId} {g : Nat → Nat} {K : Nat → jB} : (fW ca g K)[107]? = some (g 107, .inl (ca 0, 20, .inl (K 4 11))) := rfl
theorem fW_108 {ca : Nat → ClassId} {g : Nat → Nat} {K : Nat → jB} : (fW ca g K)[108]? = some (g 108, .inl (ca 0, 20, .inl (K 4 12))) := rfl
theorem fW_109 {ca : Nat → ClassId} {g : Nat → Nat} {K : Nat → jB} : (fW ca g K)[109]? = some (g 109, .inl (ca 0, 20, .inl (K 4 13))) := rfl
theorem fW_110 {ca : Nat → ClassId} {g : Nat → Nat} {K : Nat → jB} : (fW ca g K)[110]? = some (g 110, .inr (0, [.ref (g 111), .ref (g 112), .ref (g 113), .ref (g 114), .ref (g 115), .int (K 5 16 2), .int (K 5 16 3), .int (K 5 16 4), .int (K 5 16 5), .int (K 5 16 6), .int (K 5 16 7)])) := rfl
theorem fW_111 {ca : Nat → ClassId} {g : Nat → Nat} {K : Nat → jB} : (fW ca g K)[111]? = some (g 111, .inr (4, [.ref (g 116), .ref (g 117), .ref (g 118), .ref (g 119), .int (K 5 16 0)])) := rfl
theorem fW_112 {ca : Nat → ClassId} {g : Nat → Nat} {K : Nat → jB} : (fW ca g K)[112]? = some (g 112, .inr (1, [.ref (g 120), .ref (g 121), .ref (g 122)])) := rfl
theorem fW_113 {ca : Nat → ClassId} {g : Nat → Nat} {K : Nat → jB} : (fW ca g K)[113]? = some (g 113, .inr (3, [.ref (g 123), .ref (g 124), .ref (g 125), .ref (g 126), .ref (g 127), .ref (g 128), .ref (g 129), .int (K 5 16 1)])) := rfl
theorem fW_114 {ca : Nat → ClassId} {g : Nat → Nat} {K : Nat → jB} : (fW ca g K)[114]? = some (g 114, .inl (ca 1, 3, .inr (.inr (.inl (fun k => (K 5 15 k).toUInt32))))) := rfl
theorem fW_115 {ca : Nat → ClassId} {g : Nat → Nat} {K : Nat → jB} : (fW ca g K)[115]? = some (g 115, .inl (ca 0, 3, .inl (K 5 14))) := rfl
theorem fW_116 {ca : Nat → ClassId} {g : Nat → Nat} {K : Nat → jB} : (fW ca g K)[116]? = some (g 116, .inl (ca 0, 8, .inl (K 5 0))) := rfl
theorem fW_117 {ca : Nat → ClassId} {g : Nat → Nat} {K : Nat → jB} : (fW ca g K)[117]? = some (g 117, .inl (ca 0, 8, .inl (K 5 1))) := rfl
theorem fW_118 {ca : Nat → ClassId} {g : Nat → Nat} {K : Nat → jB} : (fW ca g K)[118]? = some (g 118, .inl (ca 0, 8, .inl (K 5 2))) := rfl
theorem fW_119 {ca : Nat → ClassId} {g : Nat → Nat} {K : Nat → jB} : (fW ca g K)[119]? = some (g 119, .inl (ca 0, 8, .inl (K 5 3))) := rfl
theorem fW_120 {ca : Nat → ClassId} {g : Nat → Nat} {K : Nat → jB} : (fW ca g K)[120]? = some (g 120, .inl (ca 0, 6, .inl (K 5 4))) := rfl
theorem fW_121 {ca : Nat → ClassId} {g : Nat → Nat} {K : Nat → jB} : (fW ca g K)[121]? = some (g 121, .inl (ca 0, 6, .inl (K 5 5))) := rfl
theorem fW_122 {ca : Nat → ClassId} {g : Nat → Nat} {K : Nat → jB} : (fW ca g K)[122]? = some (g 122, .inl (ca 0, 6, .inl (K 5 6))) := rfl
theorem fW_123 {ca : Nat → ClassId} {g : Nat → Nat} {K : Nat → jB} : (fW ca g K)[123]? = some (g 123, .inl (ca 0, 20, .inl (K 5 7))) := rfl
theorem fW_124 {ca : Nat → ClassId} {g : Nat → Nat} {K : Nat → jB} : (fW ca g K)[124]? = some (g 124, .inl (ca 0, 20, .inl (K 5 8))) := rfl
theorem fW_125 {ca : Nat → ClassId} {g : Nat → Nat} {K : Nat → jB} : (fW ca g K)[125]? = some (g 125, .inl (ca 0, 20, .inl (K 5 9))) := rfl
theorem fW_126 {ca : Nat → ClassId} {g : Nat → Nat} {K : Nat → jB} : (fW ca g K)[126]? = some (g 126, .inl (ca 0, 20, .inl (K 5 10))) := rfl
theorem fW_127 {ca : Nat → ClassId} {g : Nat → Nat} {K : Nat → jB} : (fW ca g K)[127]? = some (g 127, .inl (ca 0, 20, .inl (K 5 11))) := rfl
theorem fW_128 {ca : Nat → ClassId} {g : Nat → Nat} {K : Nat → jB} : (fW ca g K)[128]? = some (g 128, .inl (ca 0, 20, .inl (K 5 12))) := rfl
theorem fW_129 {ca : Nat → ClassId} {g : Nat → Nat} {K : Nat → jB} : (fW ca g K)[129]? = some (g 129, .inl (ca 0, 20, .inl (K 5 13))) := rfl
theorem fW_130 {ca : Nat → ClassId} {g : Nat → Nat} {K : Nat → jB} : (fW ca g K)[130]? = some (g 130, .inr (0, [.ref (g 131), .ref (g 132), .ref (g 133), .ref (g 134), .ref (g 135), .int (K 6 16 2), .int (K 6 16 3), .int (K 6 16 4), .int (K 6 16 5), .int (K 6 16 6), .int (K 6 16 7)])) := rfl
theorem fW_131 {ca : Nat → ClassId} {g : Nat → Nat} {K : Nat → jB} : (fW ca g K)[131]? = some (g 131, .inr (4, [.ref (g 136), .ref (g 137), .ref (g 138), .ref (g 139), .int (K 6 16 0)])) := rfl
theorem fW_132 {ca : Nat → ClassId} {g : Nat → Nat} {K : Nat → jB} : (fW ca g K)[132]? = some (g 132, .inr (1, [.ref (g 140), .ref (g 141), .ref (g 142)])) := rfl
theorem fW_133 {ca : Nat → ClassId} {g : Nat → Nat} {K : Nat → jB} : (fW ca g K)[133]? = some (g 133, .inr (3, [.ref (g 143), .ref (g 144), .ref (g 145), .ref (g 146), .ref (g 147), .ref (g 148), .ref (g 149), .int (K 6 16 1)])) := rfl
theorem fW_134 {ca : Nat → ClassId} {g : Nat → Nat} {K : Nat → jB} : (fW ca g K)[134]? = some (g 134, .inl (ca 1, 3, .inr (.inr (.inl (fun k => (K 6 15 k).toUInt32))))) := rfl
theorem fW_135 {ca : Nat → ClassId} {g : Nat → Nat} {K : Nat → jB} : (fW ca g K)[135]? = some (g 135, .inl (ca 0, 3, .inl (K 6 14))) := rfl
theorem fW_136 {ca : Nat → ClassId} {g : Nat → Nat} {K : Nat → jB} : (fW ca g K)[136]? = some (g 136, .inl (ca 0, 8, .inl (K 6 0))) := rfl
theorem fW_137 {ca : Nat → ClassId} {g : Nat → Nat} {K : Nat → jB} : (fW ca g K)[137]? = some (g 137, .inl (ca 0, 8, .inl (K 6 1))) := rfl
theorem fW_138 {ca : Nat → ClassId} {g : Nat → Nat} {K : Nat → jB} : (fW ca g K)[138]? = some (g 138, .inl (ca 0, 8, .inl (K 6 2))) := rfl
theorem fW_139 {ca : Nat → ClassId} {g : Nat → Nat} {K : Nat → jB} : (fW ca g K)[139]? = some (g 139, .inl (ca 0, 8, .inl (K 6 3))) := rfl
theorem fW_140 {ca : Nat → ClassId} {g : Nat → Nat} {K : Nat → jB} : (fW ca g K)[140]? = some (g 140, .inl (ca 0, 6, .inl (K 6 4))) := rfl
theorem fW_141 {ca : Nat → ClassId} {g : Nat → Nat} {K : Nat → jB} : (fW ca g K)[141]? = some (g 141, .inl (ca 0, 6, .inl (K 6 5))) := rfl
theorem fW_142 {ca : Nat → ClassId} {g : Nat → Nat} {K : Nat → jB} : (fW ca g K)[142]? = some (g 142, .inl (ca 0, 6, .inl (K 6 6))) := rfl
theorem fW_143 {ca : Nat → ClassId} {g : Nat → Nat} {K : Nat → jB} : (fW ca g K)[143]? = some (g 143, .inl (ca 0, 20, .inl (K 6 7))) := rfl
theorem fW_144 {ca : Nat → ClassId} {g : Nat → Nat} {K : Nat → jB} : (fW ca g K)[144]? = some (g 144, .inl (ca 0, 20, .inl (K 6 8))) := rfl
theorem fW_145 {ca : Nat → ClassId} {g : Nat → Nat} {K : Nat → jB} : (fW ca g K)[145]? = some (g 145, .inl (ca 0, 20, .inl (K 6 9))) := rfl
theorem fW_146 {ca : Nat → ClassId} {g : Nat → Nat} {K : Nat → jB} : (fW ca g K)[146]? = some (g 146, .inl (ca 0, 20, .inl (K 6 10))) := rfl
theorem fW_147 {ca : Nat → ClassId} {g : Nat → Nat} {K : Nat → jB} : (fW ca g K)[147]? = some (g 147, .inl (ca 0, 20, .inl (K 6 11))) := rfl
theorem fW_148 {ca : Nat → ClassId} {g : Nat → Nat} {K : Nat → jB} : (fW ca g K)[148]? = some (g 148, .inl (ca 0, 20, .inl (K 6 12))) := rfl
theorem fW_149 {ca : Nat → ClassId} {g : Nat → Nat} {K : Nat → jB} : (fW ca g K)[149]? = some (g 149, .inl (ca 0, 20, .inl (K 6 13))) := rfl
def mW (ca : Nat → ClassId) (g : Nat → Nat) (M : jB) : va_W := [(g 0, .inr (8, [.ref (g 1), .ref (g 2), .ref (g 3), .int (M 6 0), .ref (g 4), .int (M 6 1), .ref (g 5), .int (M 6 2), .int (M 6 3), .int (M 6 4), .ref (g 6), .int (M 6 5), .int (M 6 6), .int (M 6 7), .int (M 6 8)])), (g 1, .inl (ca 0, 204, .inl (M 0))), (g 2, .inl (ca 0, 204, .inl (M 1))), (g 3, .inl (ca 0, 816, .inl (M 2))), (g 4, .inl (ca 0, 204, .inl (M 3))), (g 5, .inl (ca 0, 60, .inl (M 4))), (g 6, .inl (ca 0, 8, .inl (M 5)))]
theorem mW_0 {ca : Nat → ClassId} {g : Nat → Nat} {M : jB} : (mW ca g M)[0]? = some (g 0, .inr (8, [.ref (g 1), .ref (g 2), .ref (g 3), .int (M 6 0), .ref (g 4), .int (M 6 1), .ref (g 5), .int (M 6 2), .int (M 6 3), .int (M 6 4), .ref (g 6), .int (M 6 5), .int (M 6 6), .int (M 6 7), .int (M 6 8)])) := rfl
theorem mW_1 {ca : Nat → ClassId} {g : Nat → Nat} {M : jB} : (mW ca g M)[1]? = some (g 1, .inl (ca 0, 204, .inl (M 0))) := rfl
theorem mW_2 {ca : Nat → ClassId} {g : Nat → Nat} {M : jB} : (mW ca g M)[2]? = some (g 2, .inl (ca 0, 204, .inl (M 1))) := rfl
theorem mW_3 {ca : Nat → ClassId} {g : Nat → Nat} {M : jB} : (mW ca g M)[3]? = some (g 3, .inl (ca 0, 816, .inl (M 2))) := rfl
theorem mW_4 {ca : Nat → ClassId} {g : Nat → Nat} {M : jB} : (mW ca g M)[4]? = some (g 4, .inl (ca 0, 204, .inl (M 3))) := rfl
theorem mW_5 {ca : Nat → ClassId} {g : Nat → Nat} {M : jB} : (mW ca g M)[5]? = some (g 5, .inl (ca 0, 60, .inl (M 4))) := rfl
theorem mW_6 {ca : Nat → ClassId} {g : Nat → Nat} {M : jB} : (mW ca g M)[6]? = some (g 6, .inl (ca 0, 8, .inl (M 5))) := rfl
end
section
theorem vin_c {i : Int32} {n : Nat} (h : decide (¬ (i < 0 ∨ n ≤ i.toNatClampNeg)) = true) : vp_in i n := by
  unfold vp_in
  exact of_decide_eq_true h
theorem iinc_1 (x : Int32) : x + Int32.ofInt 1 = x + (1 : Int32) := rfl
theorem tab_ne {x c : Int32} (h : ¬ x = c) (v : Int) (hv : c.toInt = v) : x.toInt ≠ v := fun z => h (Int32.toInt_inj.mp (z.trans hv.symm))
theorem jms {N i : Int32} {n : Nat} (h : ¬ N ≤ i) (hm : (N.toInt - i.toInt).toNat < n + 1) : (N.toInt - (i + 1).toInt).toNat < n := by
  have h1 : i < N := Int32.not_le.mp h
  have h2 : i.toInt < N.toInt := Int32.lt_iff_toInt_lt.mp h1
  have h3 : N.toInt ≤ 2147483647 := Int32.toInt_le N
  have h4 : -2147483648 ≤ i.toInt := Int32.le_toInt i
  have h5 : (i + 1).toInt = i.toInt + 1 := by
    rw [Int32.toInt_add]
    rw [show (1 : Int32).toInt = 1 from rfl]
    rw [Int.bmod_eq_of_le] <;> omega
  omega
theorem jms' {N i : Int32} {n : Nat} (h : i < N) (hm : (N.toInt - i.toInt).toNat < n + 1) : (N.toInt - (i + 1).toInt).toNat < n := jms (Int32.not_le.mpr h) hm
theorem i_succ {N i : Int32} (h : i < N) : (i + 1).toInt = i.toInt + 1 := by
  have h2 : i.toInt < N.toInt := Int32.lt_iff_toInt_lt.mp h
  have h3 : N.toInt ≤ 2147483647 := Int32.toInt_le N
  have h4 : -2147483648 ≤ i.toInt := Int32.le_toInt i
  rw [Int32.toInt_add]
  rw [show (1 : Int32).toInt = 1 from rfl]
  rw [Int.bmod_eq_of_le] <;> omega
/-- a counter stays at or above 0 -/
theorem i_pos {N i : Int32} (h : i < N) (h0 : 0 ≤ i) : 0 ≤ i + 1 := by
  have h1 := i_succ h
  have h2 : (0 : Int32).toInt ≤ i.toInt := Int32.le_iff_toInt_le.mp h0
  refine Int32.le_iff_toInt_le.mpr ?_
  rw [h1]
  have : (0 : Int32).toInt = 0 := rfl
  omega
theorem vin_lt {i : Int32} {n : Nat} (N : Int32) (hN : N.toInt = n) (h0 : 0 ≤ i) (h1 : i < N) : vp_in i n := by
  refine vp_in_iff.mpr ⟨?_, ?_⟩
  · have := Int32.le_iff_toInt_le.mp h0
    have e : (0 : Int32).toInt = 0 := rfl
    omega
  · have := Int32.lt_iff_toInt_lt.mp h1
    omega
theorem vf_row (B : jB) (r k j : Nat) (v : UInt32) : (vf_upd (fun k => (B r k).toUInt32) k v) j = (up2 B r k v.toInt32 r j).toUInt32 := by
  show _ = ((cond (Nat.beq r r) (upd (B r) k v.toInt32) (B r)) j).toUInt32
  rw [Nat.beq_refl]
  show (if j = k then v else (B r j).toUInt32) = (if j = k then v.toInt32 else B r j).toUInt32
  by_cases h : j = k
  · rw [if_pos h, if_pos h]
    rfl
  · rw [if_neg h, if_neg h]
theorem vf_row3 (K : Nat → jB) (b r k j : Nat) (v : UInt32) : (vf_upd (fun k => (K b r k).toUInt32) k v) j = (up3 K b r k v.toInt32 b r j).toUInt32 := by
  show _ = ((cond (Nat.beq b b) (up2 (K b) r k v.toInt32) (K b)) r j).toUInt32
  rw [Nat.beq_refl]
  exact vf_row (K b) r k j v
theorem hcl_X0 : ∀ r, vwCl[0]? = some r → r.1 = RX0 := fun r h => by cases h; rfl
theorem hcl_X1 : ∀ r, vwCl[1]? = some r → r.1 = RX1 := fun r h => by cases h; rfl
theorem hcl_X2 : ∀ r, vwCl[2]? = some r → r.1 = RX2 := fun r h => by cases h; rfl
theorem hcl_X3 : ∀ r, vwCl[3]? = some r → r.1 = RX3 := fun r h => by cases h; rfl
theorem hcl_X4 : ∀ r, vwCl[4]? = some r → r.1 = RX4 := fun r h => by cases h; rfl
theorem hcl_X5 : ∀ r, vwCl[5]? = some r → r.1 = RX5 := fun r h => by cases h; rfl
theorem hcl_X6 : ∀ r, vwCl[6]? = some r → r.1 = RX6 := fun r h => by cases h; rfl
theorem hcl_X7 : ∀ r, vwCl[7]? = some r → r.1 = RX7 := fun r h => by cases h; rfl
theorem hcl_X8 : ∀ r, vwCl[8]? = some r → r.1 = RX8 := fun r h => by cases h; rfl
section TB
variable {l : Launch} {R : Room} {D : va_G} {ca : Nat → ClassId} {nL : Nat} {X : jX} {cc : ByteArray} {y0 : MethodName} {ret0 : Option FieldType} {k n pc : Nat} {ws w0 : va_W} {lv : jLv} {st As rest : List Value} {idx na fr loc maxL b : Nat} {y : MethodName} {cb : ByteArray} {ret : Option FieldType}
theorem j_tabEq (C : jK l R D ca nL X cc y0 ret0) {x c : Int32} {dflt lo hi : Int} {offs : Array Int} {len : Nat} {tgt : Nat} (hx : x = c) (hd : decode cc pc = .ok (.tableswitch dflt lo hi offs, len)) (h1 : ¬ c.toInt < lo) (h2 : ¬ hi < c.toInt) {off : Int} (ho : offs[(c.toInt - lo).toNat]? = some off) (ht : (pc : Int) + off = (tgt : Int)) (h : J l R D nL X k n ws lv st tgt) : J l R D nL X k n ws lv (.int x :: st) pc := by
  subst hx
  exact j_tabIn C hd h1 h2 ho ht h
theorem j_all : ∀ (ws : va_W), (List.range ws.length).map (fun i => ws[i]?) = ws.map some := by
  intro ws
  apply List.ext_getElem?
  intro i
  rw [List.getElem?_map, List.getElem?_map]
  by_cases h : i < ws.length
  · rw [List.getElem?_range h]
    simp [h]
  · rw [List.getElem?_eq_none (by simpa using h), List.getElem?_eq_none (by simpa using h)]
    rfl
theorem va_nd_range (n : Nat) : va_nd (List.range n) = true := by
  have key : ∀ l : List Nat, l.Nodup → va_nd l = true := by
    intro l h
    induction h with
    | nil => rfl
    | cons h1 _ ih =>
      unfold va_nd
      rw [ih, Bool.and_true, decide_eq_true_eq]
      exact fun z => h1 _ z rfl
  exact key _ List.nodup_range
theorem jrep_all {ws w1 : va_W} (h : w1.length = ws.length) : jrep ws (List.range ws.length) w1 = w1 := by
  apply List.ext_getElem?
  intro i
  cases hq : (jrep ws (List.range ws.length) w1)[i]? with
  | none =>
    have h1 := List.getElem?_eq_none_iff.mp hq
    rw [jrep_len] at h1
    exact (List.getElem?_eq_none (by omega)).symm
  | some q =>
    rcases jrep_get _ ws w1 (by simp [h]) (va_nd_range _) i q hq with ⟨j, h1, h2⟩ | ⟨h1, h2⟩
    · have hj := (List.getElem?_eq_some_iff.mp h1)
      obtain ⟨a, b⟩ := hj
      rw [List.getElem_range] at b
      subst b
      exact h2.symm
    · have hl := (List.getElem?_eq_some_iff.mp h2).1
      exact absurd (List.mem_range.mpr hl) h1
theorem j_callViW (C : jK l R D ca nL X cc y0 ret0) {r : Int32} {w1 : va_W} (G : jGV y0.cls idx y cb maxL ret na) (hM : jM l D ca y cb maxL ret fr loc 0 0 (.ref b :: As) ws (jD (some (.int r)) w1)) (q0 : Nat) {ci : Nat} {fs : List Value} (hq : ws[q0]? = some (b, .inr (ci, fs))) (hcl : ∀ r, vwCl[ci]? = some r → r.1 = y.cls) (hR : fr + 1 ≤ R.frames ∧ 8 + (maxL + 11) + loc ≤ R.locals) (hkn : k ≤ R.cells ∧ n ≤ R.slots) (hAs : As.length = na) (hst : st = As.reverse ++ .ref b :: rest) (hcat : (rest.map fun v => v.category).sum ≤ 8) (hd : decode cc pc = .ok (.invokevirtual idx, 3)) (hw : w1.map Prod.fst = ws.map Prod.fst) (kk : J l R D nL X k n w1 lv (.int r :: rest) (pc + 3)) : J l R D nL X k n ws lv st pc := by
  refine j_callVi C G hM q0 hq hcl hR hkn (List.range ws.length) (j_all ws) (va_nd_range _) hAs hst hcat hd hw ?_
  rw [jrep_all (by have h9 := congrArg List.length hw; simpa using h9)]
  exact kk
theorem j_callViRW (C : jK l R D ca nL X cc y0 ret0) {r : Int32} (G : jGV y0.cls idx y cb maxL ret na) (hM : jM l D ca y cb maxL ret fr loc 0 0 (.ref b :: As) ws (jD (some (.int r)) ws)) (q0 : Nat) {ci : Nat} {fs : List Value} (hq : ws[q0]? = some (b, .inr (ci, fs))) (hcl : ∀ r, vwCl[ci]? = some r → r.1 = y.cls) (hR : fr + 1 ≤ R.frames ∧ 8 + (maxL + 11) + loc ≤ R.locals) (hkn : k ≤ R.cells ∧ n ≤ R.slots) (hAs : As.length = na) (hst : st = As.reverse ++ .ref b :: rest) (hcat : (rest.map fun v => v.category).sum ≤ 8) (hd : decode cc pc = .ok (.invokevirtual idx, 3)) (kk : J l R D nL X k n ws lv (.int r :: rest) (pc + 3)) : J l R D nL X k n ws lv st pc := by
  exact j_callViR C G hM q0 hq hcl hR hkn (List.range ws.length) (j_all ws) (va_nd_range _) hAs hst hcat hd kk
theorem j_callVfW (C : jK l R D ca nL X cc y0 ret0) {r : UInt32} {w1 : va_W} (G : jGV y0.cls idx y cb maxL ret na) (hM : jM l D ca y cb maxL ret fr loc 0 0 (.ref b :: As) ws (jD (some (.float r)) w1)) (q0 : Nat) {ci : Nat} {fs : List Value} (hq : ws[q0]? = some (b, .inr (ci, fs))) (hcl : ∀ r, vwCl[ci]? = some r → r.1 = y.cls) (hR : fr + 1 ≤ R.frames ∧ 8 + (maxL + 11) + loc ≤ R.locals) (hkn : k ≤ R.cells ∧ n ≤ R.slots) (hAs : As.length = na) (hst : st = As.reverse ++ .ref b :: rest) (hcat : (rest.map fun v => v.category).sum ≤ 8) (hd : decode cc pc = .ok (.invokevirtual idx, 3)) (hw : w1.map Prod.fst = ws.map Prod.fst) (kk : J l R D nL X k n w1 lv (.float r :: rest) (pc + 3)) : J l R D nL X k n ws lv st pc := by
  refine j_callVf C G hM q0 hq hcl hR hkn (List.range ws.length) (j_all ws) (va_nd_range _) hAs hst hcat hd hw ?_
  rw [jrep_all (by have h9 := congrArg List.length hw; simpa using h9)]
  exact kk
theorem j_callVfRW (C : jK l R D ca nL X cc y0 ret0) {r : UInt32} (G : jGV y0.cls idx y cb maxL ret na) (hM : jM l D ca y cb maxL ret fr loc 0 0 (.ref b :: As) ws (jD (some (.float r)) ws)) (q0 : Nat) {ci : Nat} {fs : List Value} (hq : ws[q0]? = some (b, .inr (ci, fs))) (hcl : ∀ r, vwCl[ci]? = some r → r.1 = y.cls) (hR : fr + 1 ≤ R.frames ∧ 8 + (maxL + 11) + loc ≤ R.locals) (hkn : k ≤ R.cells ∧ n ≤ R.slots) (hAs : As.length = na) (hst : st = As.reverse ++ .ref b :: rest) (hcat : (rest.map fun v => v.category).sum ≤ 8) (hd : decode cc pc = .ok (.invokevirtual idx, 3)) (kk : J l R D nL X k n ws lv (.float r :: rest) (pc + 3)) : J l R D nL X k n ws lv st pc := by
  exact j_callVfR C G hM q0 hq hcl hR hkn (List.range ws.length) (j_all ws) (va_nd_range _) hAs hst hcat hd kk
theorem j_callVvW (C : jK l R D ca nL X cc y0 ret0)  {w1 : va_W} (G : jGV y0.cls idx y cb maxL ret na) (hM : jM l D ca y cb maxL ret fr loc 0 0 (.ref b :: As) ws (jD none w1)) (q0 : Nat) {ci : Nat} {fs : List Value} (hq : ws[q0]? = some (b, .inr (ci, fs))) (hcl : ∀ r, vwCl[ci]? = some r → r.1 = y.cls) (hR : fr + 1 ≤ R.frames ∧ 8 + (maxL + 11) + loc ≤ R.locals) (hkn : k ≤ R.cells ∧ n ≤ R.slots) (hAs : As.length = na) (hst : st = As.reverse ++ .ref b :: rest) (hcat : (rest.map fun v => v.category).sum ≤ 8) (hd : decode cc pc = .ok (.invokevirtual idx, 3)) (hw : w1.map Prod.fst = ws.map Prod.fst) (kk : J l R D nL X k n w1 lv (rest) (pc + 3)) : J l R D nL X k n ws lv st pc := by
  refine j_callVv C G hM q0 hq hcl hR hkn (List.range ws.length) (j_all ws) (va_nd_range _) hAs hst hcat hd hw ?_
  rw [jrep_all (by have h9 := congrArg List.length hw; simpa using h9)]
  exact kk
theorem j_callVvRW (C : jK l R D ca nL X cc y0 ret0)  (G : jGV y0.cls idx y cb maxL ret na) (hM : jM l D ca y cb maxL ret fr loc 0 0 (.ref b :: As) ws (jD none ws)) (q0 : Nat) {ci : Nat} {fs : List Value} (hq : ws[q0]? = some (b, .inr (ci, fs))) (hcl : ∀ r, vwCl[ci]? = some r → r.1 = y.cls) (hR : fr + 1 ≤ R.frames ∧ 8 + (maxL + 11) + loc ≤ R.locals) (hkn : k ≤ R.cells ∧ n ≤ R.slots) (hAs : As.length = na) (hst : st = As.reverse ++ .ref b :: rest) (hcat : (rest.map fun v => v.category).sum ≤ 8) (hd : decode cc pc = .ok (.invokevirtual idx, 3)) (kk : J l R D nL X k n ws lv (rest) (pc + 3)) : J l R D nL X k n ws lv st pc := by
  exact j_callVvR C G hM q0 hq hcl hR hkn (List.range ws.length) (j_all ws) (va_nd_range _) hAs hst hcat hd kk
theorem j_callVaW (C : jK l R D ca nL X cc y0 ret0) {r : Value} {w1 : va_W} (G : jGV y0.cls idx y cb maxL ret na) (hM : jM l D ca y cb maxL ret fr loc 0 0 (.ref b :: As) ws (jD (some r) w1)) (q0 : Nat) {ci : Nat} {fs : List Value} (hq : ws[q0]? = some (b, .inr (ci, fs))) (hcl : ∀ r, vwCl[ci]? = some r → r.1 = y.cls) (hR : fr + 1 ≤ R.frames ∧ 8 + (maxL + 11) + loc ≤ R.locals) (hkn : k ≤ R.cells ∧ n ≤ R.slots) (hAs : As.length = na) (hst : st = As.reverse ++ .ref b :: rest) (hcat : (rest.map fun v => v.category).sum ≤ 8) (hd : decode cc pc = .ok (.invokevirtual idx, 3)) (hw : w1.map Prod.fst = ws.map Prod.fst) (kk : J l R D nL X k n w1 lv (r :: rest) (pc + 3)) : J l R D nL X k n ws lv st pc := by
  refine j_callVa C G hM q0 hq hcl hR hkn (List.range ws.length) (j_all ws) (va_nd_range _) hAs hst hcat hd hw ?_
  rw [jrep_all (by have h9 := congrArg List.length hw; simpa using h9)]
  exact kk
theorem j_callVaRW (C : jK l R D ca nL X cc y0 ret0) {r : Value} (G : jGV y0.cls idx y cb maxL ret na) (hM : jM l D ca y cb maxL ret fr loc 0 0 (.ref b :: As) ws (jD (some r) ws)) (q0 : Nat) {ci : Nat} {fs : List Value} (hq : ws[q0]? = some (b, .inr (ci, fs))) (hcl : ∀ r, vwCl[ci]? = some r → r.1 = y.cls) (hR : fr + 1 ≤ R.frames ∧ 8 + (maxL + 11) + loc ≤ R.locals) (hkn : k ≤ R.cells ∧ n ≤ R.slots) (hAs : As.length = na) (hst : st = As.reverse ++ .ref b :: rest) (hcat : (rest.map fun v => v.category).sum ≤ 8) (hd : decode cc pc = .ok (.invokevirtual idx, 3)) (kk : J l R D nL X k n ws lv (r :: rest) (pc + 3)) : J l R D nL X k n ws lv st pc := by
  exact j_callVaR C G hM q0 hq hcl hR hkn (List.range ws.length) (j_all ws) (va_nd_range _) hAs hst hcat hd kk
theorem j_callSiW (C : jK l R D ca nL X cc y0 ret0) {r : Int32} {w1 : va_W} (G : jGS y0.cls idx y cb maxL ret na) (hM : jM l D ca y cb maxL ret fr loc 0 0 As ws (jD (some (.int r)) w1)) (hR : fr + 1 ≤ R.frames ∧ 8 + (maxL + 11) + loc ≤ R.locals) (hkn : k ≤ R.cells ∧ n ≤ R.slots) (hAs : As.length = na) (hst : st = As.reverse ++ rest) (hcat : (rest.map fun v => v.category).sum ≤ 8) (hd : decode cc pc = .ok (.invokestatic idx, 3)) (hw : w1.map Prod.fst = ws.map Prod.fst) (kk : J l R D nL X k n w1 lv (.int r :: rest) (pc + 3)) : J l R D nL X k n ws lv st pc := by
  refine j_callSi C G hM hR hkn (List.range ws.length) (j_all ws) (va_nd_range _) hAs hst hcat hd hw ?_
  rw [jrep_all (by have h9 := congrArg List.length hw; simpa using h9)]
  exact kk
theorem j_callSiRW (C : jK l R D ca nL X cc y0 ret0) {r : Int32} (G : jGS y0.cls idx y cb maxL ret na) (hM : jM l D ca y cb maxL ret fr loc 0 0 As ws (jD (some (.int r)) ws)) (hR : fr + 1 ≤ R.frames ∧ 8 + (maxL + 11) + loc ≤ R.locals) (hkn : k ≤ R.cells ∧ n ≤ R.slots) (hAs : As.length = na) (hst : st = As.reverse ++ rest) (hcat : (rest.map fun v => v.category).sum ≤ 8) (hd : decode cc pc = .ok (.invokestatic idx, 3)) (kk : J l R D nL X k n ws lv (.int r :: rest) (pc + 3)) : J l R D nL X k n ws lv st pc := by
  exact j_callSiR C G hM hR hkn (List.range ws.length) (j_all ws) (va_nd_range _) hAs hst hcat hd kk
theorem j_callSfW (C : jK l R D ca nL X cc y0 ret0) {r : UInt32} {w1 : va_W} (G : jGS y0.cls idx y cb maxL ret na) (hM : jM l D ca y cb maxL ret fr loc 0 0 As ws (jD (some (.float r)) w1)) (hR : fr + 1 ≤ R.frames ∧ 8 + (maxL + 11) + loc ≤ R.locals) (hkn : k ≤ R.cells ∧ n ≤ R.slots) (hAs : As.length = na) (hst : st = As.reverse ++ rest) (hcat : (rest.map fun v => v.category).sum ≤ 8) (hd : decode cc pc = .ok (.invokestatic idx, 3)) (hw : w1.map Prod.fst = ws.map Prod.fst) (kk : J l R D nL X k n w1 lv (.float r :: rest) (pc + 3)) : J l R D nL X k n ws lv st pc := by
  refine j_callSf C G hM hR hkn (List.range ws.length) (j_all ws) (va_nd_range _) hAs hst hcat hd hw ?_
  rw [jrep_all (by have h9 := congrArg List.length hw; simpa using h9)]
  exact kk
theorem j_callSfRW (C : jK l R D ca nL X cc y0 ret0) {r : UInt32} (G : jGS y0.cls idx y cb maxL ret na) (hM : jM l D ca y cb maxL ret fr loc 0 0 As ws (jD (some (.float r)) ws)) (hR : fr + 1 ≤ R.frames ∧ 8 + (maxL + 11) + loc ≤ R.locals) (hkn : k ≤ R.cells ∧ n ≤ R.slots) (hAs : As.length = na) (hst : st = As.reverse ++ rest) (hcat : (rest.map fun v => v.category).sum ≤ 8) (hd : decode cc pc = .ok (.invokestatic idx, 3)) (kk : J l R D nL X k n ws lv (.float r :: rest) (pc + 3)) : J l R D nL X k n ws lv st pc := by
  exact j_callSfR C G hM hR hkn (List.range ws.length) (j_all ws) (va_nd_range _) hAs hst hcat hd kk
theorem j_callSvW (C : jK l R D ca nL X cc y0 ret0)  {w1 : va_W} (G : jGS y0.cls idx y cb maxL ret na) (hM : jM l D ca y cb maxL ret fr loc 0 0 As ws (jD none w1)) (hR : fr + 1 ≤ R.frames ∧ 8 + (maxL + 11) + loc ≤ R.locals) (hkn : k ≤ R.cells ∧ n ≤ R.slots) (hAs : As.length = na) (hst : st = As.reverse ++ rest) (hcat : (rest.map fun v => v.category).sum ≤ 8) (hd : decode cc pc = .ok (.invokestatic idx, 3)) (hw : w1.map Prod.fst = ws.map Prod.fst) (kk : J l R D nL X k n w1 lv (rest) (pc + 3)) : J l R D nL X k n ws lv st pc := by
  refine j_callSv C G hM hR hkn (List.range ws.length) (j_all ws) (va_nd_range _) hAs hst hcat hd hw ?_
  rw [jrep_all (by have h9 := congrArg List.length hw; simpa using h9)]
  exact kk
theorem j_callSvRW (C : jK l R D ca nL X cc y0 ret0)  (G : jGS y0.cls idx y cb maxL ret na) (hM : jM l D ca y cb maxL ret fr loc 0 0 As ws (jD none ws)) (hR : fr + 1 ≤ R.frames ∧ 8 + (maxL + 11) + loc ≤ R.locals) (hkn : k ≤ R.cells ∧ n ≤ R.slots) (hAs : As.length = na) (hst : st = As.reverse ++ rest) (hcat : (rest.map fun v => v.category).sum ≤ 8) (hd : decode cc pc = .ok (.invokestatic idx, 3)) (kk : J l R D nL X k n ws lv (rest) (pc + 3)) : J l R D nL X k n ws lv st pc := by
  exact j_callSvR C G hM hR hkn (List.range ws.length) (j_all ws) (va_nd_range _) hAs hst hcat hd kk
theorem j_callSNiW (C : jK l R D ca nL X cc y0 ret0) {r : Int32} {w1 : va_W} {host : String} (G : jGSN y0.cls idx y host cb maxL ret na) (hM : jM l D ca y cb maxL ret fr loc 0 0 As ws (jD (some (.int r)) w1)) (hR : fr + 1 ≤ R.frames ∧ 8 + (maxL + 11) + loc ≤ R.locals) (hkn : k ≤ R.cells ∧ n ≤ R.slots) (hAs : As.length = na) (hst : st = As.reverse ++ rest) (hcat : (rest.map fun v => v.category).sum ≤ 8) (hd : decode cc pc = .ok (.invokestatic idx, 3)) (hw : w1.map Prod.fst = ws.map Prod.fst) (kk : J l R D nL X k n w1 lv (.int r :: rest) (pc + 3)) : J l R D nL X k n ws lv st pc := by
  refine j_callSNi C G hM hR hkn (List.range ws.length) (j_all ws) (va_nd_range _) hAs hst hcat hd hw ?_
  rw [jrep_all (by have h9 := congrArg List.length hw; simpa using h9)]
  exact kk
theorem j_callSNiRW (C : jK l R D ca nL X cc y0 ret0) {r : Int32} {host : String} (G : jGSN y0.cls idx y host cb maxL ret na) (hM : jM l D ca y cb maxL ret fr loc 0 0 As ws (jD (some (.int r)) ws)) (hR : fr + 1 ≤ R.frames ∧ 8 + (maxL + 11) + loc ≤ R.locals) (hkn : k ≤ R.cells ∧ n ≤ R.slots) (hAs : As.length = na) (hst : st = As.reverse ++ rest) (hcat : (rest.map fun v => v.category).sum ≤ 8) (hd : decode cc pc = .ok (.invokestatic idx, 3)) (kk : J l R D nL X k n ws lv (.int r :: rest) (pc + 3)) : J l R D nL X k n ws lv st pc := by
  exact j_callSNiR C G hM hR hkn (List.range ws.length) (j_all ws) (va_nd_range _) hAs hst hcat hd kk
theorem j_callSNfW (C : jK l R D ca nL X cc y0 ret0) {r : UInt32} {w1 : va_W} {host : String} (G : jGSN y0.cls idx y host cb maxL ret na) (hM : jM l D ca y cb maxL ret fr loc 0 0 As ws (jD (some (.float r)) w1)) (hR : fr + 1 ≤ R.frames ∧ 8 + (maxL + 11) + loc ≤ R.locals) (hkn : k ≤ R.cells ∧ n ≤ R.slots) (hAs : As.length = na) (hst : st = As.reverse ++ rest) (hcat : (rest.map fun v => v.category).sum ≤ 8) (hd : decode cc pc = .ok (.invokestatic idx, 3)) (hw : w1.map Prod.fst = ws.map Prod.fst) (kk : J l R D nL X k n w1 lv (.float r :: rest) (pc + 3)) : J l R D nL X k n ws lv st pc := by
  refine j_callSNf C G hM hR hkn (List.range ws.length) (j_all ws) (va_nd_range _) hAs hst hcat hd hw ?_
  rw [jrep_all (by have h9 := congrArg List.length hw; simpa using h9)]
  exact kk
theorem j_callSNfRW (C : jK l R D ca nL X cc y0 ret0) {r : UInt32} {host : String} (G : jGSN y0.cls idx y host cb maxL ret na) (hM : jM l D ca y cb maxL ret fr loc 0 0 As ws (jD (some (.float r)) ws)) (hR : fr + 1 ≤ R.frames ∧ 8 + (maxL + 11) + loc ≤ R.locals) (hkn : k ≤ R.cells ∧ n ≤ R.slots) (hAs : As.length = na) (hst : st = As.reverse ++ rest) (hcat : (rest.map fun v => v.category).sum ≤ 8) (hd : decode cc pc = .ok (.invokestatic idx, 3)) (kk : J l R D nL X k n ws lv (.float r :: rest) (pc + 3)) : J l R D nL X k n ws lv st pc := by
  exact j_callSNfR C G hM hR hkn (List.range ws.length) (j_all ws) (va_nd_range _) hAs hst hcat hd kk
theorem j_callSNvW (C : jK l R D ca nL X cc y0 ret0)  {w1 : va_W} {host : String} (G : jGSN y0.cls idx y host cb maxL ret na) (hM : jM l D ca y cb maxL ret fr loc 0 0 As ws (jD none w1)) (hR : fr + 1 ≤ R.frames ∧ 8 + (maxL + 11) + loc ≤ R.locals) (hkn : k ≤ R.cells ∧ n ≤ R.slots) (hAs : As.length = na) (hst : st = As.reverse ++ rest) (hcat : (rest.map fun v => v.category).sum ≤ 8) (hd : decode cc pc = .ok (.invokestatic idx, 3)) (hw : w1.map Prod.fst = ws.map Prod.fst) (kk : J l R D nL X k n w1 lv (rest) (pc + 3)) : J l R D nL X k n ws lv st pc := by
  refine j_callSNv C G hM hR hkn (List.range ws.length) (j_all ws) (va_nd_range _) hAs hst hcat hd hw ?_
  rw [jrep_all (by have h9 := congrArg List.length hw; simpa using h9)]
  exact kk
theorem j_callSNvRW (C : jK l R D ca nL X cc y0 ret0)  {host : String} (G : jGSN y0.cls idx y host cb maxL ret na) (hM : jM l D ca y cb maxL ret fr loc 0 0 As ws (jD none ws)) (hR : fr + 1 ≤ R.frames ∧ 8 + (maxL + 11) + loc ≤ R.locals) (hkn : k ≤ R.cells ∧ n ≤ R.slots) (hAs : As.length = na) (hst : st = As.reverse ++ rest) (hcat : (rest.map fun v => v.category).sum ≤ 8) (hd : decode cc pc = .ok (.invokestatic idx, 3)) (kk : J l R D nL X k n ws lv (rest) (pc + 3)) : J l R D nL X k n ws lv st pc := by
  exact j_callSNvR C G hM hR hkn (List.range ws.length) (j_all ws) (va_nd_range _) hAs hst hcat hd kk
end TB
end
section


def r_X3_has (B : jB) (i : Int32) : Int32 := (if i < (0 : Int32) then (0 : Int32) else (if (B 16 1) ≤ i then (0 : Int32) else (if (20 : Int32) ≤ i then (0 : Int32) else (1 : Int32))))
set_option maxRecDepth 100000 in
set_option maxHeartbeats 4000000 in
theorem c_X3_has (l : Launch) (D : va_G) (ca : Nat → ClassId) (g : Nat → Nat) (B : jB) (i : Int32) : jM l D ca yX3_has cX3_has 2 (Option.some FieldType.boolean) 0 0 0 0 [.ref (g 3), .int i] (ivW ca g B) (jD (some (.int (r_X3_has B i))) (ivW ca g B)) := by
  refine jM_of [(0, .ref (g 3)), (1, .int i)] (by decide) (Nat.le_of_ble_eq_true rfl) rfl (fun X C E => ?_)
  refine j_iload_n C dX3_has_0 rfl ?_
  refine j_if_lt (tgt := 22) C dX3_has_1 (by decide) (fun (h1 : i < (0 : Int32)) => ?_) (fun (h1 : ¬ (i < (0 : Int32))) => ?_)
  · refine j_iconst C dX3_has_22 (0 : Int32) (by decide) ?_
    have e9 : r_X3_has B i = (0 : Int32) := by rw [r_X3_has, if_pos h1]
    exact j_zret E rfl dX3_has_23 (by rw [e9]; exact ⟨rfl, rfl⟩)
  · refine j_iload_n C dX3_has_4 rfl ?_
    refine j_aload_n C dX3_has_5 rfl ?_
    refine j_get C f_X3_33.F 0 dX3_has_6 ivW_0 rfl ?_
    refine j_icmp_ge (tgt := 22) C dX3_has_9 (by decide) (fun (h9 : (B 16 1) ≤ i) => ?_) (fun (h9 : ¬ ((B 16 1) ≤ i)) => ?_)
    · refine j_iconst C dX3_has_22 (0 : Int32) (by decide) ?_
      have e9 : r_X3_has B i = (0 : Int32) := by rw [r_X3_has, if_neg h1, if_pos h9]
      exact j_zret E rfl dX3_has_23 (by rw [e9]; exact ⟨rfl, rfl⟩)
    · refine j_iload_n C dX3_has_12 rfl ?_
      refine j_bipush C dX3_has_13 (20 : Int32) (by decide) ?_
      refine j_icmp_ge (tgt := 22) C dX3_has_15 (by decide) (fun (h15 : (20 : Int32) ≤ i) => ?_) (fun (h15 : ¬ ((20 : Int32) ≤ i)) => ?_)
      · refine j_iconst C dX3_has_22 (0 : Int32) (by decide) ?_
        have e9 : r_X3_has B i = (0 : Int32) := by rw [r_X3_has, if_neg h1, if_neg h9, if_pos h15]
        exact j_zret E rfl dX3_has_23 (by rw [e9]; exact ⟨rfl, rfl⟩)
      · refine j_iconst C dX3_has_18 (1 : Int32) (by decide) ?_
        refine j_goto (tgt := 23) C dX3_has_19 (by decide) ?_
        have e9 : r_X3_has B i = (1 : Int32) := by rw [r_X3_has, if_neg h1, if_neg h9, if_neg h15]
        exact j_zret E rfl dX3_has_23 (by rw [e9]; exact ⟨rfl, rfl⟩)


def r_X4_has (B : jB) (i : Int32) : Int32 := (if i < (0 : Int32) then (0 : Int32) else (if (B 16 0) ≤ i then (0 : Int32) else (if (8 : Int32) ≤ i then (0 : Int32) else (1 : Int32))))
set_option maxRecDepth 100000 in
set_option maxHeartbeats 4000000 in
theorem c_X4_has (l : Launch) (D : va_G) (ca : Nat → ClassId) (g : Nat → Nat) (B : jB) (i : Int32) : jM l D ca yX4_has cX4_has 2 (Option.some FieldType.boolean) 0 0 0 0 [.ref (g 1), .int i] (mbW ca g B) (jD (some (.int (r_X4_has B i))) (mbW ca g B)) := by
  refine jM_of [(0, .ref (g 1)), (1, .int i)] (by decide) (Nat.le_of_ble_eq_true rfl) rfl (fun X C E => ?_)
  refine j_iload_n C dX4_has_0 rfl ?_
  refine j_if_lt (tgt := 22) C dX4_has_1 (by decide) (fun (h1 : i < (0 : Int32)) => ?_) (fun (h1 : ¬ (i < (0 : Int32))) => ?_)
  · refine j_iconst C dX4_has_22 (0 : Int32) (by decide) ?_
    have e9 : r_X4_has B i = (0 : Int32) := by rw [r_X4_has, if_pos h1]
    exact j_zret E rfl dX4_has_23 (by rw [e9]; exact ⟨rfl, rfl⟩)
  · refine j_iload_n C dX4_has_4 rfl ?_
    refine j_aload_n C dX4_has_5 rfl ?_
    refine j_get C f_X4_24.F 0 dX4_has_6 mbW_0 rfl ?_
    refine j_icmp_ge (tgt := 22) C dX4_has_9 (by decide) (fun (h9 : (B 16 0) ≤ i) => ?_) (fun (h9 : ¬ ((B 16 0) ≤ i)) => ?_)
    · refine j_iconst C dX4_has_22 (0 : Int32) (by decide) ?_
      have e9 : r_X4_has B i = (0 : Int32) := by rw [r_X4_has, if_neg h1, if_pos h9]
      exact j_zret E rfl dX4_has_23 (by rw [e9]; exact ⟨rfl, rfl⟩)
    · refine j_iload_n C dX4_has_12 rfl ?_
      refine j_bipush C dX4_has_13 (8 : Int32) (by decide) ?_
      refine j_icmp_ge (tgt := 22) C dX4_has_15 (by decide) (fun (h15 : (8 : Int32) ≤ i) => ?_) (fun (h15 : ¬ ((8 : Int32) ≤ i)) => ?_)
      · refine j_iconst C dX4_has_22 (0 : Int32) (by decide) ?_
        have e9 : r_X4_has B i = (0 : Int32) := by rw [r_X4_has, if_neg h1, if_neg h9, if_pos h15]
        exact j_zret E rfl dX4_has_23 (by rw [e9]; exact ⟨rfl, rfl⟩)
      · refine j_iconst C dX4_has_18 (1 : Int32) (by decide) ?_
        refine j_goto (tgt := 23) C dX4_has_19 (by decide) ?_
        have e9 : r_X4_has B i = (1 : Int32) := by rw [r_X4_has, if_neg h1, if_neg h9, if_neg h15]
        exact j_zret E rfl dX4_has_23 (by rw [e9]; exact ⟨rfl, rfl⟩)


def r_X1_has (B : jB) (i : Int32) : Int32 := (if i < (0 : Int32) then (0 : Int32) else (if (6 : Int32) ≤ i then (0 : Int32) else (1 : Int32)))
set_option maxRecDepth 100000 in
set_option maxHeartbeats 4000000 in
theorem c_X1_has (l : Launch) (D : va_G) (ca : Nat → ClassId) (g : Nat → Nat) (B : jB) (i : Int32) : jM l D ca yX1_has cX1_has 2 (Option.some FieldType.boolean) 0 0 0 0 [.ref (g 2), .int i] (clW ca g B) (jD (some (.int (r_X1_has B i))) (clW ca g B)) := by
  refine jM_of [(0, .ref (g 2)), (1, .int i)] (by decide) (Nat.le_of_ble_eq_true rfl) rfl (fun X C E => ?_)
  refine j_iload_n C dX1_has_0 rfl ?_
  refine j_if_lt (tgt := 14) C dX1_has_1 (by decide) (fun (h1 : i < (0 : Int32)) => ?_) (fun (h1 : ¬ (i < (0 : Int32))) => ?_)
  · refine j_iconst C dX1_has_14 (0 : Int32) (by decide) ?_
    have e9 : r_X1_has B i = (0 : Int32) := by rw [r_X1_has, if_pos h1]
    exact j_zret E rfl dX1_has_15 (by rw [e9]; exact ⟨rfl, rfl⟩)
  · refine j_iload_n C dX1_has_4 rfl ?_
    refine j_bipush C dX1_has_5 (6 : Int32) (by decide) ?_
    refine j_icmp_ge (tgt := 14) C dX1_has_7 (by decide) (fun (h7 : (6 : Int32) ≤ i) => ?_) (fun (h7 : ¬ ((6 : Int32) ≤ i)) => ?_)
    · refine j_iconst C dX1_has_14 (0 : Int32) (by decide) ?_
      have e9 : r_X1_has B i = (0 : Int32) := by rw [r_X1_has, if_neg h1, if_pos h7]
      exact j_zret E rfl dX1_has_15 (by rw [e9]; exact ⟨rfl, rfl⟩)
    · refine j_iconst C dX1_has_10 (1 : Int32) (by decide) ?_
      refine j_goto (tgt := 15) C dX1_has_11 (by decide) ?_
      have e9 : r_X1_has B i = (1 : Int32) := by rw [r_X1_has, if_neg h1, if_neg h7]
      exact j_zret E rfl dX1_has_15 (by rw [e9]; exact ⟨rfl, rfl⟩)
theorem has_X3 {B : jB} {i : Int32} (h : ¬ r_X3_has B i = 0) : vp_in i 20 := by
  unfold r_X3_has at h
  by_cases h1 : i < 0
  · rw [if_pos h1] at h; exact absurd rfl h
  · rw [if_neg h1] at h
    by_cases h2 : B 16 1 ≤ i
    · rw [if_pos h2] at h; exact absurd rfl h
    · rw [if_neg h2] at h
      by_cases h3 : (20 : Int32) ≤ i
      · rw [if_pos h3] at h; exact absurd rfl h
      · exact vin_lt 20 rfl (Int32.not_lt.mp h1) (Int32.not_le.mp h3)
theorem has_X4 {B : jB} {i : Int32} (h : ¬ r_X4_has B i = 0) : vp_in i 8 := by
  unfold r_X4_has at h
  by_cases h1 : i < 0
  · rw [if_pos h1] at h; exact absurd rfl h
  · rw [if_neg h1] at h
    by_cases h2 : B 16 0 ≤ i
    · rw [if_pos h2] at h; exact absurd rfl h
    · rw [if_neg h2] at h
      by_cases h3 : (8 : Int32) ≤ i
      · rw [if_pos h3] at h; exact absurd rfl h
      · exact vin_lt 8 rfl (Int32.not_lt.mp h1) (Int32.not_le.mp h3)
theorem has_X1 {B : jB} {i : Int32} (h : ¬ r_X1_has B i = 0) : vp_in i 6 := by
  unfold r_X1_has at h
  by_cases h1 : i < 0
  · rw [if_pos h1] at h; exact absurd rfl h
  · rw [if_neg h1] at h
    by_cases h3 : (6 : Int32) ≤ i
    · rw [if_pos h3] at h; exact absurd rfl h
    · exact vin_lt 6 rfl (Int32.not_lt.mp h1) (Int32.not_le.mp h3)


def r_X3_isUnsettled (B : jB) (i : Int32) : Int32 := (if (r_X3_has B i) = (0 : Int32) then (0 : Int32) else (if (B 11 i.toNatClampNeg) = (0 : Int32) then (1 : Int32) else (if (B 11 i.toNatClampNeg) = (1 : Int32) then (1 : Int32) else (0 : Int32))))
set_option maxRecDepth 100000 in
set_option maxHeartbeats 4000000 in
theorem c_X3_isUnsettled (l : Launch) (D : va_G) (ca : Nat → ClassId) (g : Nat → Nat) (B : jB) (i : Int32) : jM l D ca yX3_isUnsettled cX3_isUnsettled 2 (Option.some FieldType.boolean) 1 21 0 0 [.ref (g 3), .int i] (ivW ca g B) (jD (some (.int (r_X3_isUnsettled B i))) (ivW ca g B)) := by
  refine jM_of [(0, .ref (g 3)), (1, .int i)] (by decide) (Nat.le_of_ble_eq_true rfl) rfl (fun X C E => ?_)
  refine j_aload_n C dX3_isUnsettled_0 rfl ?_
  refine j_iload_n C dX3_isUnsettled_1 rfl ?_
  refine j_callViRW C g_X3_37 (c_X3_has l D ca g B i) 0 ivW_0 hcl_X3 ⟨Nat.le_of_ble_eq_true rfl, Nat.le_of_ble_eq_true rfl⟩ ⟨Nat.le_of_ble_eq_true rfl, Nat.le_of_ble_eq_true rfl⟩ rfl rfl (Nat.le_of_ble_eq_true rfl) dX3_isUnsettled_2 ?_
  refine j_if_eq (tgt := 31) C dX3_isUnsettled_5 (by decide) (fun (h5 : (r_X3_has B i) = (0 : Int32)) => ?_) (fun (h5 : ¬ ((r_X3_has B i) = (0 : Int32))) => ?_)
  · refine j_iconst C dX3_isUnsettled_31 (0 : Int32) (by decide) ?_
    have e9 : r_X3_isUnsettled B i = (0 : Int32) := by rw [r_X3_isUnsettled, if_pos h5]
    exact j_zret E rfl dX3_isUnsettled_32 (by rw [e9]; exact ⟨rfl, rfl⟩)
  · refine j_aload_n C dX3_isUnsettled_8 rfl ?_
    refine j_get C f_X3_24.F 0 dX3_isUnsettled_9 ivW_0 rfl ?_
    refine j_iload_n C dX3_isUnsettled_12 rfl ?_
    refine j_iald C 5 dX3_isUnsettled_13 ivW_5 (has_X3 h5) ?_
    refine j_if_eq (tgt := 27) C dX3_isUnsettled_14 (by decide) (fun (h14 : (B 11 i.toNatClampNeg) = (0 : Int32)) => ?_) (fun (h14 : ¬ ((B 11 i.toNatClampNeg) = (0 : Int32))) => ?_)
    · refine j_iconst C dX3_isUnsettled_27 (1 : Int32) (by decide) ?_
      refine j_goto (tgt := 32) C dX3_isUnsettled_28 (by decide) ?_
      have e9 : r_X3_isUnsettled B i = (1 : Int32) := by rw [r_X3_isUnsettled, if_neg h5, if_pos h14]
      exact j_zret E rfl dX3_isUnsettled_32 (by rw [e9]; exact ⟨rfl, rfl⟩)
    · refine j_aload_n C dX3_isUnsettled_17 rfl ?_
      refine j_get C f_X3_24.F 0 dX3_isUnsettled_18 ivW_0 rfl ?_
      refine j_iload_n C dX3_isUnsettled_21 rfl ?_
      refine j_iald C 5 dX3_isUnsettled_22 ivW_5 (has_X3 h5) ?_
      refine j_iconst C dX3_isUnsettled_23 (1 : Int32) (by decide) ?_
      refine j_icmp_ne (tgt := 31) C dX3_isUnsettled_24 (by decide) (fun (h24 : ¬ ((B 11 i.toNatClampNeg) = (1 : Int32))) => ?_) (fun (h24 : (B 11 i.toNatClampNeg) = (1 : Int32)) => ?_)
      · refine j_iconst C dX3_isUnsettled_31 (0 : Int32) (by decide) ?_
        have e9 : r_X3_isUnsettled B i = (0 : Int32) := by rw [r_X3_isUnsettled, if_neg h5, if_neg h14, if_neg h24]
        exact j_zret E rfl dX3_isUnsettled_32 (by rw [e9]; exact ⟨rfl, rfl⟩)
      · refine j_iconst C dX3_isUnsettled_27 (1 : Int32) (by decide) ?_
        refine j_goto (tgt := 32) C dX3_isUnsettled_28 (by decide) ?_
        have e9 : r_X3_isUnsettled B i = (1 : Int32) := by rw [r_X3_isUnsettled, if_neg h5, if_neg h14, if_pos h24]
        exact j_zret E rfl dX3_isUnsettled_32 (by rw [e9]; exact ⟨rfl, rfl⟩)
theorem fa_mb_3 {ca : Nat → ClassId} {g : Nat → Nat} {B : jB} {i : Nat} {v : Int32} : (mbW ca g B).set 3 (g 8, .inl (ca 0, 8, .inl (upd (B 2) i v))) = mbW ca g (up2 B 2 i v) := rfl

def r_X4_intoPurse (B : jB) (i : Int32) (c : Int32) : jB := (if (r_X4_has B i) = (0 : Int32) then B else (up2 B 2 (i).toNatClampNeg ((B 2 i.toNatClampNeg) + c)))
set_option maxRecDepth 100000 in
set_option maxHeartbeats 4000000 in
theorem c_X4_intoPurse (l : Launch) (D : va_G) (ca : Nat → ClassId) (g : Nat → Nat) (B : jB) (i : Int32) (c : Int32) : jM l D ca yX4_intoPurse cX4_intoPurse 3 (none : Option FieldType) 1 21 0 0 [.ref (g 1), .int i, .int c] (mbW ca g B) (jD none (mbW ca g (r_X4_intoPurse B i c))) := by
  refine jM_of [(0, .ref (g 1)), (1, .int i), (2, .int c)] (by decide) (Nat.le_of_ble_eq_true rfl) rfl (fun X C E => ?_)
  refine j_aload_n C dX4_intoPurse_0 rfl ?_
  refine j_iload_n C dX4_intoPurse_1 rfl ?_
  refine j_callViRW C g_X4_28 (c_X4_has l D ca g B i) 0 mbW_0 hcl_X4 ⟨Nat.le_of_ble_eq_true rfl, Nat.le_of_ble_eq_true rfl⟩ ⟨Nat.le_of_ble_eq_true rfl, Nat.le_of_ble_eq_true rfl⟩ rfl rfl (Nat.le_of_ble_eq_true rfl) dX4_intoPurse_2 ?_
  refine j_if_eq (tgt := 18) C dX4_intoPurse_5 (by decide) (fun (h5 : (r_X4_has B i) = (0 : Int32)) => ?_) (fun (h5 : ¬ ((r_X4_has B i) = (0 : Int32))) => ?_)
  · have e9 : r_X4_intoPurse B i c = B := by rw [r_X4_intoPurse, if_pos h5]
    exact j_vret E dX4_intoPurse_18 (by rw [e9]; exact ⟨rfl, rfl⟩)
  · refine j_aload_n C dX4_intoPurse_8 rfl ?_
    refine j_get C f_X4_18.F 0 dX4_intoPurse_9 mbW_0 rfl ?_
    refine j_iload_n C dX4_intoPurse_12 rfl ?_
    refine j_dup2 C dX4_intoPurse_13 rfl rfl ?_
    refine j_iald C 3 dX4_intoPurse_14 mbW_3 (has_X4 h5) ?_
    refine j_iload_n C dX4_intoPurse_15 rfl ?_
    refine j_iadd C dX4_intoPurse_16 ?_
    refine j_iast C 3 dX4_intoPurse_17 mbW_3 (has_X4 h5) ?_
    refine j_ws fa_mb_3 ?_
    have e9 : r_X4_intoPurse B i c = (up2 B 2 (i).toNatClampNeg ((B 2 i.toNatClampNeg) + c)) := by rw [r_X4_intoPurse, if_neg h5]
    exact j_vret E dX4_intoPurse_18 (by rw [e9]; exact ⟨rfl, rfl⟩)
theorem fa_mb_4 {ca : Nat → ClassId} {g : Nat → Nat} {B : jB} {i : Nat} {v : Int32} : (mbW ca g B).set 4 (g 9, .inl (ca 0, 8, .inl (upd (B 3) i v))) = mbW ca g (up2 B 3 i v) := rfl

def r_X4_bear (B : jB) (i : Int32) (c : Int32) : jB := (if (r_X4_has B i) = (0 : Int32) then B else (up2 (up2 B 2 (i).toNatClampNeg ((B 2 i.toNatClampNeg) - c)) 3 (i).toNatClampNeg ((B 3 i.toNatClampNeg) + c)))
set_option maxRecDepth 100000 in
set_option maxHeartbeats 4000000 in
theorem c_X4_bear (l : Launch) (D : va_G) (ca : Nat → ClassId) (g : Nat → Nat) (B : jB) (i : Int32) (c : Int32) : jM l D ca yX4_bear cX4_bear 3 (none : Option FieldType) 1 21 0 0 [.ref (g 1), .int i, .int c] (mbW ca g B) (jD none (mbW ca g (r_X4_bear B i c))) := by
  refine jM_of [(0, .ref (g 1)), (1, .int i), (2, .int c)] (by decide) (Nat.le_of_ble_eq_true rfl) rfl (fun X C E => ?_)
  refine j_aload_n C dX4_bear_0 rfl ?_
  refine j_iload_n C dX4_bear_1 rfl ?_
  refine j_callViRW C g_X4_28 (c_X4_has l D ca g B i) 0 mbW_0 hcl_X4 ⟨Nat.le_of_ble_eq_true rfl, Nat.le_of_ble_eq_true rfl⟩ ⟨Nat.le_of_ble_eq_true rfl, Nat.le_of_ble_eq_true rfl⟩ rfl rfl (Nat.le_of_ble_eq_true rfl) dX4_bear_2 ?_
  refine j_if_ne (tgt := 9) C dX4_bear_5 (by decide) (fun (h5 : ¬ ((r_X4_has B i) = (0 : Int32))) => ?_) (fun (h5 : (r_X4_has B i) = (0 : Int32)) => ?_)
  · refine j_aload_n C dX4_bear_9 rfl ?_
    refine j_get C f_X4_18.F 0 dX4_bear_10 mbW_0 rfl ?_
    refine j_iload_n C dX4_bear_13 rfl ?_
    refine j_dup2 C dX4_bear_14 rfl rfl ?_
    refine j_iald C 3 dX4_bear_15 mbW_3 (has_X4 h5) ?_
    refine j_iload_n C dX4_bear_16 rfl ?_
    refine j_isub C dX4_bear_17 ?_
    refine j_iast C 3 dX4_bear_18 mbW_3 (has_X4 h5) ?_
    refine j_ws fa_mb_3 ?_
    refine j_aload_n C dX4_bear_19 rfl ?_
    refine j_get C f_X4_21.F 0 dX4_bear_20 mbW_0 rfl ?_
    refine j_iload_n C dX4_bear_23 rfl ?_
    refine j_dup2 C dX4_bear_24 rfl rfl ?_
    refine j_iald C 4 dX4_bear_25 mbW_4 (has_X4 h5) ?_
    refine j_st (st' := [.int (B 3 i.toNatClampNeg), .int i, .ref (g 9)]) rfl ?_
    refine j_iload_n C dX4_bear_26 rfl ?_
    refine j_iadd C dX4_bear_27 ?_
    refine j_iast C 4 dX4_bear_28 mbW_4 (has_X4 h5) ?_
    refine j_ws fa_mb_4 ?_
    have e9 : r_X4_bear B i c = (up2 (up2 B 2 (i).toNatClampNeg ((B 2 i.toNatClampNeg) - c)) 3 (i).toNatClampNeg ((B 3 i.toNatClampNeg) + c)) := by rw [r_X4_bear, if_neg h5]
    exact j_vret E dX4_bear_29 (by rw [e9]; exact ⟨rfl, rfl⟩)
  · have e9 : r_X4_bear B i c = B := by rw [r_X4_bear, if_pos h5]
    exact j_vret E dX4_bear_8 (by rw [e9]; exact ⟨rfl, rfl⟩)
theorem fa_cl_1 {ca : Nat → ClassId} {g : Nat → Nat} {B : jB} {i : Nat} {v : Int32} : (clW ca g B).set 1 (g 10, .inl (ca 0, 6, .inl (upd (B 4) i v))) = clW ca g (up2 B 4 i v) := rfl
theorem fa_cl_3 {ca : Nat → ClassId} {g : Nat → Nat} {B : jB} {i : Nat} {v : Int32} : (clW ca g B).set 3 (g 12, .inl (ca 0, 6, .inl (upd (B 6) i v))) = clW ca g (up2 B 6 i v) := rfl

def r_X1_addSettled (B : jB) (i : Int32) (c : Int32) : jB := (if (r_X1_has B i) = (0 : Int32) then B else (up2 (up2 B 4 (i).toNatClampNeg ((B 4 i.toNatClampNeg) + (1 : Int32))) 6 (i).toNatClampNeg ((B 6 i.toNatClampNeg) + c)))
set_option maxRecDepth 100000 in
set_option maxHeartbeats 4000000 in
theorem c_X1_addSettled (l : Launch) (D : va_G) (ca : Nat → ClassId) (g : Nat → Nat) (B : jB) (i : Int32) (c : Int32) : jM l D ca yX1_addSettled cX1_addSettled 3 (none : Option FieldType) 1 21 0 0 [.ref (g 2), .int i, .int c] (clW ca g B) (jD none (clW ca g (r_X1_addSettled B i c))) := by
  refine jM_of [(0, .ref (g 2)), (1, .int i), (2, .int c)] (by decide) (Nat.le_of_ble_eq_true rfl) rfl (fun X C E => ?_)
  refine j_aload_n C dX1_addSettled_0 rfl ?_
  refine j_iload_n C dX1_addSettled_1 rfl ?_
  refine j_callViRW C g_X1_21 (c_X1_has l D ca g B i) 0 clW_0 hcl_X1 ⟨Nat.le_of_ble_eq_true rfl, Nat.le_of_ble_eq_true rfl⟩ ⟨Nat.le_of_ble_eq_true rfl, Nat.le_of_ble_eq_true rfl⟩ rfl rfl (Nat.le_of_ble_eq_true rfl) dX1_addSettled_2 ?_
  refine j_if_ne (tgt := 9) C dX1_addSettled_5 (by decide) (fun (h5 : ¬ ((r_X1_has B i) = (0 : Int32))) => ?_) (fun (h5 : (r_X1_has B i) = (0 : Int32)) => ?_)
  · refine j_aload_n C dX1_addSettled_9 rfl ?_
    refine j_get C f_X1_9.F 0 dX1_addSettled_10 clW_0 rfl ?_
    refine j_iload_n C dX1_addSettled_13 rfl ?_
    refine j_dup2 C dX1_addSettled_14 rfl rfl ?_
    refine j_iald C 1 dX1_addSettled_15 clW_1 (has_X1 h5) ?_
    refine j_iconst C dX1_addSettled_16 (1 : Int32) (by decide) ?_
    refine j_iadd C dX1_addSettled_17 ?_
    refine j_iast C 1 dX1_addSettled_18 clW_1 (has_X1 h5) ?_
    refine j_ws fa_cl_1 ?_
    refine j_aload_n C dX1_addSettled_19 rfl ?_
    refine j_get C f_X1_18.F 0 dX1_addSettled_20 clW_0 rfl ?_
    refine j_iload_n C dX1_addSettled_23 rfl ?_
    refine j_dup2 C dX1_addSettled_24 rfl rfl ?_
    refine j_iald C 3 dX1_addSettled_25 clW_3 (has_X1 h5) ?_
    refine j_st (st' := [.int (B 6 i.toNatClampNeg), .int i, .ref (g 12)]) rfl ?_
    refine j_iload_n C dX1_addSettled_26 rfl ?_
    refine j_iadd C dX1_addSettled_27 ?_
    refine j_iast C 3 dX1_addSettled_28 clW_3 (has_X1 h5) ?_
    refine j_ws fa_cl_3 ?_
    have e9 : r_X1_addSettled B i c = (up2 (up2 B 4 (i).toNatClampNeg ((B 4 i.toNatClampNeg) + (1 : Int32))) 6 (i).toNatClampNeg ((B 6 i.toNatClampNeg) + c)) := by rw [r_X1_addSettled, if_neg h5]
    exact j_vret E dX1_addSettled_29 (by rw [e9]; exact ⟨rfl, rfl⟩)
  · have e9 : r_X1_addSettled B i c = B := by rw [r_X1_addSettled, if_pos h5]
    exact j_vret E dX1_addSettled_8 (by rw [e9]; exact ⟨rfl, rfl⟩)
theorem fa_cl_2 {ca : Nat → ClassId} {g : Nat → Nat} {B : jB} {i : Nat} {v : Int32} : (clW ca g B).set 2 (g 11, .inl (ca 0, 6, .inl (upd (B 5) i v))) = clW ca g (up2 B 5 i v) := rfl

def r_X1_addLost (B : jB) (i : Int32) : jB := (if (r_X1_has B i) = (0 : Int32) then B else (up2 B 5 (i).toNatClampNeg ((B 5 i.toNatClampNeg) + (1 : Int32))))
set_option maxRecDepth 100000 in
set_option maxHeartbeats 4000000 in
theorem c_X1_addLost (l : Launch) (D : va_G) (ca : Nat → ClassId) (g : Nat → Nat) (B : jB) (i : Int32) : jM l D ca yX1_addLost cX1_addLost 2 (none : Option FieldType) 1 21 0 0 [.ref (g 2), .int i] (clW ca g B) (jD none (clW ca g (r_X1_addLost B i))) := by
  refine jM_of [(0, .ref (g 2)), (1, .int i)] (by decide) (Nat.le_of_ble_eq_true rfl) rfl (fun X C E => ?_)
  refine j_aload_n C dX1_addLost_0 rfl ?_
  refine j_iload_n C dX1_addLost_1 rfl ?_
  refine j_callViRW C g_X1_21 (c_X1_has l D ca g B i) 0 clW_0 hcl_X1 ⟨Nat.le_of_ble_eq_true rfl, Nat.le_of_ble_eq_true rfl⟩ ⟨Nat.le_of_ble_eq_true rfl, Nat.le_of_ble_eq_true rfl⟩ rfl rfl (Nat.le_of_ble_eq_true rfl) dX1_addLost_2 ?_
  refine j_if_eq (tgt := 18) C dX1_addLost_5 (by decide) (fun (h5 : (r_X1_has B i) = (0 : Int32)) => ?_) (fun (h5 : ¬ ((r_X1_has B i) = (0 : Int32))) => ?_)
  · have e9 : r_X1_addLost B i = B := by rw [r_X1_addLost, if_pos h5]
    exact j_vret E dX1_addLost_18 (by rw [e9]; exact ⟨rfl, rfl⟩)
  · refine j_aload_n C dX1_addLost_8 rfl ?_
    refine j_get C f_X1_15.F 0 dX1_addLost_9 clW_0 rfl ?_
    refine j_iload_n C dX1_addLost_12 rfl ?_
    refine j_dup2 C dX1_addLost_13 rfl rfl ?_
    refine j_iald C 2 dX1_addLost_14 clW_2 (has_X1 h5) ?_
    refine j_iconst C dX1_addLost_15 (1 : Int32) (by decide) ?_
    refine j_iadd C dX1_addLost_16 ?_
    refine j_iast C 2 dX1_addLost_17 clW_2 (has_X1 h5) ?_
    refine j_ws fa_cl_2 ?_
    have e9 : r_X1_addLost B i = (up2 B 5 (i).toNatClampNeg ((B 5 i.toNatClampNeg) + (1 : Int32))) := by rw [r_X1_addLost, if_neg h5]
    exact j_vret E dX1_addLost_18 (by rw [e9]; exact ⟨rfl, rfl⟩)


def L_X4_allDues_4 (B : jB) : Nat → Int32 → Int32 → Int32
  | 0, _, _ => 0
  | n4 + 1, x4_1, x4_2 => (if (8 : Int32) ≤ x4_2 then x4_1 else (if (r_X4_has B x4_2) = (0 : Int32) then L_X4_allDues_4 B n4 x4_1 (x4_2 + (1 : Int32)) else L_X4_allDues_4 B n4 (x4_1 + (B 1 x4_2.toNatClampNeg)) (x4_2 + (1 : Int32))))
def r_X4_allDues (B : jB) : Int32 := L_X4_allDues_4 B 9 (0 : Int32) (0 : Int32)
set_option maxRecDepth 100000 in
set_option maxHeartbeats 4000000 in
theorem c_X4_allDues (l : Launch) (D : va_G) (ca : Nat → ClassId) (g : Nat → Nat) (B : jB) : jM l D ca yX4_allDues cX4_allDues 3 (some .int) 1 21 0 0 [.ref (g 1)] (mbW ca g B) (jD (some (.int (r_X4_allDues B))) (mbW ca g B)) := by
  refine jM_of [(0, .ref (g 1))] (by decide) (Nat.le_of_ble_eq_true rfl) rfl (fun X C E => ?_)
  refine j_iconst C dX4_allDues_0 (0 : Int32) (by decide) ?_
  refine j_istore_n C [(1, _), (0, _)] dX4_allDues_1 (by decide) rfl ?_
  refine j_iconst C dX4_allDues_2 (0 : Int32) (by decide) ?_
  refine j_istore_n C [(2, _), (1, _), (0, _)] dX4_allDues_3 (by decide) rfl ?_
  have K4 : ∀ (n4 : Nat) (x4_1 : Int32) (x4_2 : Int32), ((8 : Int32).toInt - x4_2.toInt).toNat < n4 → r_X4_allDues B = L_X4_allDues_4 B n4 x4_1 x4_2 → J l { frames := 1, cells := 0, slots := 0, locals := 21 } D 3 X 0 0 (mbW ca g B) [(0, .ref (g 1)), (1, .int x4_1), (2, .int x4_2)] [] 4 := by
    intro n4
    induction n4 with
    | zero =>
      intro x4_1 x4_2 hm4
      exact absurd hm4 (Nat.not_lt_zero _)
    | succ n4 ih4 =>
      intro x4_1 x4_2 hm4 hr4
      refine j_iload_n C dX4_allDues_4 rfl ?_
      refine j_bipush C dX4_allDues_5 (8 : Int32) (by decide) ?_
      refine j_icmp_ge (tgt := 33) C dX4_allDues_7 (by decide) (fun (h7 : (8 : Int32) ≤ x4_2) => ?_) (fun (h7 : ¬ ((8 : Int32) ≤ x4_2)) => ?_)
      · refine j_iload_n C dX4_allDues_33 rfl ?_
        have e9 : r_X4_allDues B = x4_1 := by rw [hr4, L_X4_allDues_4, if_pos h7]
        exact j_iret E dX4_allDues_34 (by rw [e9]; exact ⟨rfl, rfl⟩)
      · refine j_aload_n C dX4_allDues_10 rfl ?_
        refine j_iload_n C dX4_allDues_11 rfl ?_
        refine j_callViRW C g_X4_28 (c_X4_has l D ca g B x4_2) 0 mbW_0 hcl_X4 ⟨Nat.le_of_ble_eq_true rfl, Nat.le_of_ble_eq_true rfl⟩ ⟨Nat.le_of_ble_eq_true rfl, Nat.le_of_ble_eq_true rfl⟩ rfl rfl (Nat.le_of_ble_eq_true rfl) dX4_allDues_12 ?_
        refine j_if_eq (tgt := 27) C dX4_allDues_15 (by decide) (fun (h15 : (r_X4_has B x4_2) = (0 : Int32)) => ?_) (fun (h15 : ¬ ((r_X4_has B x4_2) = (0 : Int32))) => ?_)
        · refine j_iinc C [(2, _), (0, _), (1, _)] (v := (x4_2 + (1 : Int32))) dX4_allDues_27 rfl (iinc_1 _) (by decide) rfl ?_
          refine j_goto (tgt := 4) C dX4_allDues_30 (by decide) ?_
          refine j_lv [(0, .ref (g 1)), (1, .int x4_1), (2, .int (x4_2 + (1 : Int32)))] rfl ?_
          exact ih4 x4_1 (x4_2 + (1 : Int32)) (jms h7 hm4) (by rw [hr4, L_X4_allDues_4, if_neg h7, if_pos h15])
        · refine j_iload_n C dX4_allDues_18 rfl ?_
          refine j_aload_n C dX4_allDues_19 rfl ?_
          refine j_get C f_X4_15.F 0 dX4_allDues_20 mbW_0 rfl ?_
          refine j_iload_n C dX4_allDues_23 rfl ?_
          refine j_iald C 2 dX4_allDues_24 mbW_2 (has_X4 h15) ?_
          refine j_iadd C dX4_allDues_25 ?_
          refine j_istore_n C [(1, _), (0, _), (2, _)] dX4_allDues_26 (by decide) rfl ?_
          refine j_iinc C [(2, _), (1, _), (0, _)] (v := (x4_2 + (1 : Int32))) dX4_allDues_27 rfl (iinc_1 _) (by decide) rfl ?_
          refine j_goto (tgt := 4) C dX4_allDues_30 (by decide) ?_
          refine j_lv [(0, .ref (g 1)), (1, .int (x4_1 + (B 1 x4_2.toNatClampNeg))), (2, .int (x4_2 + (1 : Int32)))] rfl ?_
          exact ih4 (x4_1 + (B 1 x4_2.toNatClampNeg)) (x4_2 + (1 : Int32)) (jms h7 hm4) (by rw [hr4, L_X4_allDues_4, if_neg h7, if_neg h15])
  refine j_lv [(0, .ref (g 1)), (1, .int (0 : Int32)), (2, .int (0 : Int32))] rfl ?_
  exact K4 9 (0 : Int32) (0 : Int32) (by decide) (by rw [r_X4_allDues])
end
section


def r_X7_noNumber : UInt32 := (2143289344 : UInt32)
set_option maxRecDepth 100000 in
set_option maxHeartbeats 4000000 in
theorem c_X7_noNumber (l : Launch) (D : va_G) (ca : Nat → ClassId) : jM l D ca yX7_noNumber cX7_noNumber 0 (Option.some FieldType.float) 0 0 0 0 [] [] (jD (some (.float (r_X7_noNumber))) []) := by
  refine jM_of [] (by decide) (Nat.le_of_ble_eq_true rfl) rfl (fun X C E => ?_)
  refine j_ldcwf C q_370 dX7_noNumber_0 ?_
  have e9 : r_X7_noNumber = (2143289344 : UInt32) := by rw [r_X7_noNumber]
  exact j_fret E dX7_noNumber_3 (by rw [e9]; exact ⟨rfl, rfl⟩)


def L_X7_floatOf_40 (b : Int32) : Nat → UInt32 → Int32 → UInt32
  | 0, _, _ => 0
  | n40 + 1, x40_4, x40_5 => (if (150 : Int32) ≤ x40_5 then x40_4 else L_X7_floatOf_40 b n40 (FP.fmul x40_4 (1056964608 : UInt32)) (x40_5 + (1 : Int32)))
def NL_X7_floatOf_40 (b : Int32) : Nat → UInt32 → Int32 → Prop
  | 0, _, _ => True
  | n40 + 1, x40_4, x40_5 => (((150 : Int32) ≤ x40_5 → True) ∧ (¬ ((150 : Int32) ≤ x40_5) → (vf_n32 (FP.fmul x40_4 (1056964608 : UInt32)) ∧ NL_X7_floatOf_40 b n40 (FP.fmul x40_4 (1056964608 : UInt32)) (x40_5 + (1 : Int32)))))
def r_X7_floatOf (b : Int32) : UInt32 := (if ((b).toUInt32 >>> (((23 : Int32)).toUInt32 &&& Int32.toUInt32 31)).toInt32 = (0 : Int32) then (if ((b).toUInt32 >>> (((23 : Int32)).toUInt32 &&& Int32.toUInt32 31)).toInt32 = (0 : Int32) then L_X7_floatOf_40 b (((150 : Int32).toInt - (1 : Int32).toInt).toNat + 1) (FP.i2f (b &&& (8388607 : Int32))) (1 : Int32) else L_X7_floatOf_40 b (((150 : Int32).toInt - (1 : Int32).toInt).toNat + 1) (FP.i2f ((b &&& (8388607 : Int32)) ||| (8388608 : Int32))) (1 : Int32)) else (if ((b).toUInt32 >>> (((23 : Int32)).toUInt32 &&& Int32.toUInt32 31)).toInt32 = (0 : Int32) then L_X7_floatOf_40 b (((150 : Int32).toInt - (((b).toUInt32 >>> (((23 : Int32)).toUInt32 &&& Int32.toUInt32 31)).toInt32).toInt).toNat + 1) (FP.i2f (b &&& (8388607 : Int32))) (((b).toUInt32 >>> (((23 : Int32)).toUInt32 &&& Int32.toUInt32 31)).toInt32) else L_X7_floatOf_40 b (((150 : Int32).toInt - (((b).toUInt32 >>> (((23 : Int32)).toUInt32 &&& Int32.toUInt32 31)).toInt32).toInt).toNat + 1) (FP.i2f ((b &&& (8388607 : Int32)) ||| (8388608 : Int32))) (((b).toUInt32 >>> (((23 : Int32)).toUInt32 &&& Int32.toUInt32 31)).toInt32)))
def n_X7_floatOf (b : Int32) : Prop := ((((b).toUInt32 >>> (((23 : Int32)).toUInt32 &&& Int32.toUInt32 31)).toInt32 = (0 : Int32) → ((((b).toUInt32 >>> (((23 : Int32)).toUInt32 &&& Int32.toUInt32 31)).toInt32 = (0 : Int32) → NL_X7_floatOf_40 b (((150 : Int32).toInt - (1 : Int32).toInt).toNat + 1) (FP.i2f (b &&& (8388607 : Int32))) (1 : Int32)) ∧ (¬ (((b).toUInt32 >>> (((23 : Int32)).toUInt32 &&& Int32.toUInt32 31)).toInt32 = (0 : Int32)) → NL_X7_floatOf_40 b (((150 : Int32).toInt - (1 : Int32).toInt).toNat + 1) (FP.i2f ((b &&& (8388607 : Int32)) ||| (8388608 : Int32))) (1 : Int32)))) ∧ (¬ (((b).toUInt32 >>> (((23 : Int32)).toUInt32 &&& Int32.toUInt32 31)).toInt32 = (0 : Int32)) → ((((b).toUInt32 >>> (((23 : Int32)).toUInt32 &&& Int32.toUInt32 31)).toInt32 = (0 : Int32) → NL_X7_floatOf_40 b (((150 : Int32).toInt - (((b).toUInt32 >>> (((23 : Int32)).toUInt32 &&& Int32.toUInt32 31)).toInt32).toInt).toNat + 1) (FP.i2f (b &&& (8388607 : Int32))) (((b).toUInt32 >>> (((23 : Int32)).toUInt32 &&& Int32.toUInt32 31)).toInt32)) ∧ (¬ (((b).toUInt32 >>> (((23 : Int32)).toUInt32 &&& Int32.toUInt32 31)).toInt32 = (0 : Int32)) → NL_X7_floatOf_40 b (((150 : Int32).toInt - (((b).toUInt32 >>> (((23 : Int32)).toUInt32 &&& Int32.toUInt32 31)).toInt32).toInt).toNat + 1) (FP.i2f ((b &&& (8388607 : Int32)) ||| (8388608 : Int32))) (((b).toUInt32 >>> (((23 : Int32)).toUInt32 &&& Int32.toUInt32 31)).toInt32)))))
set_option maxRecDepth 100000 in
set_option maxHeartbeats 4000000 in
theorem c_X7_floatOf (l : Launch) (D : va_G) (ca : Nat → ClassId) (b : Int32) (hq : n_X7_floatOf b) : jM l D ca yX7_floatOf cX7_floatOf 6 (Option.some FieldType.float) 0 0 0 0 [.int b] [] (jD (some (.float (r_X7_floatOf b))) []) := by
  refine jM_of [(0, .int b)] (by decide) (Nat.le_of_ble_eq_true rfl) rfl (fun X C E => ?_)
  rw [n_X7_floatOf] at hq
  refine j_iload_n C dX7_floatOf_0 rfl ?_
  refine j_bipush C dX7_floatOf_1 (23 : Int32) (by decide) ?_
  refine j_iushr C dX7_floatOf_3 ?_
  refine j_istore_n C [(1, _), (0, _)] dX7_floatOf_4 (by decide) rfl ?_
  refine j_iload_n C dX7_floatOf_5 rfl ?_
  refine j_ldcw C q_268 dX7_floatOf_6 ?_
  refine j_iand C dX7_floatOf_9 ?_
  refine j_istore_n C [(2, _), (1, _), (0, _)] dX7_floatOf_10 (by decide) rfl ?_
  refine j_iload_n C dX7_floatOf_11 rfl ?_
  refine j_if_ne (tgt := 19) C dX7_floatOf_12 (by decide) (fun (h12 : ¬ (((b).toUInt32 >>> (((23 : Int32)).toUInt32 &&& Int32.toUInt32 31)).toInt32 = (0 : Int32))) => ?_) (fun (h12 : ((b).toUInt32 >>> (((23 : Int32)).toUInt32 &&& Int32.toUInt32 31)).toInt32 = (0 : Int32)) => ?_)
  · have hq := hq.2 h12
    refine j_iload_n C dX7_floatOf_19 rfl ?_
    refine j_istore_n C [(3, _), (2, _), (1, _), (0, _)] dX7_floatOf_20 (by decide) rfl ?_
    refine j_iload_n C dX7_floatOf_21 rfl ?_
    refine j_if_ne (tgt := 29) C dX7_floatOf_22 (by decide) (fun (h22 : ¬ (((b).toUInt32 >>> (((23 : Int32)).toUInt32 &&& Int32.toUInt32 31)).toInt32 = (0 : Int32))) => ?_) (fun (h22 : ((b).toUInt32 >>> (((23 : Int32)).toUInt32 &&& Int32.toUInt32 31)).toInt32 = (0 : Int32)) => ?_)
    · have hq := hq.2 h22
      refine j_iload_n C dX7_floatOf_29 rfl ?_
      refine j_ldcw C q_269 dX7_floatOf_30 ?_
      refine j_ior C dX7_floatOf_33 ?_
      refine j_i2f C dX7_floatOf_34 ?_
      refine j_fstore C [(4, _), (3, _), (2, _), (1, _), (0, _)] dX7_floatOf_35 (by decide) rfl ?_
      refine j_iload_n C dX7_floatOf_37 rfl ?_
      refine j_istore C [(5, _), (4, _), (3, _), (2, _), (1, _), (0, _)] dX7_floatOf_38 (by decide) rfl ?_
      have K40 : ∀ (n40 : Nat) (x40_4 : UInt32) (x40_5 : Int32), ((150 : Int32).toInt - x40_5.toInt).toNat < n40 → NL_X7_floatOf_40 b n40 x40_4 x40_5 → r_X7_floatOf b = L_X7_floatOf_40 b n40 x40_4 x40_5 → J l { frames := 0, cells := 0, slots := 0, locals := 0 } D 6 X 0 0 [] [(0, .int b), (1, .int (((b).toUInt32 >>> (((23 : Int32)).toUInt32 &&& Int32.toUInt32 31)).toInt32)), (2, .int (b &&& (8388607 : Int32))), (3, .int (((b).toUInt32 >>> (((23 : Int32)).toUInt32 &&& Int32.toUInt32 31)).toInt32)), (4, .float x40_4), (5, .int x40_5)] [] 40 := by
        intro n40
        induction n40 with
        | zero =>
          intro x40_4 x40_5 hm40
          exact absurd hm40 (Nat.not_lt_zero _)
        | succ n40 ih40 =>
          intro x40_4 x40_5 hm40 hq hr40
          rw [NL_X7_floatOf_40] at hq
          refine j_iload C dX7_floatOf_40 rfl ?_
          refine j_sipush C dX7_floatOf_42 (150 : Int32) (by decide) ?_
          refine j_icmp_ge (tgt := 62) C dX7_floatOf_45 (by decide) (fun (h45 : (150 : Int32) ≤ x40_5) => ?_) (fun (h45 : ¬ ((150 : Int32) ≤ x40_5)) => ?_)
          · have hq := hq.1 h45
            refine j_fload C dX7_floatOf_62 rfl ?_
            have e9 : r_X7_floatOf b = x40_4 := by rw [hr40, L_X7_floatOf_40, if_pos h45]
            exact j_fret E dX7_floatOf_64 (by rw [e9]; exact ⟨rfl, rfl⟩)
          · have hq := hq.2 h45
            refine j_fload C dX7_floatOf_48 rfl ?_
            refine j_ldcwf C q_270 dX7_floatOf_50 ?_
            obtain ⟨hv, hq⟩ := hq
            refine j_fmul C dX7_floatOf_53 hv ?_
            refine j_fstore C [(4, _), (0, _), (1, _), (2, _), (3, _), (5, _)] dX7_floatOf_54 (by decide) rfl ?_
            refine j_iinc C [(5, _), (4, _), (0, _), (1, _), (2, _), (3, _)] (v := (x40_5 + (1 : Int32))) dX7_floatOf_56 rfl (iinc_1 _) (by decide) rfl ?_
            refine j_goto (tgt := 40) C dX7_floatOf_59 (by decide) ?_
            refine j_lv [(0, .int b), (1, .int (((b).toUInt32 >>> (((23 : Int32)).toUInt32 &&& Int32.toUInt32 31)).toInt32)), (2, .int (b &&& (8388607 : Int32))), (3, .int (((b).toUInt32 >>> (((23 : Int32)).toUInt32 &&& Int32.toUInt32 31)).toInt32)), (4, .float (FP.fmul x40_4 (1056964608 : UInt32))), (5, .int (x40_5 + (1 : Int32)))] rfl ?_
            exact ih40 (FP.fmul x40_4 (1056964608 : UInt32)) (x40_5 + (1 : Int32)) (jms h45 hm40) hq (by rw [hr40, L_X7_floatOf_40, if_neg h45])
      refine j_lv [(0, .int b), (1, .int (((b).toUInt32 >>> (((23 : Int32)).toUInt32 &&& Int32.toUInt32 31)).toInt32)), (2, .int (b &&& (8388607 : Int32))), (3, .int (((b).toUInt32 >>> (((23 : Int32)).toUInt32 &&& Int32.toUInt32 31)).toInt32)), (4, .float (FP.i2f ((b &&& (8388607 : Int32)) ||| (8388608 : Int32)))), (5, .int (((b).toUInt32 >>> (((23 : Int32)).toUInt32 &&& Int32.toUInt32 31)).toInt32))] rfl ?_
      exact K40 (((150 : Int32).toInt - (((b).toUInt32 >>> (((23 : Int32)).toUInt32 &&& Int32.toUInt32 31)).toInt32).toInt).toNat + 1) (FP.i2f ((b &&& (8388607 : Int32)) ||| (8388608 : Int32))) (((b).toUInt32 >>> (((23 : Int32)).toUInt32 &&& Int32.toUInt32 31)).toInt32) (Nat.lt_succ_self _) hq (by rw [r_X7_floatOf, if_neg h12, if_neg h22])
    · have hq := hq.1 h22
      refine j_iload_n C dX7_floatOf_25 rfl ?_
      refine j_goto (tgt := 34) C dX7_floatOf_26 (by decide) ?_
      refine j_i2f C dX7_floatOf_34 ?_
      refine j_fstore C [(4, _), (3, _), (2, _), (1, _), (0, _)] dX7_floatOf_35 (by decide) rfl ?_
      refine j_iload_n C dX7_floatOf_37 rfl ?_
      refine j_istore C [(5, _), (4, _), (3, _), (2, _), (1, _), (0, _)] dX7_floatOf_38 (by decide) rfl ?_
      have K40 : ∀ (n40 : Nat) (x40_4 : UInt32) (x40_5 : Int32), ((150 : Int32).toInt - x40_5.toInt).toNat < n40 → NL_X7_floatOf_40 b n40 x40_4 x40_5 → r_X7_floatOf b = L_X7_floatOf_40 b n40 x40_4 x40_5 → J l { frames := 0, cells := 0, slots := 0, locals := 0 } D 6 X 0 0 [] [(0, .int b), (1, .int (((b).toUInt32 >>> (((23 : Int32)).toUInt32 &&& Int32.toUInt32 31)).toInt32)), (2, .int (b &&& (8388607 : Int32))), (3, .int (((b).toUInt32 >>> (((23 : Int32)).toUInt32 &&& Int32.toUInt32 31)).toInt32)), (4, .float x40_4), (5, .int x40_5)] [] 40 := by
        intro n40
        induction n40 with
        | zero =>
          intro x40_4 x40_5 hm40
          exact absurd hm40 (Nat.not_lt_zero _)
        | succ n40 ih40 =>
          intro x40_4 x40_5 hm40 hq hr40
          rw [NL_X7_floatOf_40] at hq
          refine j_iload C dX7_floatOf_40 rfl ?_
          refine j_sipush C dX7_floatOf_42 (150 : Int32) (by decide) ?_
          refine j_icmp_ge (tgt := 62) C dX7_floatOf_45 (by decide) (fun (h45 : (150 : Int32) ≤ x40_5) => ?_) (fun (h45 : ¬ ((150 : Int32) ≤ x40_5)) => ?_)
          · have hq := hq.1 h45
            refine j_fload C dX7_floatOf_62 rfl ?_
            have e9 : r_X7_floatOf b = x40_4 := by rw [hr40, L_X7_floatOf_40, if_pos h45]
            exact j_fret E dX7_floatOf_64 (by rw [e9]; exact ⟨rfl, rfl⟩)
          · have hq := hq.2 h45
            refine j_fload C dX7_floatOf_48 rfl ?_
            refine j_ldcwf C q_270 dX7_floatOf_50 ?_
            obtain ⟨hv, hq⟩ := hq
            refine j_fmul C dX7_floatOf_53 hv ?_
            refine j_fstore C [(4, _), (0, _), (1, _), (2, _), (3, _), (5, _)] dX7_floatOf_54 (by decide) rfl ?_
            refine j_iinc C [(5, _), (4, _), (0, _), (1, _), (2, _), (3, _)] (v := (x40_5 + (1 : Int32))) dX7_floatOf_56 rfl (iinc_1 _) (by decide) rfl ?_
            refine j_goto (tgt := 40) C dX7_floatOf_59 (by decide) ?_
            refine j_lv [(0, .int b), (1, .int (((b).toUInt32 >>> (((23 : Int32)).toUInt32 &&& Int32.toUInt32 31)).toInt32)), (2, .int (b &&& (8388607 : Int32))), (3, .int (((b).toUInt32 >>> (((23 : Int32)).toUInt32 &&& Int32.toUInt32 31)).toInt32)), (4, .float (FP.fmul x40_4 (1056964608 : UInt32))), (5, .int (x40_5 + (1 : Int32)))] rfl ?_
            exact ih40 (FP.fmul x40_4 (1056964608 : UInt32)) (x40_5 + (1 : Int32)) (jms h45 hm40) hq (by rw [hr40, L_X7_floatOf_40, if_neg h45])
      refine j_lv [(0, .int b), (1, .int (((b).toUInt32 >>> (((23 : Int32)).toUInt32 &&& Int32.toUInt32 31)).toInt32)), (2, .int (b &&& (8388607 : Int32))), (3, .int (((b).toUInt32 >>> (((23 : Int32)).toUInt32 &&& Int32.toUInt32 31)).toInt32)), (4, .float (FP.i2f (b &&& (8388607 : Int32)))), (5, .int (((b).toUInt32 >>> (((23 : Int32)).toUInt32 &&& Int32.toUInt32 31)).toInt32))] rfl ?_
      exact K40 (((150 : Int32).toInt - (((b).toUInt32 >>> (((23 : Int32)).toUInt32 &&& Int32.toUInt32 31)).toInt32).toInt).toNat + 1) (FP.i2f (b &&& (8388607 : Int32))) (((b).toUInt32 >>> (((23 : Int32)).toUInt32 &&& Int32.toUInt32 31)).toInt32) (Nat.lt_succ_self _) hq (by rw [r_X7_floatOf, if_neg h12, if_pos h22])
  · have hq := hq.1 h12
    refine j_iconst C dX7_floatOf_15 (1 : Int32) (by decide) ?_
    refine j_goto (tgt := 20) C dX7_floatOf_16 (by decide) ?_
    refine j_istore_n C [(3, _), (2, _), (1, _), (0, _)] dX7_floatOf_20 (by decide) rfl ?_
    refine j_iload_n C dX7_floatOf_21 rfl ?_
    refine j_if_ne (tgt := 29) C dX7_floatOf_22 (by decide) (fun (h22 : ¬ (((b).toUInt32 >>> (((23 : Int32)).toUInt32 &&& Int32.toUInt32 31)).toInt32 = (0 : Int32))) => ?_) (fun (h22 : ((b).toUInt32 >>> (((23 : Int32)).toUInt32 &&& Int32.toUInt32 31)).toInt32 = (0 : Int32)) => ?_)
    · have hq := hq.2 h22
      refine j_iload_n C dX7_floatOf_29 rfl ?_
      refine j_ldcw C q_269 dX7_floatOf_30 ?_
      refine j_ior C dX7_floatOf_33 ?_
      refine j_i2f C dX7_floatOf_34 ?_
      refine j_fstore C [(4, _), (3, _), (2, _), (1, _), (0, _)] dX7_floatOf_35 (by decide) rfl ?_
      refine j_iload_n C dX7_floatOf_37 rfl ?_
      refine j_istore C [(5, _), (4, _), (3, _), (2, _), (1, _), (0, _)] dX7_floatOf_38 (by decide) rfl ?_
      have K40 : ∀ (n40 : Nat) (x40_4 : UInt32) (x40_5 : Int32), ((150 : Int32).toInt - x40_5.toInt).toNat < n40 → NL_X7_floatOf_40 b n40 x40_4 x40_5 → r_X7_floatOf b = L_X7_floatOf_40 b n40 x40_4 x40_5 → J l { frames := 0, cells := 0, slots := 0, locals := 0 } D 6 X 0 0 [] [(0, .int b), (1, .int (((b).toUInt32 >>> (((23 : Int32)).toUInt32 &&& Int32.toUInt32 31)).toInt32)), (2, .int (b &&& (8388607 : Int32))), (3, .int (1 : Int32)), (4, .float x40_4), (5, .int x40_5)] [] 40 := by
        intro n40
        induction n40 with
        | zero =>
          intro x40_4 x40_5 hm40
          exact absurd hm40 (Nat.not_lt_zero _)
        | succ n40 ih40 =>
          intro x40_4 x40_5 hm40 hq hr40
          rw [NL_X7_floatOf_40] at hq
          refine j_iload C dX7_floatOf_40 rfl ?_
          refine j_sipush C dX7_floatOf_42 (150 : Int32) (by decide) ?_
          refine j_icmp_ge (tgt := 62) C dX7_floatOf_45 (by decide) (fun (h45 : (150 : Int32) ≤ x40_5) => ?_) (fun (h45 : ¬ ((150 : Int32) ≤ x40_5)) => ?_)
          · have hq := hq.1 h45
            refine j_fload C dX7_floatOf_62 rfl ?_
            have e9 : r_X7_floatOf b = x40_4 := by rw [hr40, L_X7_floatOf_40, if_pos h45]
            exact j_fret E dX7_floatOf_64 (by rw [e9]; exact ⟨rfl, rfl⟩)
          · have hq := hq.2 h45
            refine j_fload C dX7_floatOf_48 rfl ?_
            refine j_ldcwf C q_270 dX7_floatOf_50 ?_
            obtain ⟨hv, hq⟩ := hq
            refine j_fmul C dX7_floatOf_53 hv ?_
            refine j_fstore C [(4, _), (0, _), (1, _), (2, _), (3, _), (5, _)] dX7_floatOf_54 (by decide) rfl ?_
            refine j_iinc C [(5, _), (4, _), (0, _), (1, _), (2, _), (3, _)] (v := (x40_5 + (1 : Int32))) dX7_floatOf_56 rfl (iinc_1 _) (by decide) rfl ?_
            refine j_goto (tgt := 40) C dX7_floatOf_59 (by decide) ?_
            refine j_lv [(0, .int b), (1, .int (((b).toUInt32 >>> (((23 : Int32)).toUInt32 &&& Int32.toUInt32 31)).toInt32)), (2, .int (b &&& (8388607 : Int32))), (3, .int (1 : Int32)), (4, .float (FP.fmul x40_4 (1056964608 : UInt32))), (5, .int (x40_5 + (1 : Int32)))] rfl ?_
            exact ih40 (FP.fmul x40_4 (1056964608 : UInt32)) (x40_5 + (1 : Int32)) (jms h45 hm40) hq (by rw [hr40, L_X7_floatOf_40, if_neg h45])
      refine j_lv [(0, .int b), (1, .int (((b).toUInt32 >>> (((23 : Int32)).toUInt32 &&& Int32.toUInt32 31)).toInt32)), (2, .int (b &&& (8388607 : Int32))), (3, .int (1 : Int32)), (4, .float (FP.i2f ((b &&& (8388607 : Int32)) ||| (8388608 : Int32)))), (5, .int (1 : Int32))] rfl ?_
      exact K40 (((150 : Int32).toInt - (1 : Int32).toInt).toNat + 1) (FP.i2f ((b &&& (8388607 : Int32)) ||| (8388608 : Int32))) (1 : Int32) (Nat.lt_succ_self _) hq (by rw [r_X7_floatOf, if_pos h12, if_neg h22])
    · have hq := hq.1 h22
      refine j_iload_n C dX7_floatOf_25 rfl ?_
      refine j_goto (tgt := 34) C dX7_floatOf_26 (by decide) ?_
      refine j_i2f C dX7_floatOf_34 ?_
      refine j_fstore C [(4, _), (3, _), (2, _), (1, _), (0, _)] dX7_floatOf_35 (by decide) rfl ?_
      refine j_iload_n C dX7_floatOf_37 rfl ?_
      refine j_istore C [(5, _), (4, _), (3, _), (2, _), (1, _), (0, _)] dX7_floatOf_38 (by decide) rfl ?_
      have K40 : ∀ (n40 : Nat) (x40_4 : UInt32) (x40_5 : Int32), ((150 : Int32).toInt - x40_5.toInt).toNat < n40 → NL_X7_floatOf_40 b n40 x40_4 x40_5 → r_X7_floatOf b = L_X7_floatOf_40 b n40 x40_4 x40_5 → J l { frames := 0, cells := 0, slots := 0, locals := 0 } D 6 X 0 0 [] [(0, .int b), (1, .int (((b).toUInt32 >>> (((23 : Int32)).toUInt32 &&& Int32.toUInt32 31)).toInt32)), (2, .int (b &&& (8388607 : Int32))), (3, .int (1 : Int32)), (4, .float x40_4), (5, .int x40_5)] [] 40 := by
        intro n40
        induction n40 with
        | zero =>
          intro x40_4 x40_5 hm40
          exact absurd hm40 (Nat.not_lt_zero _)
        | succ n40 ih40 =>
          intro x40_4 x40_5 hm40 hq hr40
          rw [NL_X7_floatOf_40] at hq
          refine j_iload C dX7_floatOf_40 rfl ?_
          refine j_sipush C dX7_floatOf_42 (150 : Int32) (by decide) ?_
          refine j_icmp_ge (tgt := 62) C dX7_floatOf_45 (by decide) (fun (h45 : (150 : Int32) ≤ x40_5) => ?_) (fun (h45 : ¬ ((150 : Int32) ≤ x40_5)) => ?_)
          · have hq := hq.1 h45
            refine j_fload C dX7_floatOf_62 rfl ?_
            have e9 : r_X7_floatOf b = x40_4 := by rw [hr40, L_X7_floatOf_40, if_pos h45]
            exact j_fret E dX7_floatOf_64 (by rw [e9]; exact ⟨rfl, rfl⟩)
          · have hq := hq.2 h45
            refine j_fload C dX7_floatOf_48 rfl ?_
            refine j_ldcwf C q_270 dX7_floatOf_50 ?_
            obtain ⟨hv, hq⟩ := hq
            refine j_fmul C dX7_floatOf_53 hv ?_
            refine j_fstore C [(4, _), (0, _), (1, _), (2, _), (3, _), (5, _)] dX7_floatOf_54 (by decide) rfl ?_
            refine j_iinc C [(5, _), (4, _), (0, _), (1, _), (2, _), (3, _)] (v := (x40_5 + (1 : Int32))) dX7_floatOf_56 rfl (iinc_1 _) (by decide) rfl ?_
            refine j_goto (tgt := 40) C dX7_floatOf_59 (by decide) ?_
            refine j_lv [(0, .int b), (1, .int (((b).toUInt32 >>> (((23 : Int32)).toUInt32 &&& Int32.toUInt32 31)).toInt32)), (2, .int (b &&& (8388607 : Int32))), (3, .int (1 : Int32)), (4, .float (FP.fmul x40_4 (1056964608 : UInt32))), (5, .int (x40_5 + (1 : Int32)))] rfl ?_
            exact ih40 (FP.fmul x40_4 (1056964608 : UInt32)) (x40_5 + (1 : Int32)) (jms h45 hm40) hq (by rw [hr40, L_X7_floatOf_40, if_neg h45])
      refine j_lv [(0, .int b), (1, .int (((b).toUInt32 >>> (((23 : Int32)).toUInt32 &&& Int32.toUInt32 31)).toInt32)), (2, .int (b &&& (8388607 : Int32))), (3, .int (1 : Int32)), (4, .float (FP.i2f (b &&& (8388607 : Int32)))), (5, .int (1 : Int32))] rfl ?_
      exact K40 (((150 : Int32).toInt - (1 : Int32).toInt).toNat + 1) (FP.i2f (b &&& (8388607 : Int32))) (1 : Int32) (Nat.lt_succ_self _) hq (by rw [r_X7_floatOf, if_pos h12, if_pos h22])
theorem fa_iv_1 {ca : Nat → ClassId} {g : Nat → Nat} {B : jB} {i : Nat} {v : Int32} : (ivW ca g B).set 1 (g 13, .inl (ca 0, 20, .inl (upd (B 7) i v))) = ivW ca g (up2 B 7 i v) := rfl
theorem fa_iv_2 {ca : Nat → ClassId} {g : Nat → Nat} {B : jB} {i : Nat} {v : Int32} : (ivW ca g B).set 2 (g 14, .inl (ca 0, 20, .inl (upd (B 8) i v))) = ivW ca g (up2 B 8 i v) := rfl
theorem fa_iv_3 {ca : Nat → ClassId} {g : Nat → Nat} {B : jB} {i : Nat} {v : Int32} : (ivW ca g B).set 3 (g 15, .inl (ca 0, 20, .inl (upd (B 9) i v))) = ivW ca g (up2 B 9 i v) := rfl
theorem fa_iv_4 {ca : Nat → ClassId} {g : Nat → Nat} {B : jB} {i : Nat} {v : Int32} : (ivW ca g B).set 4 (g 16, .inl (ca 0, 20, .inl (upd (B 10) i v))) = ivW ca g (up2 B 10 i v) := rfl
theorem fa_iv_5 {ca : Nat → ClassId} {g : Nat → Nat} {B : jB} {i : Nat} {v : Int32} : (ivW ca g B).set 5 (g 17, .inl (ca 0, 20, .inl (upd (B 11) i v))) = ivW ca g (up2 B 11 i v) := rfl
theorem fa_iv_6 {ca : Nat → ClassId} {g : Nat → Nat} {B : jB} {i : Nat} {v : Int32} : (ivW ca g B).set 6 (g 18, .inl (ca 0, 20, .inl (upd (B 12) i v))) = ivW ca g (up2 B 12 i v) := rfl
theorem fa_iv_7 {ca : Nat → ClassId} {g : Nat → Nat} {B : jB} {i : Nat} {v : Int32} : (ivW ca g B).set 7 (g 19, .inl (ca 0, 20, .inl (upd (B 13) i v))) = ivW ca g (up2 B 13 i v) := rfl
theorem fo_iv_0_7 {ca : Nat → ClassId} {g : Nat → Nat} {B : jB} {v : Int32} : (ivW ca g B).set 0 (g 3, .inr (3, [.ref (g 13), .ref (g 14), .ref (g 15), .ref (g 16), .ref (g 17), .ref (g 18), .ref (g 19), .int (B 16 1)].set 7 (.int v))) = ivW ca g (up2 B 16 1 v) := rfl

def r_X3_append (B : jB) (a : Int32) (b : Int32) (c : Int32) (d : Int32) : Int32 × jB := (if (B 16 1) < (0 : Int32) then ((-3 : Int32), B) else (if (B 16 1) < (20 : Int32) then ((((B 16 1) + (1 : Int32)) - (1 : Int32)), (up2 (up2 (up2 (up2 (up2 (up2 (up2 (up2 B 7 ((B 16 1)).toNatClampNeg a) 8 ((B 16 1)).toNatClampNeg b) 9 ((B 16 1)).toNatClampNeg c) 10 ((B 16 1)).toNatClampNeg d) 11 ((B 16 1)).toNatClampNeg (0 : Int32)) 12 ((B 16 1)).toNatClampNeg (0 : Int32)) 13 ((B 16 1)).toNatClampNeg (0 : Int32)) 16 1 ((B 16 1) + (1 : Int32)))) else ((-3 : Int32), B)))
set_option maxRecDepth 100000 in
set_option maxHeartbeats 4000000 in
theorem c_X3_append (l : Launch) (D : va_G) (ca : Nat → ClassId) (g : Nat → Nat) (B : jB) (a : Int32) (b : Int32) (c : Int32) (d : Int32) : jM l D ca yX3_append cX3_append 5 (some .int) 0 0 0 0 [.ref (g 3), .int a, .int b, .int c, .int d] (ivW ca g B) (jD (some (.int (r_X3_append B a b c d).1)) (ivW ca g ((r_X3_append B a b c d).2))) := by
  refine jM_of [(0, .ref (g 3)), (1, .int a), (2, .int b), (3, .int c), (4, .int d)] (by decide) (Nat.le_of_ble_eq_true rfl) rfl (fun X C E => ?_)
  refine j_aload_n C dX3_append_0 rfl ?_
  refine j_get C f_X3_33.F 0 dX3_append_1 ivW_0 rfl ?_
  refine j_if_lt (tgt := 16) C dX3_append_4 (by decide) (fun (h4 : (B 16 1) < (0 : Int32)) => ?_) (fun (h4 : ¬ ((B 16 1) < (0 : Int32))) => ?_)
  · refine j_bipush C dX3_append_16 (-3 : Int32) (by decide) ?_
    have e9 : r_X3_append B a b c d = ((-3 : Int32), B) := by rw [r_X3_append, if_pos h4]
    exact j_iret E dX3_append_18 (by rw [e9]; exact ⟨rfl, rfl⟩)
  · refine j_aload_n C dX3_append_7 rfl ?_
    refine j_get C f_X3_33.F 0 dX3_append_8 ivW_0 rfl ?_
    refine j_bipush C dX3_append_11 (20 : Int32) (by decide) ?_
    refine j_icmp_lt (tgt := 19) C dX3_append_13 (by decide) (fun (h13 : (B 16 1) < (20 : Int32)) => ?_) (fun (h13 : ¬ ((B 16 1) < (20 : Int32))) => ?_)
    · refine j_aload_n C dX3_append_19 rfl ?_
      refine j_get C f_X3_9.F 0 dX3_append_20 ivW_0 rfl ?_
      refine j_aload_n C dX3_append_23 rfl ?_
      refine j_get C f_X3_33.F 0 dX3_append_24 ivW_0 rfl ?_
      refine j_iload_n C dX3_append_27 rfl ?_
      refine j_iast C 1 dX3_append_28 ivW_1 (vin_lt 20 rfl (Int32.not_lt.mp h4) h13) ?_
      refine j_ws fa_iv_1 ?_
      refine j_aload_n C dX3_append_29 rfl ?_
      refine j_get C f_X3_15.F 0 dX3_append_30 ivW_0 rfl ?_
      refine j_aload_n C dX3_append_33 rfl ?_
      refine j_get C f_X3_33.F 0 dX3_append_34 ivW_0 rfl ?_
      refine j_st (st' := [.int (B 16 1), .ref (g 14)]) rfl ?_
      refine j_iload_n C dX3_append_37 rfl ?_
      refine j_iast C 2 dX3_append_38 ivW_2 (vin_lt 20 rfl (Int32.not_lt.mp h4) h13) ?_
      refine j_ws fa_iv_2 ?_
      refine j_aload_n C dX3_append_39 rfl ?_
      refine j_get C f_X3_18.F 0 dX3_append_40 ivW_0 rfl ?_
      refine j_aload_n C dX3_append_43 rfl ?_
      refine j_get C f_X3_33.F 0 dX3_append_44 ivW_0 rfl ?_
      refine j_st (st' := [.int (B 16 1), .ref (g 15)]) rfl ?_
      refine j_iload_n C dX3_append_47 rfl ?_
      refine j_iast C 3 dX3_append_48 ivW_3 (vin_lt 20 rfl (Int32.not_lt.mp h4) h13) ?_
      refine j_ws fa_iv_3 ?_
      refine j_aload_n C dX3_append_49 rfl ?_
      refine j_get C f_X3_21.F 0 dX3_append_50 ivW_0 rfl ?_
      refine j_aload_n C dX3_append_53 rfl ?_
      refine j_get C f_X3_33.F 0 dX3_append_54 ivW_0 rfl ?_
      refine j_st (st' := [.int (B 16 1), .ref (g 16)]) rfl ?_
      refine j_iload C dX3_append_57 rfl ?_
      refine j_iast C 4 dX3_append_59 ivW_4 (vin_lt 20 rfl (Int32.not_lt.mp h4) h13) ?_
      refine j_ws fa_iv_4 ?_
      refine j_aload_n C dX3_append_60 rfl ?_
      refine j_get C f_X3_24.F 0 dX3_append_61 ivW_0 rfl ?_
      refine j_aload_n C dX3_append_64 rfl ?_
      refine j_get C f_X3_33.F 0 dX3_append_65 ivW_0 rfl ?_
      refine j_st (st' := [.int (B 16 1), .ref (g 17)]) rfl ?_
      refine j_iconst C dX3_append_68 (0 : Int32) (by decide) ?_
      refine j_iast C 5 dX3_append_69 ivW_5 (vin_lt 20 rfl (Int32.not_lt.mp h4) h13) ?_
      refine j_ws fa_iv_5 ?_
      refine j_aload_n C dX3_append_70 rfl ?_
      refine j_get C f_X3_27.F 0 dX3_append_71 ivW_0 rfl ?_
      refine j_aload_n C dX3_append_74 rfl ?_
      refine j_get C f_X3_33.F 0 dX3_append_75 ivW_0 rfl ?_
      refine j_st (st' := [.int (B 16 1), .ref (g 18)]) rfl ?_
      refine j_iconst C dX3_append_78 (0 : Int32) (by decide) ?_
      refine j_iast C 6 dX3_append_79 ivW_6 (vin_lt 20 rfl (Int32.not_lt.mp h4) h13) ?_
      refine j_ws fa_iv_6 ?_
      refine j_aload_n C dX3_append_80 rfl ?_
      refine j_get C f_X3_30.F 0 dX3_append_81 ivW_0 rfl ?_
      refine j_aload_n C dX3_append_84 rfl ?_
      refine j_get C f_X3_33.F 0 dX3_append_85 ivW_0 rfl ?_
      refine j_st (st' := [.int (B 16 1), .ref (g 19)]) rfl ?_
      refine j_iconst C dX3_append_88 (0 : Int32) (by decide) ?_
      refine j_iast C 7 dX3_append_89 ivW_7 (vin_lt 20 rfl (Int32.not_lt.mp h4) h13) ?_
      refine j_ws fa_iv_7 ?_
      refine j_aload_n C dX3_append_90 rfl ?_
      refine j_dup C dX3_append_91 rfl ?_
      refine j_get C f_X3_33.F 0 dX3_append_92 ivW_0 rfl ?_
      refine j_st (st' := [.int (B 16 1), .ref (g 3)]) rfl ?_
      refine j_iconst C dX3_append_95 (1 : Int32) (by decide) ?_
      refine j_iadd C dX3_append_96 ?_
      refine j_put C f_X3_33 0 dX3_append_97 ivW_0 (Nat.le_of_ble_eq_true rfl) rfl rfl ?_
      refine j_ws fo_iv_0_7 ?_
      refine j_aload_n C dX3_append_100 rfl ?_
      refine j_get C f_X3_33.F 0 dX3_append_101 ivW_0 rfl ?_
      refine j_st (st' := [.int ((B 16 1) + (1 : Int32))]) rfl ?_
      refine j_iconst C dX3_append_104 (1 : Int32) (by decide) ?_
      refine j_isub C dX3_append_105 ?_
      have e9 : r_X3_append B a b c d = ((((B 16 1) + (1 : Int32)) - (1 : Int32)), (up2 (up2 (up2 (up2 (up2 (up2 (up2 (up2 B 7 ((B 16 1)).toNatClampNeg a) 8 ((B 16 1)).toNatClampNeg b) 9 ((B 16 1)).toNatClampNeg c) 10 ((B 16 1)).toNatClampNeg d) 11 ((B 16 1)).toNatClampNeg (0 : Int32)) 12 ((B 16 1)).toNatClampNeg (0 : Int32)) 13 ((B 16 1)).toNatClampNeg (0 : Int32)) 16 1 ((B 16 1) + (1 : Int32)))) := by rw [r_X3_append, if_neg h4, if_pos h13]
      exact j_iret E dX3_append_106 (by rw [e9]; exact ⟨rfl, rfl⟩)
    · refine j_bipush C dX3_append_16 (-3 : Int32) (by decide) ?_
      have e9 : r_X3_append B a b c d = ((-3 : Int32), B) := by rw [r_X3_append, if_neg h4, if_neg h13]
      exact j_iret E dX3_append_18 (by rw [e9]; exact ⟨rfl, rfl⟩)
theorem fa_mb_1 {ca : Nat → ClassId} {g : Nat → Nat} {B : jB} {i : Nat} {v : Int32} : (mbW ca g B).set 1 (g 6, .inl (ca 0, 8, .inl (upd (B 0) i v))) = mbW ca g (up2 B 0 i v) := rfl
theorem fa_mb_2 {ca : Nat → ClassId} {g : Nat → Nat} {B : jB} {i : Nat} {v : Int32} : (mbW ca g B).set 2 (g 7, .inl (ca 0, 8, .inl (upd (B 1) i v))) = mbW ca g (up2 B 1 i v) := rfl
theorem fo_mb_0_4 {ca : Nat → ClassId} {g : Nat → Nat} {B : jB} {v : Int32} : (mbW ca g B).set 0 (g 1, .inr (4, [.ref (g 6), .ref (g 7), .ref (g 8), .ref (g 9), .int (B 16 0)].set 4 (.int v))) = mbW ca g (up2 B 16 0 v) := rfl

def r_X4_append (B : jB) (a : Int32) : Int32 × jB := (if (B 16 0) < (0 : Int32) then ((-3 : Int32), B) else (if (B 16 0) < (8 : Int32) then ((((B 16 0) + (1 : Int32)) - (1 : Int32)), (up2 (up2 (up2 (up2 (up2 B 0 ((B 16 0)).toNatClampNeg a) 1 ((B 16 0)).toNatClampNeg (0 : Int32)) 2 ((B 16 0)).toNatClampNeg (0 : Int32)) 3 ((B 16 0)).toNatClampNeg (0 : Int32)) 16 0 ((B 16 0) + (1 : Int32)))) else ((-3 : Int32), B)))
set_option maxRecDepth 100000 in
set_option maxHeartbeats 4000000 in
theorem c_X4_append (l : Launch) (D : va_G) (ca : Nat → ClassId) (g : Nat → Nat) (B : jB) (a : Int32) : jM l D ca yX4_append cX4_append 2 (some .int) 0 0 0 0 [.ref (g 1), .int a] (mbW ca g B) (jD (some (.int (r_X4_append B a).1)) (mbW ca g ((r_X4_append B a).2))) := by
  refine jM_of [(0, .ref (g 1)), (1, .int a)] (by decide) (Nat.le_of_ble_eq_true rfl) rfl (fun X C E => ?_)
  refine j_aload_n C dX4_append_0 rfl ?_
  refine j_get C f_X4_24.F 0 dX4_append_1 mbW_0 rfl ?_
  refine j_if_lt (tgt := 16) C dX4_append_4 (by decide) (fun (h4 : (B 16 0) < (0 : Int32)) => ?_) (fun (h4 : ¬ ((B 16 0) < (0 : Int32))) => ?_)
  · refine j_bipush C dX4_append_16 (-3 : Int32) (by decide) ?_
    have e9 : r_X4_append B a = ((-3 : Int32), B) := by rw [r_X4_append, if_pos h4]
    exact j_iret E dX4_append_18 (by rw [e9]; exact ⟨rfl, rfl⟩)
  · refine j_aload_n C dX4_append_7 rfl ?_
    refine j_get C f_X4_24.F 0 dX4_append_8 mbW_0 rfl ?_
    refine j_bipush C dX4_append_11 (8 : Int32) (by decide) ?_
    refine j_icmp_lt (tgt := 19) C dX4_append_13 (by decide) (fun (h13 : (B 16 0) < (8 : Int32)) => ?_) (fun (h13 : ¬ ((B 16 0) < (8 : Int32))) => ?_)
    · refine j_aload_n C dX4_append_19 rfl ?_
      refine j_get C f_X4_9.F 0 dX4_append_20 mbW_0 rfl ?_
      refine j_aload_n C dX4_append_23 rfl ?_
      refine j_get C f_X4_24.F 0 dX4_append_24 mbW_0 rfl ?_
      refine j_iload_n C dX4_append_27 rfl ?_
      refine j_iast C 1 dX4_append_28 mbW_1 (vin_lt 8 rfl (Int32.not_lt.mp h4) h13) ?_
      refine j_ws fa_mb_1 ?_
      refine j_aload_n C dX4_append_29 rfl ?_
      refine j_get C f_X4_15.F 0 dX4_append_30 mbW_0 rfl ?_
      refine j_aload_n C dX4_append_33 rfl ?_
      refine j_get C f_X4_24.F 0 dX4_append_34 mbW_0 rfl ?_
      refine j_st (st' := [.int (B 16 0), .ref (g 7)]) rfl ?_
      refine j_iconst C dX4_append_37 (0 : Int32) (by decide) ?_
      refine j_iast C 2 dX4_append_38 mbW_2 (vin_lt 8 rfl (Int32.not_lt.mp h4) h13) ?_
      refine j_ws fa_mb_2 ?_
      refine j_aload_n C dX4_append_39 rfl ?_
      refine j_get C f_X4_18.F 0 dX4_append_40 mbW_0 rfl ?_
      refine j_aload_n C dX4_append_43 rfl ?_
      refine j_get C f_X4_24.F 0 dX4_append_44 mbW_0 rfl ?_
      refine j_st (st' := [.int (B 16 0), .ref (g 8)]) rfl ?_
      refine j_iconst C dX4_append_47 (0 : Int32) (by decide) ?_
      refine j_iast C 3 dX4_append_48 mbW_3 (vin_lt 8 rfl (Int32.not_lt.mp h4) h13) ?_
      refine j_ws fa_mb_3 ?_
      refine j_aload_n C dX4_append_49 rfl ?_
      refine j_get C f_X4_21.F 0 dX4_append_50 mbW_0 rfl ?_
      refine j_aload_n C dX4_append_53 rfl ?_
      refine j_get C f_X4_24.F 0 dX4_append_54 mbW_0 rfl ?_
      refine j_st (st' := [.int (B 16 0), .ref (g 9)]) rfl ?_
      refine j_iconst C dX4_append_57 (0 : Int32) (by decide) ?_
      refine j_iast C 4 dX4_append_58 mbW_4 (vin_lt 8 rfl (Int32.not_lt.mp h4) h13) ?_
      refine j_ws fa_mb_4 ?_
      refine j_aload_n C dX4_append_59 rfl ?_
      refine j_dup C dX4_append_60 rfl ?_
      refine j_get C f_X4_24.F 0 dX4_append_61 mbW_0 rfl ?_
      refine j_st (st' := [.int (B 16 0), .ref (g 1)]) rfl ?_
      refine j_iconst C dX4_append_64 (1 : Int32) (by decide) ?_
      refine j_iadd C dX4_append_65 ?_
      refine j_put C f_X4_24 0 dX4_append_66 mbW_0 (Nat.le_of_ble_eq_true rfl) rfl rfl ?_
      refine j_ws fo_mb_0_4 ?_
      refine j_aload_n C dX4_append_69 rfl ?_
      refine j_get C f_X4_24.F 0 dX4_append_70 mbW_0 rfl ?_
      refine j_st (st' := [.int ((B 16 0) + (1 : Int32))]) rfl ?_
      refine j_iconst C dX4_append_73 (1 : Int32) (by decide) ?_
      refine j_isub C dX4_append_74 ?_
      have e9 : r_X4_append B a = ((((B 16 0) + (1 : Int32)) - (1 : Int32)), (up2 (up2 (up2 (up2 (up2 B 0 ((B 16 0)).toNatClampNeg a) 1 ((B 16 0)).toNatClampNeg (0 : Int32)) 2 ((B 16 0)).toNatClampNeg (0 : Int32)) 3 ((B 16 0)).toNatClampNeg (0 : Int32)) 16 0 ((B 16 0) + (1 : Int32)))) := by rw [r_X4_append, if_neg h4, if_pos h13]
      exact j_iret E dX4_append_75 (by rw [e9]; exact ⟨rfl, rfl⟩)
    · refine j_bipush C dX4_append_16 (-3 : Int32) (by decide) ?_
      have e9 : r_X4_append B a = ((-3 : Int32), B) := by rw [r_X4_append, if_neg h4, if_neg h13]
      exact j_iret E dX4_append_18 (by rw [e9]; exact ⟨rfl, rfl⟩)


def L_X4_allWeights_4 (B : jB) : Nat → Int32 → Int32 → Int32
  | 0, _, _ => 0
  | n4 + 1, x4_1, x4_2 => (if (8 : Int32) ≤ x4_2 then x4_1 else (if (r_X4_has B x4_2) = (0 : Int32) then L_X4_allWeights_4 B n4 x4_1 (x4_2 + (1 : Int32)) else L_X4_allWeights_4 B n4 (x4_1 + (B 0 x4_2.toNatClampNeg)) (x4_2 + (1 : Int32))))
def r_X4_allWeights (B : jB) : Int32 := L_X4_allWeights_4 B 9 (0 : Int32) (0 : Int32)
set_option maxRecDepth 100000 in
set_option maxHeartbeats 4000000 in
theorem c_X4_allWeights (l : Launch) (D : va_G) (ca : Nat → ClassId) (g : Nat → Nat) (B : jB) : jM l D ca yX4_allWeights cX4_allWeights 3 (some .int) 1 21 0 0 [.ref (g 1)] (mbW ca g B) (jD (some (.int (r_X4_allWeights B))) (mbW ca g B)) := by
  refine jM_of [(0, .ref (g 1))] (by decide) (Nat.le_of_ble_eq_true rfl) rfl (fun X C E => ?_)
  refine j_iconst C dX4_allWeights_0 (0 : Int32) (by decide) ?_
  refine j_istore_n C [(1, _), (0, _)] dX4_allWeights_1 (by decide) rfl ?_
  refine j_iconst C dX4_allWeights_2 (0 : Int32) (by decide) ?_
  refine j_istore_n C [(2, _), (1, _), (0, _)] dX4_allWeights_3 (by decide) rfl ?_
  have K4 : ∀ (n4 : Nat) (x4_1 : Int32) (x4_2 : Int32), ((8 : Int32).toInt - x4_2.toInt).toNat < n4 → r_X4_allWeights B = L_X4_allWeights_4 B n4 x4_1 x4_2 → J l { frames := 1, cells := 0, slots := 0, locals := 21 } D 3 X 0 0 (mbW ca g B) [(0, .ref (g 1)), (1, .int x4_1), (2, .int x4_2)] [] 4 := by
    intro n4
    induction n4 with
    | zero =>
      intro x4_1 x4_2 hm4
      exact absurd hm4 (Nat.not_lt_zero _)
    | succ n4 ih4 =>
      intro x4_1 x4_2 hm4 hr4
      refine j_iload_n C dX4_allWeights_4 rfl ?_
      refine j_bipush C dX4_allWeights_5 (8 : Int32) (by decide) ?_
      refine j_icmp_ge (tgt := 33) C dX4_allWeights_7 (by decide) (fun (h7 : (8 : Int32) ≤ x4_2) => ?_) (fun (h7 : ¬ ((8 : Int32) ≤ x4_2)) => ?_)
      · refine j_iload_n C dX4_allWeights_33 rfl ?_
        have e9 : r_X4_allWeights B = x4_1 := by rw [hr4, L_X4_allWeights_4, if_pos h7]
        exact j_iret E dX4_allWeights_34 (by rw [e9]; exact ⟨rfl, rfl⟩)
      · refine j_aload_n C dX4_allWeights_10 rfl ?_
        refine j_iload_n C dX4_allWeights_11 rfl ?_
        refine j_callViRW C g_X4_28 (c_X4_has l D ca g B x4_2) 0 mbW_0 hcl_X4 ⟨Nat.le_of_ble_eq_true rfl, Nat.le_of_ble_eq_true rfl⟩ ⟨Nat.le_of_ble_eq_true rfl, Nat.le_of_ble_eq_true rfl⟩ rfl rfl (Nat.le_of_ble_eq_true rfl) dX4_allWeights_12 ?_
        refine j_if_eq (tgt := 27) C dX4_allWeights_15 (by decide) (fun (h15 : (r_X4_has B x4_2) = (0 : Int32)) => ?_) (fun (h15 : ¬ ((r_X4_has B x4_2) = (0 : Int32))) => ?_)
        · refine j_iinc C [(2, _), (0, _), (1, _)] (v := (x4_2 + (1 : Int32))) dX4_allWeights_27 rfl (iinc_1 _) (by decide) rfl ?_
          refine j_goto (tgt := 4) C dX4_allWeights_30 (by decide) ?_
          refine j_lv [(0, .ref (g 1)), (1, .int x4_1), (2, .int (x4_2 + (1 : Int32)))] rfl ?_
          exact ih4 x4_1 (x4_2 + (1 : Int32)) (jms h7 hm4) (by rw [hr4, L_X4_allWeights_4, if_neg h7, if_pos h15])
        · refine j_iload_n C dX4_allWeights_18 rfl ?_
          refine j_aload_n C dX4_allWeights_19 rfl ?_
          refine j_get C f_X4_9.F 0 dX4_allWeights_20 mbW_0 rfl ?_
          refine j_iload_n C dX4_allWeights_23 rfl ?_
          refine j_iald C 1 dX4_allWeights_24 mbW_1 (has_X4 h15) ?_
          refine j_iadd C dX4_allWeights_25 ?_
          refine j_istore_n C [(1, _), (0, _), (2, _)] dX4_allWeights_26 (by decide) rfl ?_
          refine j_iinc C [(2, _), (1, _), (0, _)] (v := (x4_2 + (1 : Int32))) dX4_allWeights_27 rfl (iinc_1 _) (by decide) rfl ?_
          refine j_goto (tgt := 4) C dX4_allWeights_30 (by decide) ?_
          refine j_lv [(0, .ref (g 1)), (1, .int (x4_1 + (B 0 x4_2.toNatClampNeg))), (2, .int (x4_2 + (1 : Int32)))] rfl ?_
          exact ih4 (x4_1 + (B 0 x4_2.toNatClampNeg)) (x4_2 + (1 : Int32)) (jms h7 hm4) (by rw [hr4, L_X4_allWeights_4, if_neg h7, if_neg h15])
  refine j_lv [(0, .ref (g 1)), (1, .int (0 : Int32)), (2, .int (0 : Int32))] rfl ?_
  exact K4 9 (0 : Int32) (0 : Int32) (by decide) (by rw [r_X4_allWeights])


def L_X3_countOfMember_4 (B : jB) (a : Int32) : Nat → Int32 → Int32 → Int32
  | 0, _, _ => 0
  | n4 + 1, x4_2, x4_3 => (if (20 : Int32) ≤ x4_3 then x4_2 else (if (r_X3_has B x4_3) = (0 : Int32) then L_X3_countOfMember_4 B a n4 x4_2 (x4_3 + (1 : Int32)) else (if (B 7 x4_3.toNatClampNeg) = a then L_X3_countOfMember_4 B a n4 (x4_2 + (1 : Int32)) (x4_3 + (1 : Int32)) else L_X3_countOfMember_4 B a n4 x4_2 (x4_3 + (1 : Int32)))))
def r_X3_countOfMember (B : jB) (a : Int32) : Int32 := L_X3_countOfMember_4 B a 21 (0 : Int32) (0 : Int32)
set_option maxRecDepth 100000 in
set_option maxHeartbeats 4000000 in
theorem c_X3_countOfMember (l : Launch) (D : va_G) (ca : Nat → ClassId) (g : Nat → Nat) (B : jB) (a : Int32) : jM l D ca yX3_countOfMember cX3_countOfMember 4 (some .int) 1 21 0 0 [.ref (g 3), .int a] (ivW ca g B) (jD (some (.int (r_X3_countOfMember B a))) (ivW ca g B)) := by
  refine jM_of [(0, .ref (g 3)), (1, .int a)] (by decide) (Nat.le_of_ble_eq_true rfl) rfl (fun X C E => ?_)
  refine j_iconst C dX3_countOfMember_0 (0 : Int32) (by decide) ?_
  refine j_istore_n C [(2, _), (0, _), (1, _)] dX3_countOfMember_1 (by decide) rfl ?_
  refine j_iconst C dX3_countOfMember_2 (0 : Int32) (by decide) ?_
  refine j_istore_n C [(3, _), (2, _), (0, _), (1, _)] dX3_countOfMember_3 (by decide) rfl ?_
  have K4 : ∀ (n4 : Nat) (x4_2 : Int32) (x4_3 : Int32), ((20 : Int32).toInt - x4_3.toInt).toNat < n4 → r_X3_countOfMember B a = L_X3_countOfMember_4 B a n4 x4_2 x4_3 → J l { frames := 1, cells := 0, slots := 0, locals := 21 } D 4 X 0 0 (ivW ca g B) [(0, .ref (g 3)), (1, .int a), (2, .int x4_2), (3, .int x4_3)] [] 4 := by
    intro n4
    induction n4 with
    | zero =>
      intro x4_2 x4_3 hm4
      exact absurd hm4 (Nat.not_lt_zero _)
    | succ n4 ih4 =>
      intro x4_2 x4_3 hm4 hr4
      refine j_iload_n C dX3_countOfMember_4 rfl ?_
      refine j_bipush C dX3_countOfMember_5 (20 : Int32) (by decide) ?_
      refine j_icmp_ge (tgt := 37) C dX3_countOfMember_7 (by decide) (fun (h7 : (20 : Int32) ≤ x4_3) => ?_) (fun (h7 : ¬ ((20 : Int32) ≤ x4_3)) => ?_)
      · refine j_iload_n C dX3_countOfMember_37 rfl ?_
        have e9 : r_X3_countOfMember B a = x4_2 := by rw [hr4, L_X3_countOfMember_4, if_pos h7]
        exact j_iret E dX3_countOfMember_38 (by rw [e9]; exact ⟨rfl, rfl⟩)
      · refine j_aload_n C dX3_countOfMember_10 rfl ?_
        refine j_iload_n C dX3_countOfMember_11 rfl ?_
        refine j_callViRW C g_X3_37 (c_X3_has l D ca g B x4_3) 0 ivW_0 hcl_X3 ⟨Nat.le_of_ble_eq_true rfl, Nat.le_of_ble_eq_true rfl⟩ ⟨Nat.le_of_ble_eq_true rfl, Nat.le_of_ble_eq_true rfl⟩ rfl rfl (Nat.le_of_ble_eq_true rfl) dX3_countOfMember_12 ?_
        refine j_if_eq (tgt := 31) C dX3_countOfMember_15 (by decide) (fun (h15 : (r_X3_has B x4_3) = (0 : Int32)) => ?_) (fun (h15 : ¬ ((r_X3_has B x4_3) = (0 : Int32))) => ?_)
        · refine j_iinc C [(3, _), (0, _), (1, _), (2, _)] (v := (x4_3 + (1 : Int32))) dX3_countOfMember_31 rfl (iinc_1 _) (by decide) rfl ?_
          refine j_goto (tgt := 4) C dX3_countOfMember_34 (by decide) ?_
          refine j_lv [(0, .ref (g 3)), (1, .int a), (2, .int x4_2), (3, .int (x4_3 + (1 : Int32)))] rfl ?_
          exact ih4 x4_2 (x4_3 + (1 : Int32)) (jms h7 hm4) (by rw [hr4, L_X3_countOfMember_4, if_neg h7, if_pos h15])
        · refine j_aload_n C dX3_countOfMember_18 rfl ?_
          refine j_get C f_X3_9.F 0 dX3_countOfMember_19 ivW_0 rfl ?_
          refine j_iload_n C dX3_countOfMember_22 rfl ?_
          refine j_iald C 1 dX3_countOfMember_23 ivW_1 (has_X3 h15) ?_
          refine j_iload_n C dX3_countOfMember_24 rfl ?_
          refine j_icmp_ne (tgt := 31) C dX3_countOfMember_25 (by decide) (fun (h25 : ¬ ((B 7 x4_3.toNatClampNeg) = a)) => ?_) (fun (h25 : (B 7 x4_3.toNatClampNeg) = a) => ?_)
          · refine j_iinc C [(3, _), (0, _), (1, _), (2, _)] (v := (x4_3 + (1 : Int32))) dX3_countOfMember_31 rfl (iinc_1 _) (by decide) rfl ?_
            refine j_goto (tgt := 4) C dX3_countOfMember_34 (by decide) ?_
            refine j_lv [(0, .ref (g 3)), (1, .int a), (2, .int x4_2), (3, .int (x4_3 + (1 : Int32)))] rfl ?_
            exact ih4 x4_2 (x4_3 + (1 : Int32)) (jms h7 hm4) (by rw [hr4, L_X3_countOfMember_4, if_neg h7, if_neg h15, if_neg h25])
          · refine j_iinc C [(2, _), (0, _), (1, _), (3, _)] (v := (x4_2 + (1 : Int32))) dX3_countOfMember_28 rfl (iinc_1 _) (by decide) rfl ?_
            refine j_iinc C [(3, _), (2, _), (0, _), (1, _)] (v := (x4_3 + (1 : Int32))) dX3_countOfMember_31 rfl (iinc_1 _) (by decide) rfl ?_
            refine j_goto (tgt := 4) C dX3_countOfMember_34 (by decide) ?_
            refine j_lv [(0, .ref (g 3)), (1, .int a), (2, .int (x4_2 + (1 : Int32))), (3, .int (x4_3 + (1 : Int32)))] rfl ?_
            exact ih4 (x4_2 + (1 : Int32)) (x4_3 + (1 : Int32)) (jms h7 hm4) (by rw [hr4, L_X3_countOfMember_4, if_neg h7, if_neg h15, if_pos h25])
  refine j_lv [(0, .ref (g 3)), (1, .int a), (2, .int (0 : Int32)), (3, .int (0 : Int32))] rfl ?_
  exact K4 21 (0 : Int32) (0 : Int32) (by decide) (by rw [r_X3_countOfMember])


def L_X3_countOfMemberAhead_4 (B : jB) (a : Int32) : Nat → Int32 → Int32 → Int32
  | 0, _, _ => 0
  | n4 + 1, x4_2, x4_3 => (if (20 : Int32) ≤ x4_3 then x4_2 else (if (r_X3_has B x4_3) = (0 : Int32) then L_X3_countOfMemberAhead_4 B a n4 x4_2 (x4_3 + (1 : Int32)) else (if (B 7 x4_3.toNatClampNeg) = a then (if (B 11 x4_3.toNatClampNeg) = (1 : Int32) then L_X3_countOfMemberAhead_4 B a n4 (x4_2 + (1 : Int32)) (x4_3 + (1 : Int32)) else L_X3_countOfMemberAhead_4 B a n4 x4_2 (x4_3 + (1 : Int32))) else L_X3_countOfMemberAhead_4 B a n4 x4_2 (x4_3 + (1 : Int32)))))
def r_X3_countOfMemberAhead (B : jB) (a : Int32) : Int32 := L_X3_countOfMemberAhead_4 B a 21 (0 : Int32) (0 : Int32)
set_option maxRecDepth 100000 in
set_option maxHeartbeats 4000000 in
theorem c_X3_countOfMemberAhead (l : Launch) (D : va_G) (ca : Nat → ClassId) (g : Nat → Nat) (B : jB) (a : Int32) : jM l D ca yX3_countOfMemberAhead cX3_countOfMemberAhead 4 (some .int) 1 21 0 0 [.ref (g 3), .int a] (ivW ca g B) (jD (some (.int (r_X3_countOfMemberAhead B a))) (ivW ca g B)) := by
  refine jM_of [(0, .ref (g 3)), (1, .int a)] (by decide) (Nat.le_of_ble_eq_true rfl) rfl (fun X C E => ?_)
  refine j_iconst C dX3_countOfMemberAhead_0 (0 : Int32) (by decide) ?_
  refine j_istore_n C [(2, _), (0, _), (1, _)] dX3_countOfMemberAhead_1 (by decide) rfl ?_
  refine j_iconst C dX3_countOfMemberAhead_2 (0 : Int32) (by decide) ?_
  refine j_istore_n C [(3, _), (2, _), (0, _), (1, _)] dX3_countOfMemberAhead_3 (by decide) rfl ?_
  have K4 : ∀ (n4 : Nat) (x4_2 : Int32) (x4_3 : Int32), ((20 : Int32).toInt - x4_3.toInt).toNat < n4 → r_X3_countOfMemberAhead B a = L_X3_countOfMemberAhead_4 B a n4 x4_2 x4_3 → J l { frames := 1, cells := 0, slots := 0, locals := 21 } D 4 X 0 0 (ivW ca g B) [(0, .ref (g 3)), (1, .int a), (2, .int x4_2), (3, .int x4_3)] [] 4 := by
    intro n4
    induction n4 with
    | zero =>
      intro x4_2 x4_3 hm4
      exact absurd hm4 (Nat.not_lt_zero _)
    | succ n4 ih4 =>
      intro x4_2 x4_3 hm4 hr4
      refine j_iload_n C dX3_countOfMemberAhead_4 rfl ?_
      refine j_bipush C dX3_countOfMemberAhead_5 (20 : Int32) (by decide) ?_
      refine j_icmp_ge (tgt := 47) C dX3_countOfMemberAhead_7 (by decide) (fun (h7 : (20 : Int32) ≤ x4_3) => ?_) (fun (h7 : ¬ ((20 : Int32) ≤ x4_3)) => ?_)
      · refine j_iload_n C dX3_countOfMemberAhead_47 rfl ?_
        have e9 : r_X3_countOfMemberAhead B a = x4_2 := by rw [hr4, L_X3_countOfMemberAhead_4, if_pos h7]
        exact j_iret E dX3_countOfMemberAhead_48 (by rw [e9]; exact ⟨rfl, rfl⟩)
      · refine j_aload_n C dX3_countOfMemberAhead_10 rfl ?_
        refine j_iload_n C dX3_countOfMemberAhead_11 rfl ?_
        refine j_callViRW C g_X3_37 (c_X3_has l D ca g B x4_3) 0 ivW_0 hcl_X3 ⟨Nat.le_of_ble_eq_true rfl, Nat.le_of_ble_eq_true rfl⟩ ⟨Nat.le_of_ble_eq_true rfl, Nat.le_of_ble_eq_true rfl⟩ rfl rfl (Nat.le_of_ble_eq_true rfl) dX3_countOfMemberAhead_12 ?_
        refine j_if_eq (tgt := 41) C dX3_countOfMemberAhead_15 (by decide) (fun (h15 : (r_X3_has B x4_3) = (0 : Int32)) => ?_) (fun (h15 : ¬ ((r_X3_has B x4_3) = (0 : Int32))) => ?_)
        · refine j_iinc C [(3, _), (0, _), (1, _), (2, _)] (v := (x4_3 + (1 : Int32))) dX3_countOfMemberAhead_41 rfl (iinc_1 _) (by decide) rfl ?_
          refine j_goto (tgt := 4) C dX3_countOfMemberAhead_44 (by decide) ?_
          refine j_lv [(0, .ref (g 3)), (1, .int a), (2, .int x4_2), (3, .int (x4_3 + (1 : Int32)))] rfl ?_
          exact ih4 x4_2 (x4_3 + (1 : Int32)) (jms h7 hm4) (by rw [hr4, L_X3_countOfMemberAhead_4, if_neg h7, if_pos h15])
        · refine j_aload_n C dX3_countOfMemberAhead_18 rfl ?_
          refine j_get C f_X3_9.F 0 dX3_countOfMemberAhead_19 ivW_0 rfl ?_
          refine j_iload_n C dX3_countOfMemberAhead_22 rfl ?_
          refine j_iald C 1 dX3_countOfMemberAhead_23 ivW_1 (has_X3 h15) ?_
          refine j_iload_n C dX3_countOfMemberAhead_24 rfl ?_
          refine j_icmp_ne (tgt := 41) C dX3_countOfMemberAhead_25 (by decide) (fun (h25 : ¬ ((B 7 x4_3.toNatClampNeg) = a)) => ?_) (fun (h25 : (B 7 x4_3.toNatClampNeg) = a) => ?_)
          · refine j_iinc C [(3, _), (0, _), (1, _), (2, _)] (v := (x4_3 + (1 : Int32))) dX3_countOfMemberAhead_41 rfl (iinc_1 _) (by decide) rfl ?_
            refine j_goto (tgt := 4) C dX3_countOfMemberAhead_44 (by decide) ?_
            refine j_lv [(0, .ref (g 3)), (1, .int a), (2, .int x4_2), (3, .int (x4_3 + (1 : Int32)))] rfl ?_
            exact ih4 x4_2 (x4_3 + (1 : Int32)) (jms h7 hm4) (by rw [hr4, L_X3_countOfMemberAhead_4, if_neg h7, if_neg h15, if_neg h25])
          · refine j_aload_n C dX3_countOfMemberAhead_28 rfl ?_
            refine j_get C f_X3_24.F 0 dX3_countOfMemberAhead_29 ivW_0 rfl ?_
            refine j_iload_n C dX3_countOfMemberAhead_32 rfl ?_
            refine j_iald C 5 dX3_countOfMemberAhead_33 ivW_5 (has_X3 h15) ?_
            refine j_iconst C dX3_countOfMemberAhead_34 (1 : Int32) (by decide) ?_
            refine j_icmp_ne (tgt := 41) C dX3_countOfMemberAhead_35 (by decide) (fun (h35 : ¬ ((B 11 x4_3.toNatClampNeg) = (1 : Int32))) => ?_) (fun (h35 : (B 11 x4_3.toNatClampNeg) = (1 : Int32)) => ?_)
            · refine j_iinc C [(3, _), (0, _), (1, _), (2, _)] (v := (x4_3 + (1 : Int32))) dX3_countOfMemberAhead_41 rfl (iinc_1 _) (by decide) rfl ?_
              refine j_goto (tgt := 4) C dX3_countOfMemberAhead_44 (by decide) ?_
              refine j_lv [(0, .ref (g 3)), (1, .int a), (2, .int x4_2), (3, .int (x4_3 + (1 : Int32)))] rfl ?_
              exact ih4 x4_2 (x4_3 + (1 : Int32)) (jms h7 hm4) (by rw [hr4, L_X3_countOfMemberAhead_4, if_neg h7, if_neg h15, if_pos h25, if_neg h35])
            · refine j_iinc C [(2, _), (0, _), (1, _), (3, _)] (v := (x4_2 + (1 : Int32))) dX3_countOfMemberAhead_38 rfl (iinc_1 _) (by decide) rfl ?_
              refine j_iinc C [(3, _), (2, _), (0, _), (1, _)] (v := (x4_3 + (1 : Int32))) dX3_countOfMemberAhead_41 rfl (iinc_1 _) (by decide) rfl ?_
              refine j_goto (tgt := 4) C dX3_countOfMemberAhead_44 (by decide) ?_
              refine j_lv [(0, .ref (g 3)), (1, .int a), (2, .int (x4_2 + (1 : Int32))), (3, .int (x4_3 + (1 : Int32)))] rfl ?_
              exact ih4 (x4_2 + (1 : Int32)) (x4_3 + (1 : Int32)) (jms h7 hm4) (by rw [hr4, L_X3_countOfMemberAhead_4, if_neg h7, if_neg h15, if_pos h25, if_pos h35])
  refine j_lv [(0, .ref (g 3)), (1, .int a), (2, .int (0 : Int32)), (3, .int (0 : Int32))] rfl ?_
  exact K4 21 (0 : Int32) (0 : Int32) (by decide) (by rw [r_X3_countOfMemberAhead])
theorem uns_X3 {B : jB} {i : Int32} (h : ¬ r_X3_isUnsettled B i = 0) : vp_in i 20 := by
  unfold r_X3_isUnsettled at h
  by_cases h1 : r_X3_has B i = 0
  · rw [if_pos h1] at h; exact absurd rfl h
  · exact has_X3 h1


def L_X3_countOfClientUnsettled_4 (B : jB) (a : Int32) : Nat → Int32 → Int32 → Int32
  | 0, _, _ => 0
  | n4 + 1, x4_2, x4_3 => (if (20 : Int32) ≤ x4_3 then x4_2 else (if (r_X3_isUnsettled B x4_3) = (0 : Int32) then L_X3_countOfClientUnsettled_4 B a n4 x4_2 (x4_3 + (1 : Int32)) else (if (B 8 x4_3.toNatClampNeg) = a then L_X3_countOfClientUnsettled_4 B a n4 (x4_2 + (1 : Int32)) (x4_3 + (1 : Int32)) else L_X3_countOfClientUnsettled_4 B a n4 x4_2 (x4_3 + (1 : Int32)))))
def r_X3_countOfClientUnsettled (B : jB) (a : Int32) : Int32 := L_X3_countOfClientUnsettled_4 B a 21 (0 : Int32) (0 : Int32)
set_option maxRecDepth 100000 in
set_option maxHeartbeats 4000000 in
theorem c_X3_countOfClientUnsettled (l : Launch) (D : va_G) (ca : Nat → ClassId) (g : Nat → Nat) (B : jB) (a : Int32) : jM l D ca yX3_countOfClientUnsettled cX3_countOfClientUnsettled 4 (some .int) 2 42 0 0 [.ref (g 3), .int a] (ivW ca g B) (jD (some (.int (r_X3_countOfClientUnsettled B a))) (ivW ca g B)) := by
  refine jM_of [(0, .ref (g 3)), (1, .int a)] (by decide) (Nat.le_of_ble_eq_true rfl) rfl (fun X C E => ?_)
  refine j_iconst C dX3_countOfClientUnsettled_0 (0 : Int32) (by decide) ?_
  refine j_istore_n C [(2, _), (0, _), (1, _)] dX3_countOfClientUnsettled_1 (by decide) rfl ?_
  refine j_iconst C dX3_countOfClientUnsettled_2 (0 : Int32) (by decide) ?_
  refine j_istore_n C [(3, _), (2, _), (0, _), (1, _)] dX3_countOfClientUnsettled_3 (by decide) rfl ?_
  have K4 : ∀ (n4 : Nat) (x4_2 : Int32) (x4_3 : Int32), ((20 : Int32).toInt - x4_3.toInt).toNat < n4 → r_X3_countOfClientUnsettled B a = L_X3_countOfClientUnsettled_4 B a n4 x4_2 x4_3 → J l { frames := 2, cells := 0, slots := 0, locals := 42 } D 4 X 0 0 (ivW ca g B) [(0, .ref (g 3)), (1, .int a), (2, .int x4_2), (3, .int x4_3)] [] 4 := by
    intro n4
    induction n4 with
    | zero =>
      intro x4_2 x4_3 hm4
      exact absurd hm4 (Nat.not_lt_zero _)
    | succ n4 ih4 =>
      intro x4_2 x4_3 hm4 hr4
      refine j_iload_n C dX3_countOfClientUnsettled_4 rfl ?_
      refine j_bipush C dX3_countOfClientUnsettled_5 (20 : Int32) (by decide) ?_
      refine j_icmp_ge (tgt := 37) C dX3_countOfClientUnsettled_7 (by decide) (fun (h7 : (20 : Int32) ≤ x4_3) => ?_) (fun (h7 : ¬ ((20 : Int32) ≤ x4_3)) => ?_)
      · refine j_iload_n C dX3_countOfClientUnsettled_37 rfl ?_
        have e9 : r_X3_countOfClientUnsettled B a = x4_2 := by rw [hr4, L_X3_countOfClientUnsettled_4, if_pos h7]
        exact j_iret E dX3_countOfClientUnsettled_38 (by rw [e9]; exact ⟨rfl, rfl⟩)
      · refine j_aload_n C dX3_countOfClientUnsettled_10 rfl ?_
        refine j_iload_n C dX3_countOfClientUnsettled_11 rfl ?_
        refine j_callViRW C g_X3_41 (c_X3_isUnsettled l D ca g B x4_3) 0 ivW_0 hcl_X3 ⟨Nat.le_of_ble_eq_true rfl, Nat.le_of_ble_eq_true rfl⟩ ⟨Nat.le_of_ble_eq_true rfl, Nat.le_of_ble_eq_true rfl⟩ rfl rfl (Nat.le_of_ble_eq_true rfl) dX3_countOfClientUnsettled_12 ?_
        refine j_if_eq (tgt := 31) C dX3_countOfClientUnsettled_15 (by decide) (fun (h15 : (r_X3_isUnsettled B x4_3) = (0 : Int32)) => ?_) (fun (h15 : ¬ ((r_X3_isUnsettled B x4_3) = (0 : Int32))) => ?_)
        · refine j_iinc C [(3, _), (0, _), (1, _), (2, _)] (v := (x4_3 + (1 : Int32))) dX3_countOfClientUnsettled_31 rfl (iinc_1 _) (by decide) rfl ?_
          refine j_goto (tgt := 4) C dX3_countOfClientUnsettled_34 (by decide) ?_
          refine j_lv [(0, .ref (g 3)), (1, .int a), (2, .int x4_2), (3, .int (x4_3 + (1 : Int32)))] rfl ?_
          exact ih4 x4_2 (x4_3 + (1 : Int32)) (jms h7 hm4) (by rw [hr4, L_X3_countOfClientUnsettled_4, if_neg h7, if_pos h15])
        · refine j_aload_n C dX3_countOfClientUnsettled_18 rfl ?_
          refine j_get C f_X3_15.F 0 dX3_countOfClientUnsettled_19 ivW_0 rfl ?_
          refine j_iload_n C dX3_countOfClientUnsettled_22 rfl ?_
          refine j_iald C 2 dX3_countOfClientUnsettled_23 ivW_2 (uns_X3 h15) ?_
          refine j_iload_n C dX3_countOfClientUnsettled_24 rfl ?_
          refine j_icmp_ne (tgt := 31) C dX3_countOfClientUnsettled_25 (by decide) (fun (h25 : ¬ ((B 8 x4_3.toNatClampNeg) = a)) => ?_) (fun (h25 : (B 8 x4_3.toNatClampNeg) = a) => ?_)
          · refine j_iinc C [(3, _), (0, _), (1, _), (2, _)] (v := (x4_3 + (1 : Int32))) dX3_countOfClientUnsettled_31 rfl (iinc_1 _) (by decide) rfl ?_
            refine j_goto (tgt := 4) C dX3_countOfClientUnsettled_34 (by decide) ?_
            refine j_lv [(0, .ref (g 3)), (1, .int a), (2, .int x4_2), (3, .int (x4_3 + (1 : Int32)))] rfl ?_
            exact ih4 x4_2 (x4_3 + (1 : Int32)) (jms h7 hm4) (by rw [hr4, L_X3_countOfClientUnsettled_4, if_neg h7, if_neg h15, if_neg h25])
          · refine j_iinc C [(2, _), (0, _), (1, _), (3, _)] (v := (x4_2 + (1 : Int32))) dX3_countOfClientUnsettled_28 rfl (iinc_1 _) (by decide) rfl ?_
            refine j_iinc C [(3, _), (2, _), (0, _), (1, _)] (v := (x4_3 + (1 : Int32))) dX3_countOfClientUnsettled_31 rfl (iinc_1 _) (by decide) rfl ?_
            refine j_goto (tgt := 4) C dX3_countOfClientUnsettled_34 (by decide) ?_
            refine j_lv [(0, .ref (g 3)), (1, .int a), (2, .int (x4_2 + (1 : Int32))), (3, .int (x4_3 + (1 : Int32)))] rfl ?_
            exact ih4 (x4_2 + (1 : Int32)) (x4_3 + (1 : Int32)) (jms h7 hm4) (by rw [hr4, L_X3_countOfClientUnsettled_4, if_neg h7, if_neg h15, if_pos h25])
  refine j_lv [(0, .ref (g 3)), (1, .int a), (2, .int (0 : Int32)), (3, .int (0 : Int32))] rfl ?_
  exact K4 21 (0 : Int32) (0 : Int32) (by decide) (by rw [r_X3_countOfClientUnsettled])


def L_X3_countOfState_4 (B : jB) (a : Int32) : Nat → Int32 → Int32 → Int32
  | 0, _, _ => 0
  | n4 + 1, x4_2, x4_3 => (if (20 : Int32) ≤ x4_3 then x4_2 else (if (r_X3_has B x4_3) = (0 : Int32) then L_X3_countOfState_4 B a n4 x4_2 (x4_3 + (1 : Int32)) else (if (B 11 x4_3.toNatClampNeg) = a then L_X3_countOfState_4 B a n4 (x4_2 + (1 : Int32)) (x4_3 + (1 : Int32)) else L_X3_countOfState_4 B a n4 x4_2 (x4_3 + (1 : Int32)))))
def r_X3_countOfState (B : jB) (a : Int32) : Int32 := L_X3_countOfState_4 B a 21 (0 : Int32) (0 : Int32)
set_option maxRecDepth 100000 in
set_option maxHeartbeats 4000000 in
theorem c_X3_countOfState (l : Launch) (D : va_G) (ca : Nat → ClassId) (g : Nat → Nat) (B : jB) (a : Int32) : jM l D ca yX3_countOfState cX3_countOfState 4 (some .int) 1 21 0 0 [.ref (g 3), .int a] (ivW ca g B) (jD (some (.int (r_X3_countOfState B a))) (ivW ca g B)) := by
  refine jM_of [(0, .ref (g 3)), (1, .int a)] (by decide) (Nat.le_of_ble_eq_true rfl) rfl (fun X C E => ?_)
  refine j_iconst C dX3_countOfState_0 (0 : Int32) (by decide) ?_
  refine j_istore_n C [(2, _), (0, _), (1, _)] dX3_countOfState_1 (by decide) rfl ?_
  refine j_iconst C dX3_countOfState_2 (0 : Int32) (by decide) ?_
  refine j_istore_n C [(3, _), (2, _), (0, _), (1, _)] dX3_countOfState_3 (by decide) rfl ?_
  have K4 : ∀ (n4 : Nat) (x4_2 : Int32) (x4_3 : Int32), ((20 : Int32).toInt - x4_3.toInt).toNat < n4 → r_X3_countOfState B a = L_X3_countOfState_4 B a n4 x4_2 x4_3 → J l { frames := 1, cells := 0, slots := 0, locals := 21 } D 4 X 0 0 (ivW ca g B) [(0, .ref (g 3)), (1, .int a), (2, .int x4_2), (3, .int x4_3)] [] 4 := by
    intro n4
    induction n4 with
    | zero =>
      intro x4_2 x4_3 hm4
      exact absurd hm4 (Nat.not_lt_zero _)
    | succ n4 ih4 =>
      intro x4_2 x4_3 hm4 hr4
      refine j_iload_n C dX3_countOfState_4 rfl ?_
      refine j_bipush C dX3_countOfState_5 (20 : Int32) (by decide) ?_
      refine j_icmp_ge (tgt := 37) C dX3_countOfState_7 (by decide) (fun (h7 : (20 : Int32) ≤ x4_3) => ?_) (fun (h7 : ¬ ((20 : Int32) ≤ x4_3)) => ?_)
      · refine j_iload_n C dX3_countOfState_37 rfl ?_
        have e9 : r_X3_countOfState B a = x4_2 := by rw [hr4, L_X3_countOfState_4, if_pos h7]
        exact j_iret E dX3_countOfState_38 (by rw [e9]; exact ⟨rfl, rfl⟩)
      · refine j_aload_n C dX3_countOfState_10 rfl ?_
        refine j_iload_n C dX3_countOfState_11 rfl ?_
        refine j_callViRW C g_X3_37 (c_X3_has l D ca g B x4_3) 0 ivW_0 hcl_X3 ⟨Nat.le_of_ble_eq_true rfl, Nat.le_of_ble_eq_true rfl⟩ ⟨Nat.le_of_ble_eq_true rfl, Nat.le_of_ble_eq_true rfl⟩ rfl rfl (Nat.le_of_ble_eq_true rfl) dX3_countOfState_12 ?_
        refine j_if_eq (tgt := 31) C dX3_countOfState_15 (by decide) (fun (h15 : (r_X3_has B x4_3) = (0 : Int32)) => ?_) (fun (h15 : ¬ ((r_X3_has B x4_3) = (0 : Int32))) => ?_)
        · refine j_iinc C [(3, _), (0, _), (1, _), (2, _)] (v := (x4_3 + (1 : Int32))) dX3_countOfState_31 rfl (iinc_1 _) (by decide) rfl ?_
          refine j_goto (tgt := 4) C dX3_countOfState_34 (by decide) ?_
          refine j_lv [(0, .ref (g 3)), (1, .int a), (2, .int x4_2), (3, .int (x4_3 + (1 : Int32)))] rfl ?_
          exact ih4 x4_2 (x4_3 + (1 : Int32)) (jms h7 hm4) (by rw [hr4, L_X3_countOfState_4, if_neg h7, if_pos h15])
        · refine j_aload_n C dX3_countOfState_18 rfl ?_
          refine j_get C f_X3_24.F 0 dX3_countOfState_19 ivW_0 rfl ?_
          refine j_iload_n C dX3_countOfState_22 rfl ?_
          refine j_iald C 5 dX3_countOfState_23 ivW_5 (has_X3 h15) ?_
          refine j_iload_n C dX3_countOfState_24 rfl ?_
          refine j_icmp_ne (tgt := 31) C dX3_countOfState_25 (by decide) (fun (h25 : ¬ ((B 11 x4_3.toNatClampNeg) = a)) => ?_) (fun (h25 : (B 11 x4_3.toNatClampNeg) = a) => ?_)
          · refine j_iinc C [(3, _), (0, _), (1, _), (2, _)] (v := (x4_3 + (1 : Int32))) dX3_countOfState_31 rfl (iinc_1 _) (by decide) rfl ?_
            refine j_goto (tgt := 4) C dX3_countOfState_34 (by decide) ?_
            refine j_lv [(0, .ref (g 3)), (1, .int a), (2, .int x4_2), (3, .int (x4_3 + (1 : Int32)))] rfl ?_
            exact ih4 x4_2 (x4_3 + (1 : Int32)) (jms h7 hm4) (by rw [hr4, L_X3_countOfState_4, if_neg h7, if_neg h15, if_neg h25])
          · refine j_iinc C [(2, _), (0, _), (1, _), (3, _)] (v := (x4_2 + (1 : Int32))) dX3_countOfState_28 rfl (iinc_1 _) (by decide) rfl ?_
            refine j_iinc C [(3, _), (2, _), (0, _), (1, _)] (v := (x4_3 + (1 : Int32))) dX3_countOfState_31 rfl (iinc_1 _) (by decide) rfl ?_
            refine j_goto (tgt := 4) C dX3_countOfState_34 (by decide) ?_
            refine j_lv [(0, .ref (g 3)), (1, .int a), (2, .int (x4_2 + (1 : Int32))), (3, .int (x4_3 + (1 : Int32)))] rfl ?_
            exact ih4 (x4_2 + (1 : Int32)) (x4_3 + (1 : Int32)) (jms h7 hm4) (by rw [hr4, L_X3_countOfState_4, if_neg h7, if_neg h15, if_pos h25])
  refine j_lv [(0, .ref (g 3)), (1, .int a), (2, .int (0 : Int32)), (3, .int (0 : Int32))] rfl ?_
  exact K4 21 (0 : Int32) (0 : Int32) (by decide) (by rw [r_X3_countOfState])


def L_X3_advancesOut_4 (B : jB) : Nat → Int32 → Int32 → Int32
  | 0, _, _ => 0
  | n4 + 1, x4_1, x4_2 => (if (20 : Int32) ≤ x4_2 then x4_1 else (if (r_X3_has B x4_2) = (0 : Int32) then L_X3_advancesOut_4 B n4 x4_1 (x4_2 + (1 : Int32)) else (if (B 11 x4_2.toNatClampNeg) = (1 : Int32) then L_X3_advancesOut_4 B n4 (x4_1 + (B 13 x4_2.toNatClampNeg)) (x4_2 + (1 : Int32)) else L_X3_advancesOut_4 B n4 x4_1 (x4_2 + (1 : Int32)))))
def r_X3_advancesOut (B : jB) : Int32 := L_X3_advancesOut_4 B 21 (0 : Int32) (0 : Int32)
set_option maxRecDepth 100000 in
set_option maxHeartbeats 4000000 in
theorem c_X3_advancesOut (l : Launch) (D : va_G) (ca : Nat → ClassId) (g : Nat → Nat) (B : jB) : jM l D ca yX3_advancesOut cX3_advancesOut 3 (some .int) 1 21 0 0 [.ref (g 3)] (ivW ca g B) (jD (some (.int (r_X3_advancesOut B))) (ivW ca g B)) := by
  refine jM_of [(0, .ref (g 3))] (by decide) (Nat.le_of_ble_eq_true rfl) rfl (fun X C E => ?_)
  refine j_iconst C dX3_advancesOut_0 (0 : Int32) (by decide) ?_
  refine j_istore_n C [(1, _), (0, _)] dX3_advancesOut_1 (by decide) rfl ?_
  refine j_iconst C dX3_advancesOut_2 (0 : Int32) (by decide) ?_
  refine j_istore_n C [(2, _), (1, _), (0, _)] dX3_advancesOut_3 (by decide) rfl ?_
  have K4 : ∀ (n4 : Nat) (x4_1 : Int32) (x4_2 : Int32), ((20 : Int32).toInt - x4_2.toInt).toNat < n4 → r_X3_advancesOut B = L_X3_advancesOut_4 B n4 x4_1 x4_2 → J l { frames := 1, cells := 0, slots := 0, locals := 21 } D 3 X 0 0 (ivW ca g B) [(0, .ref (g 3)), (1, .int x4_1), (2, .int x4_2)] [] 4 := by
    intro n4
    induction n4 with
    | zero =>
      intro x4_1 x4_2 hm4
      exact absurd hm4 (Nat.not_lt_zero _)
    | succ n4 ih4 =>
      intro x4_1 x4_2 hm4 hr4
      refine j_iload_n C dX3_advancesOut_4 rfl ?_
      refine j_bipush C dX3_advancesOut_5 (20 : Int32) (by decide) ?_
      refine j_icmp_ge (tgt := 43) C dX3_advancesOut_7 (by decide) (fun (h7 : (20 : Int32) ≤ x4_2) => ?_) (fun (h7 : ¬ ((20 : Int32) ≤ x4_2)) => ?_)
      · refine j_iload_n C dX3_advancesOut_43 rfl ?_
        have e9 : r_X3_advancesOut B = x4_1 := by rw [hr4, L_X3_advancesOut_4, if_pos h7]
        exact j_iret E dX3_advancesOut_44 (by rw [e9]; exact ⟨rfl, rfl⟩)
      · refine j_aload_n C dX3_advancesOut_10 rfl ?_
        refine j_iload_n C dX3_advancesOut_11 rfl ?_
        refine j_callViRW C g_X3_37 (c_X3_has l D ca g B x4_2) 0 ivW_0 hcl_X3 ⟨Nat.le_of_ble_eq_true rfl, Nat.le_of_ble_eq_true rfl⟩ ⟨Nat.le_of_ble_eq_true rfl, Nat.le_of_ble_eq_true rfl⟩ rfl rfl (Nat.le_of_ble_eq_true rfl) dX3_advancesOut_12 ?_
        refine j_if_eq (tgt := 37) C dX3_advancesOut_15 (by decide) (fun (h15 : (r_X3_has B x4_2) = (0 : Int32)) => ?_) (fun (h15 : ¬ ((r_X3_has B x4_2) = (0 : Int32))) => ?_)
        · refine j_iinc C [(2, _), (0, _), (1, _)] (v := (x4_2 + (1 : Int32))) dX3_advancesOut_37 rfl (iinc_1 _) (by decide) rfl ?_
          refine j_goto (tgt := 4) C dX3_advancesOut_40 (by decide) ?_
          refine j_lv [(0, .ref (g 3)), (1, .int x4_1), (2, .int (x4_2 + (1 : Int32)))] rfl ?_
          exact ih4 x4_1 (x4_2 + (1 : Int32)) (jms h7 hm4) (by rw [hr4, L_X3_advancesOut_4, if_neg h7, if_pos h15])
        · refine j_aload_n C dX3_advancesOut_18 rfl ?_
          refine j_get C f_X3_24.F 0 dX3_advancesOut_19 ivW_0 rfl ?_
          refine j_iload_n C dX3_advancesOut_22 rfl ?_
          refine j_iald C 5 dX3_advancesOut_23 ivW_5 (has_X3 h15) ?_
          refine j_iconst C dX3_advancesOut_24 (1 : Int32) (by decide) ?_
          refine j_icmp_ne (tgt := 37) C dX3_advancesOut_25 (by decide) (fun (h25 : ¬ ((B 11 x4_2.toNatClampNeg) = (1 : Int32))) => ?_) (fun (h25 : (B 11 x4_2.toNatClampNeg) = (1 : Int32)) => ?_)
          · refine j_iinc C [(2, _), (0, _), (1, _)] (v := (x4_2 + (1 : Int32))) dX3_advancesOut_37 rfl (iinc_1 _) (by decide) rfl ?_
            refine j_goto (tgt := 4) C dX3_advancesOut_40 (by decide) ?_
            refine j_lv [(0, .ref (g 3)), (1, .int x4_1), (2, .int (x4_2 + (1 : Int32)))] rfl ?_
            exact ih4 x4_1 (x4_2 + (1 : Int32)) (jms h7 hm4) (by rw [hr4, L_X3_advancesOut_4, if_neg h7, if_neg h15, if_neg h25])
          · refine j_iload_n C dX3_advancesOut_28 rfl ?_
            refine j_aload_n C dX3_advancesOut_29 rfl ?_
            refine j_get C f_X3_30.F 0 dX3_advancesOut_30 ivW_0 rfl ?_
            refine j_iload_n C dX3_advancesOut_33 rfl ?_
            refine j_iald C 7 dX3_advancesOut_34 ivW_7 (has_X3 h15) ?_
            refine j_iadd C dX3_advancesOut_35 ?_
            refine j_istore_n C [(1, _), (0, _), (2, _)] dX3_advancesOut_36 (by decide) rfl ?_
            refine j_iinc C [(2, _), (1, _), (0, _)] (v := (x4_2 + (1 : Int32))) dX3_advancesOut_37 rfl (iinc_1 _) (by decide) rfl ?_
            refine j_goto (tgt := 4) C dX3_advancesOut_40 (by decide) ?_
            refine j_lv [(0, .ref (g 3)), (1, .int (x4_1 + (B 13 x4_2.toNatClampNeg))), (2, .int (x4_2 + (1 : Int32)))] rfl ?_
            exact ih4 (x4_1 + (B 13 x4_2.toNatClampNeg)) (x4_2 + (1 : Int32)) (jms h7 hm4) (by rw [hr4, L_X3_advancesOut_4, if_neg h7, if_neg h15, if_pos h25])
  refine j_lv [(0, .ref (g 3)), (1, .int (0 : Int32)), (2, .int (0 : Int32))] rfl ?_
  exact K4 21 (0 : Int32) (0 : Int32) (by decide) (by rw [r_X3_advancesOut])


def r_X1_riskOf (B : jB) (i : Int32) : UInt32 := (if (r_X1_has B i) = (0 : Int32) then (r_X7_noNumber) else (FP.fdiv (FP.i2f ((B 5 i.toNatClampNeg) + (1 : Int32))) (FP.i2f (((B 4 i.toNatClampNeg) + (B 5 i.toNatClampNeg)) + (2 : Int32)))))
def n_X1_riskOf (B : jB) (i : Int32) : Prop := (((r_X1_has B i) = (0 : Int32) → True) ∧ (¬ ((r_X1_has B i) = (0 : Int32)) → (vf_n32 (FP.fdiv (FP.i2f ((B 5 i.toNatClampNeg) + (1 : Int32))) (FP.i2f (((B 4 i.toNatClampNeg) + (B 5 i.toNatClampNeg)) + (2 : Int32)))) ∧ True)))
set_option maxRecDepth 100000 in
set_option maxHeartbeats 4000000 in
theorem c_X1_riskOf (l : Launch) (D : va_G) (ca : Nat → ClassId) (g : Nat → Nat) (B : jB) (i : Int32) (hq : n_X1_riskOf B i) : jM l D ca yX1_riskOf cX1_riskOf 2 (Option.some FieldType.float) 1 21 0 0 [.ref (g 2), .int i] (clW ca g B) (jD (some (.float (r_X1_riskOf B i))) (clW ca g B)) := by
  refine jM_of [(0, .ref (g 2)), (1, .int i)] (by decide) (Nat.le_of_ble_eq_true rfl) rfl (fun X C E => ?_)
  rw [n_X1_riskOf] at hq
  refine j_aload_n C dX1_riskOf_0 rfl ?_
  refine j_iload_n C dX1_riskOf_1 rfl ?_
  refine j_callViRW C g_X1_21 (c_X1_has l D ca g B i) 0 clW_0 hcl_X1 ⟨Nat.le_of_ble_eq_true rfl, Nat.le_of_ble_eq_true rfl⟩ ⟨Nat.le_of_ble_eq_true rfl, Nat.le_of_ble_eq_true rfl⟩ rfl rfl (Nat.le_of_ble_eq_true rfl) dX1_riskOf_2 ?_
  refine j_if_ne (tgt := 12) C dX1_riskOf_5 (by decide) (fun (h5 : ¬ ((r_X1_has B i) = (0 : Int32))) => ?_) (fun (h5 : (r_X1_has B i) = (0 : Int32)) => ?_)
  · have hq := hq.2 h5
    refine j_aload_n C dX1_riskOf_12 rfl ?_
    refine j_get C f_X1_15.F 0 dX1_riskOf_13 clW_0 rfl ?_
    refine j_iload_n C dX1_riskOf_16 rfl ?_
    refine j_iald C 2 dX1_riskOf_17 clW_2 (has_X1 h5) ?_
    refine j_iconst C dX1_riskOf_18 (1 : Int32) (by decide) ?_
    refine j_iadd C dX1_riskOf_19 ?_
    refine j_i2f C dX1_riskOf_20 ?_
    refine j_aload_n C dX1_riskOf_21 rfl ?_
    refine j_get C f_X1_9.F 0 dX1_riskOf_22 clW_0 rfl ?_
    refine j_iload_n C dX1_riskOf_25 rfl ?_
    refine j_iald C 1 dX1_riskOf_26 clW_1 (has_X1 h5) ?_
    refine j_aload_n C dX1_riskOf_27 rfl ?_
    refine j_get C f_X1_15.F 0 dX1_riskOf_28 clW_0 rfl ?_
    refine j_iload_n C dX1_riskOf_31 rfl ?_
    refine j_iald C 2 dX1_riskOf_32 clW_2 (has_X1 h5) ?_
    refine j_iadd C dX1_riskOf_33 ?_
    refine j_iconst C dX1_riskOf_34 (2 : Int32) (by decide) ?_
    refine j_iadd C dX1_riskOf_35 ?_
    refine j_i2f C dX1_riskOf_36 ?_
    obtain ⟨hv, hq⟩ := hq
    refine j_fdiv C dX1_riskOf_37 hv ?_
    have e9 : r_X1_riskOf B i = (FP.fdiv (FP.i2f ((B 5 i.toNatClampNeg) + (1 : Int32))) (FP.i2f (((B 4 i.toNatClampNeg) + (B 5 i.toNatClampNeg)) + (2 : Int32)))) := by rw [r_X1_riskOf, if_neg h5]
    exact j_fret E dX1_riskOf_38 (by rw [e9]; exact ⟨rfl, rfl⟩)
  · have hq := hq.1 h5
    refine j_callSNfR C g_X1_25 (c_X7_noNumber l D ca) ⟨Nat.le_of_ble_eq_true rfl, Nat.le_of_ble_eq_true rfl⟩ ⟨Nat.le_of_ble_eq_true rfl, Nat.le_of_ble_eq_true rfl⟩ [] rfl rfl rfl rfl (Nat.le_of_ble_eq_true rfl) dX1_riskOf_8 ?_
    have e9 : r_X1_riskOf B i = (r_X7_noNumber) := by rw [r_X1_riskOf, if_pos h5]
    exact j_fret E dX1_riskOf_11 (by rw [e9]; exact ⟨rfl, rfl⟩)


def r_X1_latenessOf (B : jB) (i : Int32) : UInt32 := (if (r_X1_has B i) = (0 : Int32) then (r_X7_noNumber) else (if (B 4 i.toNatClampNeg) = (0 : Int32) then (0x00000000 : UInt32) else (FP.fdiv (FP.i2f (B 6 i.toNatClampNeg)) (FP.i2f (B 4 i.toNatClampNeg)))))
def n_X1_latenessOf (B : jB) (i : Int32) : Prop := (((r_X1_has B i) = (0 : Int32) → True) ∧ (¬ ((r_X1_has B i) = (0 : Int32)) → (((B 4 i.toNatClampNeg) = (0 : Int32) → True) ∧ (¬ ((B 4 i.toNatClampNeg) = (0 : Int32)) → (vf_n32 (FP.fdiv (FP.i2f (B 6 i.toNatClampNeg)) (FP.i2f (B 4 i.toNatClampNeg))) ∧ True)))))
set_option maxRecDepth 100000 in
set_option maxHeartbeats 4000000 in
theorem c_X1_latenessOf (l : Launch) (D : va_G) (ca : Nat → ClassId) (g : Nat → Nat) (B : jB) (i : Int32) (hq : n_X1_latenessOf B i) : jM l D ca yX1_latenessOf cX1_latenessOf 2 (Option.some FieldType.float) 1 21 0 0 [.ref (g 2), .int i] (clW ca g B) (jD (some (.float (r_X1_latenessOf B i))) (clW ca g B)) := by
  refine jM_of [(0, .ref (g 2)), (1, .int i)] (by decide) (Nat.le_of_ble_eq_true rfl) rfl (fun X C E => ?_)
  rw [n_X1_latenessOf] at hq
  refine j_aload_n C dX1_latenessOf_0 rfl ?_
  refine j_iload_n C dX1_latenessOf_1 rfl ?_
  refine j_callViRW C g_X1_21 (c_X1_has l D ca g B i) 0 clW_0 hcl_X1 ⟨Nat.le_of_ble_eq_true rfl, Nat.le_of_ble_eq_true rfl⟩ ⟨Nat.le_of_ble_eq_true rfl, Nat.le_of_ble_eq_true rfl⟩ rfl rfl (Nat.le_of_ble_eq_true rfl) dX1_latenessOf_2 ?_
  refine j_if_ne (tgt := 12) C dX1_latenessOf_5 (by decide) (fun (h5 : ¬ ((r_X1_has B i) = (0 : Int32))) => ?_) (fun (h5 : (r_X1_has B i) = (0 : Int32)) => ?_)
  · have hq := hq.2 h5
    refine j_aload_n C dX1_latenessOf_12 rfl ?_
    refine j_get C f_X1_9.F 0 dX1_latenessOf_13 clW_0 rfl ?_
    refine j_iload_n C dX1_latenessOf_16 rfl ?_
    refine j_iald C 1 dX1_latenessOf_17 clW_1 (has_X1 h5) ?_
    refine j_if_ne (tgt := 23) C dX1_latenessOf_18 (by decide) (fun (h18 : ¬ ((B 4 i.toNatClampNeg) = (0 : Int32))) => ?_) (fun (h18 : (B 4 i.toNatClampNeg) = (0 : Int32)) => ?_)
    · have hq := hq.2 h18
      refine j_aload_n C dX1_latenessOf_23 rfl ?_
      refine j_get C f_X1_18.F 0 dX1_latenessOf_24 clW_0 rfl ?_
      refine j_iload_n C dX1_latenessOf_27 rfl ?_
      refine j_iald C 3 dX1_latenessOf_28 clW_3 (has_X1 h5) ?_
      refine j_i2f C dX1_latenessOf_29 ?_
      refine j_aload_n C dX1_latenessOf_30 rfl ?_
      refine j_get C f_X1_9.F 0 dX1_latenessOf_31 clW_0 rfl ?_
      refine j_iload_n C dX1_latenessOf_34 rfl ?_
      refine j_iald C 1 dX1_latenessOf_35 clW_1 (has_X1 h5) ?_
      refine j_i2f C dX1_latenessOf_36 ?_
      obtain ⟨hv, hq⟩ := hq
      refine j_fdiv C dX1_latenessOf_37 hv ?_
      have e9 : r_X1_latenessOf B i = (FP.fdiv (FP.i2f (B 6 i.toNatClampNeg)) (FP.i2f (B 4 i.toNatClampNeg))) := by rw [r_X1_latenessOf, if_neg h5, if_neg h18]
      exact j_fret E dX1_latenessOf_38 (by rw [e9]; exact ⟨rfl, rfl⟩)
    · have hq := hq.1 h18
      refine j_fconst0 C dX1_latenessOf_21 ?_
      have e9 : r_X1_latenessOf B i = (0x00000000 : UInt32) := by rw [r_X1_latenessOf, if_neg h5, if_pos h18]
      exact j_fret E dX1_latenessOf_22 (by rw [e9]; exact ⟨rfl, rfl⟩)
  · have hq := hq.1 h5
    refine j_callSNfR C g_X1_25 (c_X7_noNumber l D ca) ⟨Nat.le_of_ble_eq_true rfl, Nat.le_of_ble_eq_true rfl⟩ ⟨Nat.le_of_ble_eq_true rfl, Nat.le_of_ble_eq_true rfl⟩ [] rfl rfl rfl rfl (Nat.le_of_ble_eq_true rfl) dX1_latenessOf_8 ?_
    have e9 : r_X1_latenessOf B i = (r_X7_noNumber) := by rw [r_X1_latenessOf, if_pos h5]
    exact j_fret E dX1_latenessOf_11 (by rw [e9]; exact ⟨rfl, rfl⟩)
end
section
theorem pl_bk_mb {ca : Nat → ClassId} {g : Nat → Nat} {B : jB} : [1, 6, 7, 8, 9].map (fun i => (bkW ca g B)[i]?) = (mbW ca g B).map some := rfl

def r_X0_reserveCents (B : jB) : Int32 := (((((r_X4_allDues B)).toInt64 * ((B 14 (1 : Int32).toNatClampNeg)).toInt64) / (100 : Int64))).toInt32
set_option maxRecDepth 100000 in
set_option maxHeartbeats 4000000 in
theorem c_X0_reserveCents (l : Launch) (D : va_G) (ca : Nat → ClassId) (g : Nat → Nat) (B : jB) : jM l D ca yX0_reserveCents cX0_reserveCents 1 (some .int) 2 43 0 0 [.ref (g 0)] (bkW ca g B) (jD (some (.int (r_X0_reserveCents B))) (bkW ca g B)) := by
  refine jM_of [(0, .ref (g 0))] (by decide) (Nat.le_of_ble_eq_true rfl) rfl (fun X C E => ?_)
  refine j_aload_n C dX0_reserveCents_0 rfl ?_
  refine j_get C f_X0_12.F 0 dX0_reserveCents_1 bkW_0 rfl ?_
  refine j_callViR C g_X0_43 (c_X4_allDues l D ca g B) 1 bkW_1 hcl_X4 ⟨Nat.le_of_ble_eq_true rfl, Nat.le_of_ble_eq_true rfl⟩ ⟨Nat.le_of_ble_eq_true rfl, Nat.le_of_ble_eq_true rfl⟩ [1, 6, 7, 8, 9] pl_bk_mb rfl rfl rfl (Nat.le_of_ble_eq_true rfl) dX0_reserveCents_4 ?_
  refine j_i2l C dX0_reserveCents_7 ?_
  refine j_aload_n C dX0_reserveCents_8 rfl ?_
  refine j_get C f_X0_36.F 0 dX0_reserveCents_9 bkW_0 rfl ?_
  refine j_iconst C dX0_reserveCents_12 (1 : Int32) (by decide) ?_
  refine j_iald C 5 dX0_reserveCents_13 bkW_5 (vin_c rfl) ?_
  refine j_i2l C dX0_reserveCents_14 ?_
  refine j_lmul C dX0_reserveCents_15 ?_
  refine j_ldc2 C q_390 dX0_reserveCents_16 ?_
  refine j_ldiv C dX0_reserveCents_19 (by decide) ?_
  refine j_l2i C dX0_reserveCents_20 ?_
  have e9 : r_X0_reserveCents B = (((((r_X4_allDues B)).toInt64 * ((B 14 (1 : Int32).toNatClampNeg)).toInt64) / (100 : Int64))).toInt32 := by rw [r_X0_reserveCents]
  exact j_iret E dX0_reserveCents_21 (by rw [e9]; exact ⟨rfl, rfl⟩)
theorem pl_bk_iv {ca : Nat → ClassId} {g : Nat → Nat} {B : jB} : [3, 13, 14, 15, 16, 17, 18, 19].map (fun i => (bkW ca g B)[i]?) = (ivW ca g B).map some := rfl

def r_X0_ageOf (B : jB) (i : Int32) : Int32 := (if (r_X3_has B i) = (0 : Int32) then (0 : Int32) else ((B 16 2) - (B 10 i.toNatClampNeg)))
set_option maxRecDepth 100000 in
set_option maxHeartbeats 4000000 in
theorem c_X0_ageOf (l : Launch) (D : va_G) (ca : Nat → ClassId) (g : Nat → Nat) (B : jB) (i : Int32) : jM l D ca yX0_ageOf cX0_ageOf 2 (some .int) 1 21 0 0 [.ref (g 0), .int i] (bkW ca g B) (jD (some (.int (r_X0_ageOf B i))) (bkW ca g B)) := by
  refine jM_of [(0, .ref (g 0)), (1, .int i)] (by decide) (Nat.le_of_ble_eq_true rfl) rfl (fun X C E => ?_)
  refine j_aload_n C dX0_ageOf_0 rfl ?_
  refine j_get C f_X0_28.F 0 dX0_ageOf_1 bkW_0 rfl ?_
  refine j_iload_n C dX0_ageOf_4 rfl ?_
  refine j_callViR C g_X0_49 (c_X3_has l D ca g B i) 3 bkW_3 hcl_X3 ⟨Nat.le_of_ble_eq_true rfl, Nat.le_of_ble_eq_true rfl⟩ ⟨Nat.le_of_ble_eq_true rfl, Nat.le_of_ble_eq_true rfl⟩ [3, 13, 14, 15, 16, 17, 18, 19] pl_bk_iv rfl rfl rfl (Nat.le_of_ble_eq_true rfl) dX0_ageOf_5 ?_
  refine j_if_eq (tgt := 28) C dX0_ageOf_8 (by decide) (fun (h8 : (r_X3_has B i) = (0 : Int32)) => ?_) (fun (h8 : ¬ ((r_X3_has B i) = (0 : Int32))) => ?_)
  · refine j_iconst C dX0_ageOf_28 (0 : Int32) (by decide) ?_
    have e9 : r_X0_ageOf B i = (0 : Int32) := by rw [r_X0_ageOf, if_pos h8]
    exact j_iret E dX0_ageOf_29 (by rw [e9]; exact ⟨rfl, rfl⟩)
  · refine j_aload_n C dX0_ageOf_11 rfl ?_
    refine j_get C f_X0_53.F 0 dX0_ageOf_12 bkW_0 rfl ?_
    refine j_aload_n C dX0_ageOf_15 rfl ?_
    refine j_get C f_X0_28.F 0 dX0_ageOf_16 bkW_0 rfl ?_
    refine j_get C f_X0_57.F 3 dX0_ageOf_19 bkW_3 rfl ?_
    refine j_iload_n C dX0_ageOf_22 rfl ?_
    refine j_iald C 16 dX0_ageOf_23 bkW_16 (has_X3 h8) ?_
    refine j_isub C dX0_ageOf_24 ?_
    refine j_goto (tgt := 29) C dX0_ageOf_25 (by decide) ?_
    have e9 : r_X0_ageOf B i = ((B 16 2) - (B 10 i.toNatClampNeg)) := by rw [r_X0_ageOf, if_neg h8]
    exact j_iret E dX0_ageOf_29 (by rw [e9]; exact ⟨rfl, rfl⟩)


def r_X0_lateAfter (B : jB) (i : Int32) (days : Int32) : Int32 := (if ((r_X0_ageOf B i) + days) ≤ (0 : Int32) then (0 : Int32) else ((r_X0_ageOf B i) + days))
set_option maxRecDepth 100000 in
set_option maxHeartbeats 4000000 in
theorem c_X0_lateAfter (l : Launch) (D : va_G) (ca : Nat → ClassId) (g : Nat → Nat) (B : jB) (i : Int32) (days : Int32) : jM l D ca yX0_lateAfter cX0_lateAfter 4 (some .int) 2 42 0 0 [.ref (g 0), .int i, .int days] (bkW ca g B) (jD (some (.int (r_X0_lateAfter B i days))) (bkW ca g B)) := by
  refine jM_of [(0, .ref (g 0)), (1, .int i), (2, .int days)] (by decide) (Nat.le_of_ble_eq_true rfl) rfl (fun X C E => ?_)
  refine j_aload_n C dX0_lateAfter_0 rfl ?_
  refine j_iload_n C dX0_lateAfter_1 rfl ?_
  refine j_callViRW C g_X0_60 (c_X0_ageOf l D ca g B i) 0 bkW_0 hcl_X0 ⟨Nat.le_of_ble_eq_true rfl, Nat.le_of_ble_eq_true rfl⟩ ⟨Nat.le_of_ble_eq_true rfl, Nat.le_of_ble_eq_true rfl⟩ rfl rfl (Nat.le_of_ble_eq_true rfl) dX0_lateAfter_2 ?_
  refine j_iload_n C dX0_lateAfter_5 rfl ?_
  refine j_iadd C dX0_lateAfter_6 ?_
  refine j_istore_n C [(3, _), (0, _), (1, _), (2, _)] dX0_lateAfter_7 (by decide) rfl ?_
  refine j_iload_n C dX0_lateAfter_8 rfl ?_
  refine j_if_le (tgt := 16) C dX0_lateAfter_9 (by decide) (fun (h9 : ((r_X0_ageOf B i) + days) ≤ (0 : Int32)) => ?_) (fun (h9 : ¬ (((r_X0_ageOf B i) + days) ≤ (0 : Int32))) => ?_)
  · refine j_iconst C dX0_lateAfter_16 (0 : Int32) (by decide) ?_
    have e9 : r_X0_lateAfter B i days = (0 : Int32) := by rw [r_X0_lateAfter, if_pos h9]
    exact j_iret E dX0_lateAfter_17 (by rw [e9]; exact ⟨rfl, rfl⟩)
  · refine j_iload_n C dX0_lateAfter_12 rfl ?_
    refine j_goto (tgt := 17) C dX0_lateAfter_13 (by decide) ?_
    have e9 : r_X0_lateAfter B i days = ((r_X0_ageOf B i) + days) := by rw [r_X0_lateAfter, if_neg h9]
    exact j_iret E dX0_lateAfter_17 (by rw [e9]; exact ⟨rfl, rfl⟩)
theorem pl_bk_cl {ca : Nat → ClassId} {g : Nat → Nat} {B : jB} : [2, 10, 11, 12].map (fun i => (bkW ca g B)[i]?) = (clW ca g B).map some := rfl

def r_X0_rateAfter (B : jB) (i : Int32) (days : Int32) : UInt32 := (if (r_X3_has B i) = (0 : Int32) then (r_X7_noNumber) else (if (Op.cmpValue (FP.fcmp (FP.fsub ((B 15 (0 : Int32).toNatClampNeg).toUInt32) (FP.fmul ((B 15 (1 : Int32).toNatClampNeg).toUInt32) (FP.i2f (r_X0_lateAfter B i days)))) (0x00000000 : UInt32)) CmpOp.l) ≤ (0 : Int32) then (FP.fmul (0x00000000 : UInt32) (FP.fsub (0x3f800000 : UInt32) (r_X1_riskOf B (B 8 i.toNatClampNeg)))) else (FP.fmul (FP.fsub ((B 15 (0 : Int32).toNatClampNeg).toUInt32) (FP.fmul ((B 15 (1 : Int32).toNatClampNeg).toUInt32) (FP.i2f (r_X0_lateAfter B i days)))) (FP.fsub (0x3f800000 : UInt32) (r_X1_riskOf B (B 8 i.toNatClampNeg))))))
def n_X0_rateAfter (B : jB) (i : Int32) (days : Int32) : Prop := (((r_X3_has B i) = (0 : Int32) → True) ∧ (¬ ((r_X3_has B i) = (0 : Int32)) → (vf_n32 (FP.fmul ((B 15 (1 : Int32).toNatClampNeg).toUInt32) (FP.i2f (r_X0_lateAfter B i days))) ∧ (vf_n32 (FP.fsub ((B 15 (0 : Int32).toNatClampNeg).toUInt32) (FP.fmul ((B 15 (1 : Int32).toNatClampNeg).toUInt32) (FP.i2f (r_X0_lateAfter B i days)))) ∧ (((Op.cmpValue (FP.fcmp (FP.fsub ((B 15 (0 : Int32).toNatClampNeg).toUInt32) (FP.fmul ((B 15 (1 : Int32).toNatClampNeg).toUInt32) (FP.i2f (r_X0_lateAfter B i days)))) (0x00000000 : UInt32)) CmpOp.l) ≤ (0 : Int32) → ((n_X1_riskOf B (B 8 i.toNatClampNeg)) ∧ (vf_n32 (FP.fsub (0x3f800000 : UInt32) (r_X1_riskOf B (B 8 i.toNatClampNeg))) ∧ (vf_n32 (FP.fmul (0x00000000 : UInt32) (FP.fsub (0x3f800000 : UInt32) (r_X1_riskOf B (B 8 i.toNatClampNeg)))) ∧ True)))) ∧ (¬ ((Op.cmpValue (FP.fcmp (FP.fsub ((B 15 (0 : Int32).toNatClampNeg).toUInt32) (FP.fmul ((B 15 (1 : Int32).toNatClampNeg).toUInt32) (FP.i2f (r_X0_lateAfter B i days)))) (0x00000000 : UInt32)) CmpOp.l) ≤ (0 : Int32)) → ((n_X1_riskOf B (B 8 i.toNatClampNeg)) ∧ (vf_n32 (FP.fsub (0x3f800000 : UInt32) (r_X1_riskOf B (B 8 i.toNatClampNeg))) ∧ (vf_n32 (FP.fmul (FP.fsub ((B 15 (0 : Int32).toNatClampNeg).toUInt32) (FP.fmul ((B 15 (1 : Int32).toNatClampNeg).toUInt32) (FP.i2f (r_X0_lateAfter B i days)))) (FP.fsub (0x3f800000 : UInt32) (r_X1_riskOf B (B 8 i.toNatClampNeg)))) ∧ True)))))))))
set_option maxRecDepth 100000 in
set_option maxHeartbeats 4000000 in
theorem c_X0_rateAfter (l : Launch) (D : va_G) (ca : Nat → ClassId) (g : Nat → Nat) (B : jB) (i : Int32) (days : Int32) (hq : n_X0_rateAfter B i days) : jM l D ca yX0_rateAfter cX0_rateAfter 5 (Option.some FieldType.float) 3 65 0 0 [.ref (g 0), .int i, .int days] (bkW ca g B) (jD (some (.float (r_X0_rateAfter B i days))) (bkW ca g B)) := by
  refine jM_of [(0, .ref (g 0)), (1, .int i), (2, .int days)] (by decide) (Nat.le_of_ble_eq_true rfl) rfl (fun X C E => ?_)
  rw [n_X0_rateAfter] at hq
  refine j_aload_n C dX0_rateAfter_0 rfl ?_
  refine j_get C f_X0_28.F 0 dX0_rateAfter_1 bkW_0 rfl ?_
  refine j_iload_n C dX0_rateAfter_4 rfl ?_
  refine j_callViR C g_X0_49 (c_X3_has l D ca g B i) 3 bkW_3 hcl_X3 ⟨Nat.le_of_ble_eq_true rfl, Nat.le_of_ble_eq_true rfl⟩ ⟨Nat.le_of_ble_eq_true rfl, Nat.le_of_ble_eq_true rfl⟩ [3, 13, 14, 15, 16, 17, 18, 19] pl_bk_iv rfl rfl rfl (Nat.le_of_ble_eq_true rfl) dX0_rateAfter_5 ?_
  refine j_if_ne (tgt := 15) C dX0_rateAfter_8 (by decide) (fun (h8 : ¬ ((r_X3_has B i) = (0 : Int32))) => ?_) (fun (h8 : (r_X3_has B i) = (0 : Int32)) => ?_)
  · have hq := hq.2 h8
    refine j_aload_n C dX0_rateAfter_15 rfl ?_
    refine j_get C f_X0_32.F 0 dX0_rateAfter_16 bkW_0 rfl ?_
    refine j_iconst C dX0_rateAfter_19 (0 : Int32) (by decide) ?_
    refine j_fald C 4 dX0_rateAfter_20 bkW_4 (vin_c rfl) ?_
    refine j_aload_n C dX0_rateAfter_21 rfl ?_
    refine j_get C f_X0_32.F 0 dX0_rateAfter_22 bkW_0 rfl ?_
    refine j_iconst C dX0_rateAfter_25 (1 : Int32) (by decide) ?_
    refine j_fald C 4 dX0_rateAfter_26 bkW_4 (vin_c rfl) ?_
    refine j_aload_n C dX0_rateAfter_27 rfl ?_
    refine j_iload_n C dX0_rateAfter_28 rfl ?_
    refine j_iload_n C dX0_rateAfter_29 rfl ?_
    refine j_callViRW C g_X0_68 (c_X0_lateAfter l D ca g B i days) 0 bkW_0 hcl_X0 ⟨Nat.le_of_ble_eq_true rfl, Nat.le_of_ble_eq_true rfl⟩ ⟨Nat.le_of_ble_eq_true rfl, Nat.le_of_ble_eq_true rfl⟩ rfl rfl (Nat.le_of_ble_eq_true rfl) dX0_rateAfter_30 ?_
    refine j_i2f C dX0_rateAfter_33 ?_
    obtain ⟨hv, hq⟩ := hq
    refine j_fmul C dX0_rateAfter_34 hv ?_
    obtain ⟨hv, hq⟩ := hq
    refine j_fsub C dX0_rateAfter_35 hv ?_
    refine j_fstore_n C [(3, _), (0, _), (1, _), (2, _)] dX0_rateAfter_36 (by decide) rfl ?_
    refine j_fload_n C dX0_rateAfter_37 rfl ?_
    refine j_fconst0 C dX0_rateAfter_38 ?_
    refine j_fcmp C dX0_rateAfter_39 ?_
    refine j_if_le (tgt := 47) C dX0_rateAfter_40 (by decide) (fun (h40 : (Op.cmpValue (FP.fcmp (FP.fsub ((B 15 (0 : Int32).toNatClampNeg).toUInt32) (FP.fmul ((B 15 (1 : Int32).toNatClampNeg).toUInt32) (FP.i2f (r_X0_lateAfter B i days)))) (0x00000000 : UInt32)) CmpOp.l) ≤ (0 : Int32)) => ?_) (fun (h40 : ¬ ((Op.cmpValue (FP.fcmp (FP.fsub ((B 15 (0 : Int32).toNatClampNeg).toUInt32) (FP.fmul ((B 15 (1 : Int32).toNatClampNeg).toUInt32) (FP.i2f (r_X0_lateAfter B i days)))) (0x00000000 : UInt32)) CmpOp.l) ≤ (0 : Int32))) => ?_)
    · have hq := hq.1 h40
      refine j_fconst0 C dX0_rateAfter_47 ?_
      refine j_fstore C [(4, _), (3, _), (0, _), (1, _), (2, _)] dX0_rateAfter_48 (by decide) rfl ?_
      refine j_fload C dX0_rateAfter_50 rfl ?_
      refine j_fconst1 C dX0_rateAfter_52 ?_
      refine j_aload_n C dX0_rateAfter_53 rfl ?_
      refine j_get C f_X0_21.F 0 dX0_rateAfter_54 bkW_0 rfl ?_
      refine j_aload_n C dX0_rateAfter_57 rfl ?_
      refine j_get C f_X0_28.F 0 dX0_rateAfter_58 bkW_0 rfl ?_
      refine j_get C f_X0_72.F 3 dX0_rateAfter_61 bkW_3 rfl ?_
      refine j_iload_n C dX0_rateAfter_64 rfl ?_
      refine j_iald C 14 dX0_rateAfter_65 bkW_14 (has_X3 h8) ?_
      obtain ⟨hv, hq⟩ := hq
      refine j_callVfR C g_X0_75 (c_X1_riskOf l D ca g B (B 8 i.toNatClampNeg) hv) 2 bkW_2 hcl_X1 ⟨Nat.le_of_ble_eq_true rfl, Nat.le_of_ble_eq_true rfl⟩ ⟨Nat.le_of_ble_eq_true rfl, Nat.le_of_ble_eq_true rfl⟩ [2, 10, 11, 12] pl_bk_cl rfl rfl rfl (Nat.le_of_ble_eq_true rfl) dX0_rateAfter_66 ?_
      obtain ⟨hv, hq⟩ := hq
      refine j_fsub C dX0_rateAfter_69 hv ?_
      obtain ⟨hv, hq⟩ := hq
      refine j_fmul C dX0_rateAfter_70 hv ?_
      have e9 : r_X0_rateAfter B i days = (FP.fmul (0x00000000 : UInt32) (FP.fsub (0x3f800000 : UInt32) (r_X1_riskOf B (B 8 i.toNatClampNeg)))) := by rw [r_X0_rateAfter, if_neg h8, if_pos h40]
      exact j_fret E dX0_rateAfter_71 (by rw [e9]; exact ⟨rfl, rfl⟩)
    · have hq := hq.2 h40
      refine j_fload_n C dX0_rateAfter_43 rfl ?_
      refine j_goto (tgt := 48) C dX0_rateAfter_44 (by decide) ?_
      refine j_fstore C [(4, _), (3, _), (0, _), (1, _), (2, _)] dX0_rateAfter_48 (by decide) rfl ?_
      refine j_fload C dX0_rateAfter_50 rfl ?_
      refine j_fconst1 C dX0_rateAfter_52 ?_
      refine j_aload_n C dX0_rateAfter_53 rfl ?_
      refine j_get C f_X0_21.F 0 dX0_rateAfter_54 bkW_0 rfl ?_
      refine j_aload_n C dX0_rateAfter_57 rfl ?_
      refine j_get C f_X0_28.F 0 dX0_rateAfter_58 bkW_0 rfl ?_
      refine j_get C f_X0_72.F 3 dX0_rateAfter_61 bkW_3 rfl ?_
      refine j_iload_n C dX0_rateAfter_64 rfl ?_
      refine j_iald C 14 dX0_rateAfter_65 bkW_14 (has_X3 h8) ?_
      obtain ⟨hv, hq⟩ := hq
      refine j_callVfR C g_X0_75 (c_X1_riskOf l D ca g B (B 8 i.toNatClampNeg) hv) 2 bkW_2 hcl_X1 ⟨Nat.le_of_ble_eq_true rfl, Nat.le_of_ble_eq_true rfl⟩ ⟨Nat.le_of_ble_eq_true rfl, Nat.le_of_ble_eq_true rfl⟩ [2, 10, 11, 12] pl_bk_cl rfl rfl rfl (Nat.le_of_ble_eq_true rfl) dX0_rateAfter_66 ?_
      obtain ⟨hv, hq⟩ := hq
      refine j_fsub C dX0_rateAfter_69 hv ?_
      obtain ⟨hv, hq⟩ := hq
      refine j_fmul C dX0_rateAfter_70 hv ?_
      have e9 : r_X0_rateAfter B i days = (FP.fmul (FP.fsub ((B 15 (0 : Int32).toNatClampNeg).toUInt32) (FP.fmul ((B 15 (1 : Int32).toNatClampNeg).toUInt32) (FP.i2f (r_X0_lateAfter B i days)))) (FP.fsub (0x3f800000 : UInt32) (r_X1_riskOf B (B 8 i.toNatClampNeg)))) := by rw [r_X0_rateAfter, if_neg h8, if_neg h40]
      exact j_fret E dX0_rateAfter_71 (by rw [e9]; exact ⟨rfl, rfl⟩)
  · have hq := hq.1 h8
    refine j_callSNfR C g_X0_64 (c_X7_noNumber l D ca) ⟨Nat.le_of_ble_eq_true rfl, Nat.le_of_ble_eq_true rfl⟩ ⟨Nat.le_of_ble_eq_true rfl, Nat.le_of_ble_eq_true rfl⟩ [] rfl rfl rfl rfl (Nat.le_of_ble_eq_true rfl) dX0_rateAfter_11 ?_
    have e9 : r_X0_rateAfter B i days = (r_X7_noNumber) := by rw [r_X0_rateAfter, if_pos h8]
    exact j_fret E dX0_rateAfter_14 (by rw [e9]; exact ⟨rfl, rfl⟩)


def r_X0_offerAfter (B : jB) (i : Int32) (days : Int32) : Int32 := (if (r_X3_has B i) = (0 : Int32) then (0 : Int32) else (FP.f2i (FP.fmul (FP.i2f (B 9 i.toNatClampNeg)) (r_X0_rateAfter B i days))))
def n_X0_offerAfter (B : jB) (i : Int32) (days : Int32) : Prop := (((r_X3_has B i) = (0 : Int32) → True) ∧ (¬ ((r_X3_has B i) = (0 : Int32)) → ((n_X0_rateAfter B i days) ∧ (vf_n32 (FP.fmul (FP.i2f (B 9 i.toNatClampNeg)) (r_X0_rateAfter B i days)) ∧ True))))
set_option maxRecDepth 100000 in
set_option maxHeartbeats 4000000 in
theorem c_X0_offerAfter (l : Launch) (D : va_G) (ca : Nat → ClassId) (g : Nat → Nat) (B : jB) (i : Int32) (days : Int32) (hq : n_X0_offerAfter B i days) : jM l D ca yX0_offerAfter cX0_offerAfter 3 (some .int) 4 89 0 0 [.ref (g 0), .int i, .int days] (bkW ca g B) (jD (some (.int (r_X0_offerAfter B i days))) (bkW ca g B)) := by
  refine jM_of [(0, .ref (g 0)), (1, .int i), (2, .int days)] (by decide) (Nat.le_of_ble_eq_true rfl) rfl (fun X C E => ?_)
  rw [n_X0_offerAfter] at hq
  refine j_aload_n C dX0_offerAfter_0 rfl ?_
  refine j_get C f_X0_28.F 0 dX0_offerAfter_1 bkW_0 rfl ?_
  refine j_iload_n C dX0_offerAfter_4 rfl ?_
  refine j_callViR C g_X0_49 (c_X3_has l D ca g B i) 3 bkW_3 hcl_X3 ⟨Nat.le_of_ble_eq_true rfl, Nat.le_of_ble_eq_true rfl⟩ ⟨Nat.le_of_ble_eq_true rfl, Nat.le_of_ble_eq_true rfl⟩ [3, 13, 14, 15, 16, 17, 18, 19] pl_bk_iv rfl rfl rfl (Nat.le_of_ble_eq_true rfl) dX0_offerAfter_5 ?_
  refine j_if_ne (tgt := 13) C dX0_offerAfter_8 (by decide) (fun (h8 : ¬ ((r_X3_has B i) = (0 : Int32))) => ?_) (fun (h8 : (r_X3_has B i) = (0 : Int32)) => ?_)
  · have hq := hq.2 h8
    refine j_aload_n C dX0_offerAfter_13 rfl ?_
    refine j_get C f_X0_28.F 0 dX0_offerAfter_14 bkW_0 rfl ?_
    refine j_get C f_X0_79.F 3 dX0_offerAfter_17 bkW_3 rfl ?_
    refine j_iload_n C dX0_offerAfter_20 rfl ?_
    refine j_iald C 15 dX0_offerAfter_21 bkW_15 (has_X3 h8) ?_
    refine j_i2f C dX0_offerAfter_22 ?_
    refine j_aload_n C dX0_offerAfter_23 rfl ?_
    refine j_iload_n C dX0_offerAfter_24 rfl ?_
    refine j_iload_n C dX0_offerAfter_25 rfl ?_
    obtain ⟨hv, hq⟩ := hq
    refine j_callVfRW C g_X0_82 (c_X0_rateAfter l D ca g B i days hv) 0 bkW_0 hcl_X0 ⟨Nat.le_of_ble_eq_true rfl, Nat.le_of_ble_eq_true rfl⟩ ⟨Nat.le_of_ble_eq_true rfl, Nat.le_of_ble_eq_true rfl⟩ rfl rfl (Nat.le_of_ble_eq_true rfl) dX0_offerAfter_26 ?_
    obtain ⟨hv, hq⟩ := hq
    refine j_fmul C dX0_offerAfter_29 hv ?_
    refine j_f2i C dX0_offerAfter_30 ?_
    have e9 : r_X0_offerAfter B i days = (FP.f2i (FP.fmul (FP.i2f (B 9 i.toNatClampNeg)) (r_X0_rateAfter B i days))) := by rw [r_X0_offerAfter, if_neg h8]
    exact j_iret E dX0_offerAfter_31 (by rw [e9]; exact ⟨rfl, rfl⟩)
  · have hq := hq.1 h8
    refine j_iconst C dX0_offerAfter_11 (0 : Int32) (by decide) ?_
    have e9 : r_X0_offerAfter B i days = (0 : Int32) := by rw [r_X0_offerAfter, if_pos h8]
    exact j_iret E dX0_offerAfter_12 (by rw [e9]; exact ⟨rfl, rfl⟩)


def r_X0_worthOf (B : jB) (i : Int32) : UInt32 := (if (r_X3_has B i) = (0 : Int32) then (r_X7_noNumber) else (FP.fsub (FP.fmul (FP.i2f ((B 9 i.toNatClampNeg) - (r_X0_offerAfter B i (0 : Int32)))) (FP.fsub (0x3f800000 : UInt32) (r_X1_riskOf B (B 8 i.toNatClampNeg)))) (FP.fmul (FP.i2f (r_X0_offerAfter B i (0 : Int32))) (r_X1_riskOf B (B 8 i.toNatClampNeg)))))
def n_X0_worthOf (B : jB) (i : Int32) : Prop := (((r_X3_has B i) = (0 : Int32) → True) ∧ (¬ ((r_X3_has B i) = (0 : Int32)) → ((n_X0_offerAfter B i (0 : Int32)) ∧ ((n_X1_riskOf B (B 8 i.toNatClampNeg)) ∧ (vf_n32 (FP.fsub (0x3f800000 : UInt32) (r_X1_riskOf B (B 8 i.toNatClampNeg))) ∧ (vf_n32 (FP.fmul (FP.i2f ((B 9 i.toNatClampNeg) - (r_X0_offerAfter B i (0 : Int32)))) (FP.fsub (0x3f800000 : UInt32) (r_X1_riskOf B (B 8 i.toNatClampNeg)))) ∧ (vf_n32 (FP.fmul (FP.i2f (r_X0_offerAfter B i (0 : Int32))) (r_X1_riskOf B (B 8 i.toNatClampNeg))) ∧ (vf_n32 (FP.fsub (FP.fmul (FP.i2f ((B 9 i.toNatClampNeg) - (r_X0_offerAfter B i (0 : Int32)))) (FP.fsub (0x3f800000 : UInt32) (r_X1_riskOf B (B 8 i.toNatClampNeg)))) (FP.fmul (FP.i2f (r_X0_offerAfter B i (0 : Int32))) (r_X1_riskOf B (B 8 i.toNatClampNeg)))) ∧ True))))))))
set_option maxRecDepth 100000 in
set_option maxHeartbeats 4000000 in
theorem c_X0_worthOf (l : Launch) (D : va_G) (ca : Nat → ClassId) (g : Nat → Nat) (B : jB) (i : Int32) (hq : n_X0_worthOf B i) : jM l D ca yX0_worthOf cX0_worthOf 5 (Option.some FieldType.float) 5 111 0 0 [.ref (g 0), .int i] (bkW ca g B) (jD (some (.float (r_X0_worthOf B i))) (bkW ca g B)) := by
  refine jM_of [(0, .ref (g 0)), (1, .int i)] (by decide) (Nat.le_of_ble_eq_true rfl) rfl (fun X C E => ?_)
  rw [n_X0_worthOf] at hq
  refine j_aload_n C dX0_worthOf_0 rfl ?_
  refine j_get C f_X0_28.F 0 dX0_worthOf_1 bkW_0 rfl ?_
  refine j_iload_n C dX0_worthOf_4 rfl ?_
  refine j_callViR C g_X0_49 (c_X3_has l D ca g B i) 3 bkW_3 hcl_X3 ⟨Nat.le_of_ble_eq_true rfl, Nat.le_of_ble_eq_true rfl⟩ ⟨Nat.le_of_ble_eq_true rfl, Nat.le_of_ble_eq_true rfl⟩ [3, 13, 14, 15, 16, 17, 18, 19] pl_bk_iv rfl rfl rfl (Nat.le_of_ble_eq_true rfl) dX0_worthOf_5 ?_
  refine j_if_ne (tgt := 15) C dX0_worthOf_8 (by decide) (fun (h8 : ¬ ((r_X3_has B i) = (0 : Int32))) => ?_) (fun (h8 : (r_X3_has B i) = (0 : Int32)) => ?_)
  · have hq := hq.2 h8
    refine j_aload_n C dX0_worthOf_15 rfl ?_
    refine j_iload_n C dX0_worthOf_16 rfl ?_
    refine j_iconst C dX0_worthOf_17 (0 : Int32) (by decide) ?_
    obtain ⟨hv, hq⟩ := hq
    refine j_callViRW C g_X0_86 (c_X0_offerAfter l D ca g B i (0 : Int32) hv) 0 bkW_0 hcl_X0 ⟨Nat.le_of_ble_eq_true rfl, Nat.le_of_ble_eq_true rfl⟩ ⟨Nat.le_of_ble_eq_true rfl, Nat.le_of_ble_eq_true rfl⟩ rfl rfl (Nat.le_of_ble_eq_true rfl) dX0_worthOf_18 ?_
    refine j_istore_n C [(2, _), (0, _), (1, _)] dX0_worthOf_21 (by decide) rfl ?_
    refine j_aload_n C dX0_worthOf_22 rfl ?_
    refine j_get C f_X0_21.F 0 dX0_worthOf_23 bkW_0 rfl ?_
    refine j_aload_n C dX0_worthOf_26 rfl ?_
    refine j_get C f_X0_28.F 0 dX0_worthOf_27 bkW_0 rfl ?_
    refine j_get C f_X0_72.F 3 dX0_worthOf_30 bkW_3 rfl ?_
    refine j_iload_n C dX0_worthOf_33 rfl ?_
    refine j_iald C 14 dX0_worthOf_34 bkW_14 (has_X3 h8) ?_
    obtain ⟨hv, hq⟩ := hq
    refine j_callVfR C g_X0_75 (c_X1_riskOf l D ca g B (B 8 i.toNatClampNeg) hv) 2 bkW_2 hcl_X1 ⟨Nat.le_of_ble_eq_true rfl, Nat.le_of_ble_eq_true rfl⟩ ⟨Nat.le_of_ble_eq_true rfl, Nat.le_of_ble_eq_true rfl⟩ [2, 10, 11, 12] pl_bk_cl rfl rfl rfl (Nat.le_of_ble_eq_true rfl) dX0_worthOf_35 ?_
    refine j_fstore_n C [(3, _), (2, _), (0, _), (1, _)] dX0_worthOf_38 (by decide) rfl ?_
    refine j_aload_n C dX0_worthOf_39 rfl ?_
    refine j_get C f_X0_28.F 0 dX0_worthOf_40 bkW_0 rfl ?_
    refine j_get C f_X0_79.F 3 dX0_worthOf_43 bkW_3 rfl ?_
    refine j_iload_n C dX0_worthOf_46 rfl ?_
    refine j_iald C 15 dX0_worthOf_47 bkW_15 (has_X3 h8) ?_
    refine j_iload_n C dX0_worthOf_48 rfl ?_
    refine j_isub C dX0_worthOf_49 ?_
    refine j_i2f C dX0_worthOf_50 ?_
    refine j_fconst1 C dX0_worthOf_51 ?_
    refine j_fload_n C dX0_worthOf_52 rfl ?_
    obtain ⟨hv, hq⟩ := hq
    refine j_fsub C dX0_worthOf_53 hv ?_
    obtain ⟨hv, hq⟩ := hq
    refine j_fmul C dX0_worthOf_54 hv ?_
    refine j_fstore C [(4, _), (3, _), (2, _), (0, _), (1, _)] dX0_worthOf_55 (by decide) rfl ?_
    refine j_fload C dX0_worthOf_57 rfl ?_
    refine j_iload_n C dX0_worthOf_59 rfl ?_
    refine j_i2f C dX0_worthOf_60 ?_
    refine j_fload_n C dX0_worthOf_61 rfl ?_
    obtain ⟨hv, hq⟩ := hq
    refine j_fmul C dX0_worthOf_62 hv ?_
    obtain ⟨hv, hq⟩ := hq
    refine j_fsub C dX0_worthOf_63 hv ?_
    have e9 : r_X0_worthOf B i = (FP.fsub (FP.fmul (FP.i2f ((B 9 i.toNatClampNeg) - (r_X0_offerAfter B i (0 : Int32)))) (FP.fsub (0x3f800000 : UInt32) (r_X1_riskOf B (B 8 i.toNatClampNeg)))) (FP.fmul (FP.i2f (r_X0_offerAfter B i (0 : Int32))) (r_X1_riskOf B (B 8 i.toNatClampNeg)))) := by rw [r_X0_worthOf, if_neg h8]
    exact j_fret E dX0_worthOf_64 (by rw [e9]; exact ⟨rfl, rfl⟩)
  · have hq := hq.1 h8
    refine j_callSNfR C g_X0_64 (c_X7_noNumber l D ca) ⟨Nat.le_of_ble_eq_true rfl, Nat.le_of_ble_eq_true rfl⟩ ⟨Nat.le_of_ble_eq_true rfl, Nat.le_of_ble_eq_true rfl⟩ [] rfl rfl rfl rfl (Nat.le_of_ble_eq_true rfl) dX0_worthOf_11 ?_
    have e9 : r_X0_worthOf B i = (r_X7_noNumber) := by rw [r_X0_worthOf, if_pos h8]
    exact j_fret E dX0_worthOf_14 (by rw [e9]; exact ⟨rfl, rfl⟩)


def r_X0_canPayAhead (B : jB) (i : Int32) : Int32 := (if (r_X3_has B i) = (0 : Int32) then (0 : Int32) else (if (B 11 i.toNatClampNeg) = (0 : Int32) then (if (B 12 i.toNatClampNeg) = (0 : Int32) then (if (B 14 (0 : Int32).toNatClampNeg) ≤ (r_X0_ageOf B i) then (if (r_X0_offerAfter B i (0 : Int32)) ≤ (0 : Int32) then (0 : Int32) else (if ((B 16 3) - (r_X0_offerAfter B i (0 : Int32))) < (r_X0_reserveCents B) then (0 : Int32) else (1 : Int32))) else (0 : Int32)) else (0 : Int32)) else (0 : Int32)))
def n_X0_canPayAhead (B : jB) (i : Int32) : Prop := (((r_X3_has B i) = (0 : Int32) → True) ∧ (¬ ((r_X3_has B i) = (0 : Int32)) → (((B 11 i.toNatClampNeg) = (0 : Int32) → (((B 12 i.toNatClampNeg) = (0 : Int32) → (((B 14 (0 : Int32).toNatClampNeg) ≤ (r_X0_ageOf B i) → ((n_X0_offerAfter B i (0 : Int32)) ∧ (((r_X0_offerAfter B i (0 : Int32)) ≤ (0 : Int32) → True) ∧ (¬ ((r_X0_offerAfter B i (0 : Int32)) ≤ (0 : Int32)) → ((((B 16 3) - (r_X0_offerAfter B i (0 : Int32))) < (r_X0_reserveCents B) → True) ∧ (¬ (((B 16 3) - (r_X0_offerAfter B i (0 : Int32))) < (r_X0_reserveCents B)) → True)))))) ∧ (¬ ((B 14 (0 : Int32).toNatClampNeg) ≤ (r_X0_ageOf B i)) → True))) ∧ (¬ ((B 12 i.toNatClampNeg) = (0 : Int32)) → True))) ∧ (¬ ((B 11 i.toNatClampNeg) = (0 : Int32)) → True))))
set_option maxRecDepth 100000 in
set_option maxHeartbeats 4000000 in
theorem c_X0_canPayAhead (l : Launch) (D : va_G) (ca : Nat → ClassId) (g : Nat → Nat) (B : jB) (i : Int32) (hq : n_X0_canPayAhead B i) : jM l D ca yX0_canPayAhead cX0_canPayAhead 3 (Option.some FieldType.boolean) 5 111 0 0 [.ref (g 0), .int i] (bkW ca g B) (jD (some (.int (r_X0_canPayAhead B i))) (bkW ca g B)) := by
  refine jM_of [(0, .ref (g 0)), (1, .int i)] (by decide) (Nat.le_of_ble_eq_true rfl) rfl (fun X C E => ?_)
  rw [n_X0_canPayAhead] at hq
  refine j_aload_n C dX0_canPayAhead_0 rfl ?_
  refine j_get C f_X0_28.F 0 dX0_canPayAhead_1 bkW_0 rfl ?_
  refine j_iload_n C dX0_canPayAhead_4 rfl ?_
  refine j_callViR C g_X0_49 (c_X3_has l D ca g B i) 3 bkW_3 hcl_X3 ⟨Nat.le_of_ble_eq_true rfl, Nat.le_of_ble_eq_true rfl⟩ ⟨Nat.le_of_ble_eq_true rfl, Nat.le_of_ble_eq_true rfl⟩ [3, 13, 14, 15, 16, 17, 18, 19] pl_bk_iv rfl rfl rfl (Nat.le_of_ble_eq_true rfl) dX0_canPayAhead_5 ?_
  refine j_if_ne (tgt := 13) C dX0_canPayAhead_8 (by decide) (fun (h8 : ¬ ((r_X3_has B i) = (0 : Int32))) => ?_) (fun (h8 : (r_X3_has B i) = (0 : Int32)) => ?_)
  · have hq := hq.2 h8
    refine j_aload_n C dX0_canPayAhead_13 rfl ?_
    refine j_get C f_X0_28.F 0 dX0_canPayAhead_14 bkW_0 rfl ?_
    refine j_get C f_X0_89.F 3 dX0_canPayAhead_17 bkW_3 rfl ?_
    refine j_iload_n C dX0_canPayAhead_20 rfl ?_
    refine j_iald C 17 dX0_canPayAhead_21 bkW_17 (has_X3 h8) ?_
    refine j_if_ne (tgt := 37) C dX0_canPayAhead_22 (by decide) (fun (h22 : ¬ ((B 11 i.toNatClampNeg) = (0 : Int32))) => ?_) (fun (h22 : (B 11 i.toNatClampNeg) = (0 : Int32)) => ?_)
    · have hq := hq.2 h22
      refine j_iconst C dX0_canPayAhead_37 (0 : Int32) (by decide) ?_
      have e9 : r_X0_canPayAhead B i = (0 : Int32) := by rw [r_X0_canPayAhead, if_neg h8, if_neg h22]
      exact j_zret E rfl dX0_canPayAhead_38 (by rw [e9]; exact ⟨rfl, rfl⟩)
    · have hq := hq.1 h22
      refine j_aload_n C dX0_canPayAhead_25 rfl ?_
      refine j_get C f_X0_28.F 0 dX0_canPayAhead_26 bkW_0 rfl ?_
      refine j_get C f_X0_92.F 3 dX0_canPayAhead_29 bkW_3 rfl ?_
      refine j_iload_n C dX0_canPayAhead_32 rfl ?_
      refine j_iald C 18 dX0_canPayAhead_33 bkW_18 (has_X3 h8) ?_
      refine j_if_eq (tgt := 39) C dX0_canPayAhead_34 (by decide) (fun (h34 : (B 12 i.toNatClampNeg) = (0 : Int32)) => ?_) (fun (h34 : ¬ ((B 12 i.toNatClampNeg) = (0 : Int32))) => ?_)
      · have hq := hq.1 h34
        refine j_aload_n C dX0_canPayAhead_39 rfl ?_
        refine j_iload_n C dX0_canPayAhead_40 rfl ?_
        refine j_callViRW C g_X0_60 (c_X0_ageOf l D ca g B i) 0 bkW_0 hcl_X0 ⟨Nat.le_of_ble_eq_true rfl, Nat.le_of_ble_eq_true rfl⟩ ⟨Nat.le_of_ble_eq_true rfl, Nat.le_of_ble_eq_true rfl⟩ rfl rfl (Nat.le_of_ble_eq_true rfl) dX0_canPayAhead_41 ?_
        refine j_aload_n C dX0_canPayAhead_44 rfl ?_
        refine j_get C f_X0_36.F 0 dX0_canPayAhead_45 bkW_0 rfl ?_
        refine j_iconst C dX0_canPayAhead_48 (0 : Int32) (by decide) ?_
        refine j_iald C 5 dX0_canPayAhead_49 bkW_5 (vin_c rfl) ?_
        refine j_icmp_ge (tgt := 55) C dX0_canPayAhead_50 (by decide) (fun (h50 : (B 14 (0 : Int32).toNatClampNeg) ≤ (r_X0_ageOf B i)) => ?_) (fun (h50 : ¬ ((B 14 (0 : Int32).toNatClampNeg) ≤ (r_X0_ageOf B i))) => ?_)
        · have hq := hq.1 h50
          refine j_aload_n C dX0_canPayAhead_55 rfl ?_
          refine j_iload_n C dX0_canPayAhead_56 rfl ?_
          refine j_iconst C dX0_canPayAhead_57 (0 : Int32) (by decide) ?_
          obtain ⟨hv, hq⟩ := hq
          refine j_callViRW C g_X0_86 (c_X0_offerAfter l D ca g B i (0 : Int32) hv) 0 bkW_0 hcl_X0 ⟨Nat.le_of_ble_eq_true rfl, Nat.le_of_ble_eq_true rfl⟩ ⟨Nat.le_of_ble_eq_true rfl, Nat.le_of_ble_eq_true rfl⟩ rfl rfl (Nat.le_of_ble_eq_true rfl) dX0_canPayAhead_58 ?_
          refine j_istore_n C [(2, _), (0, _), (1, _)] dX0_canPayAhead_61 (by decide) rfl ?_
          refine j_iload_n C dX0_canPayAhead_62 rfl ?_
          refine j_if_le (tgt := 83) C dX0_canPayAhead_63 (by decide) (fun (h63 : (r_X0_offerAfter B i (0 : Int32)) ≤ (0 : Int32)) => ?_) (fun (h63 : ¬ ((r_X0_offerAfter B i (0 : Int32)) ≤ (0 : Int32))) => ?_)
          · have hq := hq.1 h63
            refine j_iconst C dX0_canPayAhead_83 (0 : Int32) (by decide) ?_
            have e9 : r_X0_canPayAhead B i = (0 : Int32) := by rw [r_X0_canPayAhead, if_neg h8, if_pos h22, if_pos h34, if_pos h50, if_pos h63]
            exact j_zret E rfl dX0_canPayAhead_84 (by rw [e9]; exact ⟨rfl, rfl⟩)
          · have hq := hq.2 h63
            refine j_aload_n C dX0_canPayAhead_66 rfl ?_
            refine j_get C f_X0_95.F 0 dX0_canPayAhead_67 bkW_0 rfl ?_
            refine j_iload_n C dX0_canPayAhead_70 rfl ?_
            refine j_isub C dX0_canPayAhead_71 ?_
            refine j_aload_n C dX0_canPayAhead_72 rfl ?_
            refine j_callViRW C g_X0_98 (c_X0_reserveCents l D ca g B) 0 bkW_0 hcl_X0 ⟨Nat.le_of_ble_eq_true rfl, Nat.le_of_ble_eq_true rfl⟩ ⟨Nat.le_of_ble_eq_true rfl, Nat.le_of_ble_eq_true rfl⟩ rfl rfl (Nat.le_of_ble_eq_true rfl) dX0_canPayAhead_73 ?_
            refine j_icmp_lt (tgt := 83) C dX0_canPayAhead_76 (by decide) (fun (h76 : ((B 16 3) - (r_X0_offerAfter B i (0 : Int32))) < (r_X0_reserveCents B)) => ?_) (fun (h76 : ¬ (((B 16 3) - (r_X0_offerAfter B i (0 : Int32))) < (r_X0_reserveCents B))) => ?_)
            · have hq := hq.1 h76
              refine j_iconst C dX0_canPayAhead_83 (0 : Int32) (by decide) ?_
              have e9 : r_X0_canPayAhead B i = (0 : Int32) := by rw [r_X0_canPayAhead, if_neg h8, if_pos h22, if_pos h34, if_pos h50, if_neg h63, if_pos h76]
              exact j_zret E rfl dX0_canPayAhead_84 (by rw [e9]; exact ⟨rfl, rfl⟩)
            · have hq := hq.2 h76
              refine j_iconst C dX0_canPayAhead_79 (1 : Int32) (by decide) ?_
              refine j_goto (tgt := 84) C dX0_canPayAhead_80 (by decide) ?_
              have e9 : r_X0_canPayAhead B i = (1 : Int32) := by rw [r_X0_canPayAhead, if_neg h8, if_pos h22, if_pos h34, if_pos h50, if_neg h63, if_neg h76]
              exact j_zret E rfl dX0_canPayAhead_84 (by rw [e9]; exact ⟨rfl, rfl⟩)
        · have hq := hq.2 h50
          refine j_iconst C dX0_canPayAhead_53 (0 : Int32) (by decide) ?_
          have e9 : r_X0_canPayAhead B i = (0 : Int32) := by rw [r_X0_canPayAhead, if_neg h8, if_pos h22, if_pos h34, if_neg h50]
          exact j_zret E rfl dX0_canPayAhead_54 (by rw [e9]; exact ⟨rfl, rfl⟩)
      · have hq := hq.2 h34
        refine j_iconst C dX0_canPayAhead_37 (0 : Int32) (by decide) ?_
        have e9 : r_X0_canPayAhead B i = (0 : Int32) := by rw [r_X0_canPayAhead, if_neg h8, if_pos h22, if_neg h34]
        exact j_zret E rfl dX0_canPayAhead_38 (by rw [e9]; exact ⟨rfl, rfl⟩)
  · have hq := hq.1 h8
    refine j_iconst C dX0_canPayAhead_11 (0 : Int32) (by decide) ?_
    have e9 : r_X0_canPayAhead B i = (0 : Int32) := by rw [r_X0_canPayAhead, if_pos h8]
    exact j_zret E rfl dX0_canPayAhead_12 (by rw [e9]; exact ⟨rfl, rfl⟩)


def r_X0_canGiveUp (B : jB) (i : Int32) : Int32 := (if (r_X3_isUnsettled B i) = (0 : Int32) then (0 : Int32) else (if (r_X0_ageOf B i) < (B 14 (2 : Int32).toNatClampNeg) then (0 : Int32) else (1 : Int32)))
set_option maxRecDepth 100000 in
set_option maxHeartbeats 4000000 in
theorem c_X0_canGiveUp (l : Launch) (D : va_G) (ca : Nat → ClassId) (g : Nat → Nat) (B : jB) (i : Int32) : jM l D ca yX0_canGiveUp cX0_canGiveUp 2 (Option.some FieldType.boolean) 2 42 0 0 [.ref (g 0), .int i] (bkW ca g B) (jD (some (.int (r_X0_canGiveUp B i))) (bkW ca g B)) := by
  refine jM_of [(0, .ref (g 0)), (1, .int i)] (by decide) (Nat.le_of_ble_eq_true rfl) rfl (fun X C E => ?_)
  refine j_aload_n C dX0_canGiveUp_0 rfl ?_
  refine j_get C f_X0_28.F 0 dX0_canGiveUp_1 bkW_0 rfl ?_
  refine j_iload_n C dX0_canGiveUp_4 rfl ?_
  refine j_callViR C g_X0_101 (c_X3_isUnsettled l D ca g B i) 3 bkW_3 hcl_X3 ⟨Nat.le_of_ble_eq_true rfl, Nat.le_of_ble_eq_true rfl⟩ ⟨Nat.le_of_ble_eq_true rfl, Nat.le_of_ble_eq_true rfl⟩ [3, 13, 14, 15, 16, 17, 18, 19] pl_bk_iv rfl rfl rfl (Nat.le_of_ble_eq_true rfl) dX0_canGiveUp_5 ?_
  refine j_if_eq (tgt := 29) C dX0_canGiveUp_8 (by decide) (fun (h8 : (r_X3_isUnsettled B i) = (0 : Int32)) => ?_) (fun (h8 : ¬ ((r_X3_isUnsettled B i) = (0 : Int32))) => ?_)
  · refine j_iconst C dX0_canGiveUp_29 (0 : Int32) (by decide) ?_
    have e9 : r_X0_canGiveUp B i = (0 : Int32) := by rw [r_X0_canGiveUp, if_pos h8]
    exact j_zret E rfl dX0_canGiveUp_30 (by rw [e9]; exact ⟨rfl, rfl⟩)
  · refine j_aload_n C dX0_canGiveUp_11 rfl ?_
    refine j_iload_n C dX0_canGiveUp_12 rfl ?_
    refine j_callViRW C g_X0_60 (c_X0_ageOf l D ca g B i) 0 bkW_0 hcl_X0 ⟨Nat.le_of_ble_eq_true rfl, Nat.le_of_ble_eq_true rfl⟩ ⟨Nat.le_of_ble_eq_true rfl, Nat.le_of_ble_eq_true rfl⟩ rfl rfl (Nat.le_of_ble_eq_true rfl) dX0_canGiveUp_13 ?_
    refine j_aload_n C dX0_canGiveUp_16 rfl ?_
    refine j_get C f_X0_36.F 0 dX0_canGiveUp_17 bkW_0 rfl ?_
    refine j_iconst C dX0_canGiveUp_20 (2 : Int32) (by decide) ?_
    refine j_iald C 5 dX0_canGiveUp_21 bkW_5 (vin_c rfl) ?_
    refine j_icmp_lt (tgt := 29) C dX0_canGiveUp_22 (by decide) (fun (h22 : (r_X0_ageOf B i) < (B 14 (2 : Int32).toNatClampNeg)) => ?_) (fun (h22 : ¬ ((r_X0_ageOf B i) < (B 14 (2 : Int32).toNatClampNeg))) => ?_)
    · refine j_iconst C dX0_canGiveUp_29 (0 : Int32) (by decide) ?_
      have e9 : r_X0_canGiveUp B i = (0 : Int32) := by rw [r_X0_canGiveUp, if_neg h8, if_pos h22]
      exact j_zret E rfl dX0_canGiveUp_30 (by rw [e9]; exact ⟨rfl, rfl⟩)
    · refine j_iconst C dX0_canGiveUp_25 (1 : Int32) (by decide) ?_
      refine j_goto (tgt := 30) C dX0_canGiveUp_26 (by decide) ?_
      have e9 : r_X0_canGiveUp B i = (1 : Int32) := by rw [r_X0_canGiveUp, if_neg h8, if_neg h22]
      exact j_zret E rfl dX0_canGiveUp_30 (by rw [e9]; exact ⟨rfl, rfl⟩)
end
section
theorem fa_bk_17 {ca : Nat → ClassId} {g : Nat → Nat} {B : jB} {i : Nat} {v : Int32} : (bkW ca g B).set 17 (g 17, .inl (ca 0, 20, .inl (upd (B 11) i v))) = bkW ca g (up2 B 11 i v) := rfl
theorem fa_bk_19 {ca : Nat → ClassId} {g : Nat → Nat} {B : jB} {i : Nat} {v : Int32} : (bkW ca g B).set 19 (g 19, .inl (ca 0, 20, .inl (upd (B 13) i v))) = bkW ca g (up2 B 13 i v) := rfl
theorem fst_mb {ca : Nat → ClassId} {g : Nat → Nat} {A B : jB} : (mbW ca g A).map Prod.fst = (mbW ca g B).map Prod.fst := rfl
theorem fs_bk_X4_intoPurse {ca : Nat → ClassId} {g : Nat → Nat} {B : jB}  {i : Int32} {c : Int32} : jrep (bkW ca g B) [1, 6, 7, 8, 9] (mbW ca g (r_X4_intoPurse B i c)) = bkW ca g (r_X4_intoPurse B i c) := by
  unfold r_X4_intoPurse
  (repeat' split) <;> rfl
theorem fo_bk_0_6 {ca : Nat → ClassId} {g : Nat → Nat} {B : jB} {v : Int32} : (bkW ca g B).set 0 (g 0, .inr (0, [.ref (g 1), .ref (g 2), .ref (g 3), .ref (g 4), .ref (g 5), .int (B 16 2), .int (B 16 3), .int (B 16 4), .int (B 16 5), .int (B 16 6), .int (B 16 7)].set 6 (.int v))) = bkW ca g (up2 B 16 3 v) := rfl
theorem fo_bk_0_7 {ca : Nat → ClassId} {g : Nat → Nat} {B : jB} {v : Int32} : (bkW ca g B).set 0 (g 0, .inr (0, [.ref (g 1), .ref (g 2), .ref (g 3), .ref (g 4), .ref (g 5), .int (B 16 2), .int (B 16 3), .int (B 16 4), .int (B 16 5), .int (B 16 6), .int (B 16 7)].set 7 (.int v))) = bkW ca g (up2 B 16 4 v) := rfl

def r_X0_advance (B : jB) (i : Int32) : Int32 × jB := (if (r_X3_has B i) = (0 : Int32) then ((-1 : Int32), B) else ((r_X0_offerAfter B i (0 : Int32)), (up2 (up2 (r_X4_intoPurse (up2 (up2 B 11 (i).toNatClampNeg (1 : Int32)) 13 (i).toNatClampNeg (r_X0_offerAfter B i (0 : Int32))) (B 7 i.toNatClampNeg) (r_X0_offerAfter B i (0 : Int32))) 16 3 (((r_X4_intoPurse (up2 (up2 B 11 (i).toNatClampNeg (1 : Int32)) 13 (i).toNatClampNeg (r_X0_offerAfter B i (0 : Int32))) (B 7 i.toNatClampNeg) (r_X0_offerAfter B i (0 : Int32))) 16 3) - (r_X0_offerAfter B i (0 : Int32)))) 16 4 (((r_X4_intoPurse (up2 (up2 B 11 (i).toNatClampNeg (1 : Int32)) 13 (i).toNatClampNeg (r_X0_offerAfter B i (0 : Int32))) (B 7 i.toNatClampNeg) (r_X0_offerAfter B i (0 : Int32))) 16 4) + (r_X0_offerAfter B i (0 : Int32))))))
def n_X0_advance (B : jB) (i : Int32) : Prop := (((r_X3_has B i) = (0 : Int32) → True) ∧ (¬ ((r_X3_has B i) = (0 : Int32)) → ((n_X0_offerAfter B i (0 : Int32)) ∧ True)))
set_option maxRecDepth 100000 in
set_option maxHeartbeats 4000000 in
theorem c_X0_advance (l : Launch) (D : va_G) (ca : Nat → ClassId) (g : Nat → Nat) (B : jB) (i : Int32) (hq : n_X0_advance B i) : jM l D ca yX0_advance cX0_advance 3 (some .int) 5 111 0 0 [.ref (g 0), .int i] (bkW ca g B) (jD (some (.int (r_X0_advance B i).1)) (bkW ca g ((r_X0_advance B i).2))) := by
  refine jM_of [(0, .ref (g 0)), (1, .int i)] (by decide) (Nat.le_of_ble_eq_true rfl) rfl (fun X C E => ?_)
  rw [n_X0_advance] at hq
  refine j_aload_n C dX0_advance_0 rfl ?_
  refine j_get C f_X0_28.F 0 dX0_advance_1 bkW_0 rfl ?_
  refine j_iload_n C dX0_advance_4 rfl ?_
  refine j_callViR C g_X0_49 (c_X3_has l D ca g B i) 3 bkW_3 hcl_X3 ⟨Nat.le_of_ble_eq_true rfl, Nat.le_of_ble_eq_true rfl⟩ ⟨Nat.le_of_ble_eq_true rfl, Nat.le_of_ble_eq_true rfl⟩ [3, 13, 14, 15, 16, 17, 18, 19] pl_bk_iv rfl rfl rfl (Nat.le_of_ble_eq_true rfl) dX0_advance_5 ?_
  refine j_if_ne (tgt := 13) C dX0_advance_8 (by decide) (fun (h8 : ¬ ((r_X3_has B i) = (0 : Int32))) => ?_) (fun (h8 : (r_X3_has B i) = (0 : Int32)) => ?_)
  · have hq := hq.2 h8
    refine j_aload_n C dX0_advance_13 rfl ?_
    refine j_iload_n C dX0_advance_14 rfl ?_
    refine j_iconst C dX0_advance_15 (0 : Int32) (by decide) ?_
    obtain ⟨hv, hq⟩ := hq
    refine j_callViRW C g_X0_86 (c_X0_offerAfter l D ca g B i (0 : Int32) hv) 0 bkW_0 hcl_X0 ⟨Nat.le_of_ble_eq_true rfl, Nat.le_of_ble_eq_true rfl⟩ ⟨Nat.le_of_ble_eq_true rfl, Nat.le_of_ble_eq_true rfl⟩ rfl rfl (Nat.le_of_ble_eq_true rfl) dX0_advance_16 ?_
    refine j_istore_n C [(2, _), (0, _), (1, _)] dX0_advance_19 (by decide) rfl ?_
    refine j_aload_n C dX0_advance_20 rfl ?_
    refine j_get C f_X0_28.F 0 dX0_advance_21 bkW_0 rfl ?_
    refine j_get C f_X0_89.F 3 dX0_advance_24 bkW_3 rfl ?_
    refine j_iload_n C dX0_advance_27 rfl ?_
    refine j_iconst C dX0_advance_28 (1 : Int32) (by decide) ?_
    refine j_iast C 17 dX0_advance_29 bkW_17 (has_X3 h8) ?_
    refine j_ws fa_bk_17 ?_
    refine j_aload_n C dX0_advance_30 rfl ?_
    refine j_get C f_X0_28.F 0 dX0_advance_31 bkW_0 rfl ?_
    refine j_get C f_X0_104.F 3 dX0_advance_34 bkW_3 rfl ?_
    refine j_iload_n C dX0_advance_37 rfl ?_
    refine j_iload_n C dX0_advance_38 rfl ?_
    refine j_iast C 19 dX0_advance_39 bkW_19 (has_X3 h8) ?_
    refine j_ws fa_bk_19 ?_
    refine j_aload_n C dX0_advance_40 rfl ?_
    refine j_get C f_X0_12.F 0 dX0_advance_41 bkW_0 rfl ?_
    refine j_aload_n C dX0_advance_44 rfl ?_
    refine j_get C f_X0_28.F 0 dX0_advance_45 bkW_0 rfl ?_
    refine j_get C f_X0_107.F 3 dX0_advance_48 bkW_3 rfl ?_
    refine j_iload_n C dX0_advance_51 rfl ?_
    refine j_iald C 13 dX0_advance_52 bkW_13 (has_X3 h8) ?_
    refine j_st (st' := [.int (B 7 i.toNatClampNeg), .ref (g 1)]) rfl ?_
    refine j_iload_n C dX0_advance_53 rfl ?_
    refine j_callVv C g_X0_110 (c_X4_intoPurse l D ca g (up2 (up2 B 11 (i).toNatClampNeg (1 : Int32)) 13 (i).toNatClampNeg (r_X0_offerAfter B i (0 : Int32))) (B 7 i.toNatClampNeg) (r_X0_offerAfter B i (0 : Int32))) 1 bkW_1 hcl_X4 ⟨Nat.le_of_ble_eq_true rfl, Nat.le_of_ble_eq_true rfl⟩ ⟨Nat.le_of_ble_eq_true rfl, Nat.le_of_ble_eq_true rfl⟩ [1, 6, 7, 8, 9] pl_bk_mb rfl rfl rfl (Nat.le_of_ble_eq_true rfl) dX0_advance_54 fst_mb ?_
    refine j_ws fs_bk_X4_intoPurse ?_
    refine j_aload_n C dX0_advance_57 rfl ?_
    refine j_dup C dX0_advance_58 rfl ?_
    refine j_get C f_X0_95.F 0 dX0_advance_59 bkW_0 rfl ?_
    refine j_iload_n C dX0_advance_62 rfl ?_
    refine j_isub C dX0_advance_63 ?_
    refine j_put C f_X0_95 0 dX0_advance_64 bkW_0 (Nat.le_of_ble_eq_true rfl) rfl rfl ?_
    refine j_ws fo_bk_0_6 ?_
    refine j_aload_n C dX0_advance_67 rfl ?_
    refine j_dup C dX0_advance_68 rfl ?_
    refine j_get C f_X0_114.F 0 dX0_advance_69 bkW_0 rfl ?_
    refine j_st (st' := [.int ((r_X4_intoPurse (up2 (up2 B 11 (i).toNatClampNeg (1 : Int32)) 13 (i).toNatClampNeg (r_X0_offerAfter B i (0 : Int32))) (B 7 i.toNatClampNeg) (r_X0_offerAfter B i (0 : Int32))) 16 4), .ref (g 0)]) rfl ?_
    refine j_iload_n C dX0_advance_72 rfl ?_
    refine j_iadd C dX0_advance_73 ?_
    refine j_put C f_X0_114 0 dX0_advance_74 bkW_0 (Nat.le_of_ble_eq_true rfl) rfl rfl ?_
    refine j_ws fo_bk_0_7 ?_
    refine j_iload_n C dX0_advance_77 rfl ?_
    have e9 : r_X0_advance B i = ((r_X0_offerAfter B i (0 : Int32)), (up2 (up2 (r_X4_intoPurse (up2 (up2 B 11 (i).toNatClampNeg (1 : Int32)) 13 (i).toNatClampNeg (r_X0_offerAfter B i (0 : Int32))) (B 7 i.toNatClampNeg) (r_X0_offerAfter B i (0 : Int32))) 16 3 (((r_X4_intoPurse (up2 (up2 B 11 (i).toNatClampNeg (1 : Int32)) 13 (i).toNatClampNeg (r_X0_offerAfter B i (0 : Int32))) (B 7 i.toNatClampNeg) (r_X0_offerAfter B i (0 : Int32))) 16 3) - (r_X0_offerAfter B i (0 : Int32)))) 16 4 (((r_X4_intoPurse (up2 (up2 B 11 (i).toNatClampNeg (1 : Int32)) 13 (i).toNatClampNeg (r_X0_offerAfter B i (0 : Int32))) (B 7 i.toNatClampNeg) (r_X0_offerAfter B i (0 : Int32))) 16 4) + (r_X0_offerAfter B i (0 : Int32))))) := by rw [r_X0_advance, if_neg h8]
    exact j_iret E dX0_advance_78 (by rw [e9]; exact ⟨rfl, rfl⟩)
  · have hq := hq.1 h8
    refine j_iconst C dX0_advance_11 (-1 : Int32) (by decide) ?_
    have e9 : r_X0_advance B i = ((-1 : Int32), B) := by rw [r_X0_advance, if_pos h8]
    exact j_iret E dX0_advance_12 (by rw [e9]; exact ⟨rfl, rfl⟩)


def r_X0_errorOfPayment (B : jB) (i : Int32) (c : Int32) : Int32 := (if (r_X3_has B i) = (0 : Int32) then (-1 : Int32) else (if (r_X3_isUnsettled B i) = (0 : Int32) then (-4 : Int32) else (if c < (1 : Int32) then (-2 : Int32) else (if c ≤ ((B 9 i.toNatClampNeg) - (B 12 i.toNatClampNeg)) then (0 : Int32) else (-2 : Int32)))))
set_option maxRecDepth 100000 in
set_option maxHeartbeats 4000000 in
theorem c_X0_errorOfPayment (l : Launch) (D : va_G) (ca : Nat → ClassId) (g : Nat → Nat) (B : jB) (i : Int32) (c : Int32) : jM l D ca yX0_errorOfPayment cX0_errorOfPayment 4 (some .int) 2 42 0 0 [.ref (g 0), .int i, .int c] (bkW ca g B) (jD (some (.int (r_X0_errorOfPayment B i c))) (bkW ca g B)) := by
  refine jM_of [(0, .ref (g 0)), (1, .int i), (2, .int c)] (by decide) (Nat.le_of_ble_eq_true rfl) rfl (fun X C E => ?_)
  refine j_aload_n C dX0_errorOfPayment_0 rfl ?_
  refine j_get C f_X0_28.F 0 dX0_errorOfPayment_1 bkW_0 rfl ?_
  refine j_iload_n C dX0_errorOfPayment_4 rfl ?_
  refine j_callViR C g_X0_49 (c_X3_has l D ca g B i) 3 bkW_3 hcl_X3 ⟨Nat.le_of_ble_eq_true rfl, Nat.le_of_ble_eq_true rfl⟩ ⟨Nat.le_of_ble_eq_true rfl, Nat.le_of_ble_eq_true rfl⟩ [3, 13, 14, 15, 16, 17, 18, 19] pl_bk_iv rfl rfl rfl (Nat.le_of_ble_eq_true rfl) dX0_errorOfPayment_5 ?_
  refine j_if_ne (tgt := 13) C dX0_errorOfPayment_8 (by decide) (fun (h8 : ¬ ((r_X3_has B i) = (0 : Int32))) => ?_) (fun (h8 : (r_X3_has B i) = (0 : Int32)) => ?_)
  · refine j_aload_n C dX0_errorOfPayment_13 rfl ?_
    refine j_get C f_X0_28.F 0 dX0_errorOfPayment_14 bkW_0 rfl ?_
    refine j_iload_n C dX0_errorOfPayment_17 rfl ?_
    refine j_callViR C g_X0_101 (c_X3_isUnsettled l D ca g B i) 3 bkW_3 hcl_X3 ⟨Nat.le_of_ble_eq_true rfl, Nat.le_of_ble_eq_true rfl⟩ ⟨Nat.le_of_ble_eq_true rfl, Nat.le_of_ble_eq_true rfl⟩ [3, 13, 14, 15, 16, 17, 18, 19] pl_bk_iv rfl rfl rfl (Nat.le_of_ble_eq_true rfl) dX0_errorOfPayment_18 ?_
    refine j_if_ne (tgt := 27) C dX0_errorOfPayment_21 (by decide) (fun (h21 : ¬ ((r_X3_isUnsettled B i) = (0 : Int32))) => ?_) (fun (h21 : (r_X3_isUnsettled B i) = (0 : Int32)) => ?_)
    · refine j_aload_n C dX0_errorOfPayment_27 rfl ?_
      refine j_get C f_X0_28.F 0 dX0_errorOfPayment_28 bkW_0 rfl ?_
      refine j_get C f_X0_79.F 3 dX0_errorOfPayment_31 bkW_3 rfl ?_
      refine j_iload_n C dX0_errorOfPayment_34 rfl ?_
      refine j_iald C 15 dX0_errorOfPayment_35 bkW_15 (has_X3 h8) ?_
      refine j_aload_n C dX0_errorOfPayment_36 rfl ?_
      refine j_get C f_X0_28.F 0 dX0_errorOfPayment_37 bkW_0 rfl ?_
      refine j_get C f_X0_92.F 3 dX0_errorOfPayment_40 bkW_3 rfl ?_
      refine j_iload_n C dX0_errorOfPayment_43 rfl ?_
      refine j_iald C 18 dX0_errorOfPayment_44 bkW_18 (has_X3 h8) ?_
      refine j_isub C dX0_errorOfPayment_45 ?_
      refine j_istore_n C [(3, _), (0, _), (1, _), (2, _)] dX0_errorOfPayment_46 (by decide) rfl ?_
      refine j_iload_n C dX0_errorOfPayment_47 rfl ?_
      refine j_iconst C dX0_errorOfPayment_48 (1 : Int32) (by decide) ?_
      refine j_icmp_lt (tgt := 57) C dX0_errorOfPayment_49 (by decide) (fun (h49 : c < (1 : Int32)) => ?_) (fun (h49 : ¬ (c < (1 : Int32))) => ?_)
      · refine j_bipush C dX0_errorOfPayment_57 (-2 : Int32) (by decide) ?_
        refine j_goto (tgt := 63) C dX0_errorOfPayment_59 (by decide) ?_
        have e9 : r_X0_errorOfPayment B i c = (-2 : Int32) := by rw [r_X0_errorOfPayment, if_neg h8, if_neg h21, if_pos h49]
        exact j_iret E dX0_errorOfPayment_63 (by rw [e9]; exact ⟨rfl, rfl⟩)
      · refine j_iload_n C dX0_errorOfPayment_52 rfl ?_
        refine j_iload_n C dX0_errorOfPayment_53 rfl ?_
        refine j_icmp_le (tgt := 62) C dX0_errorOfPayment_54 (by decide) (fun (h54 : c ≤ ((B 9 i.toNatClampNeg) - (B 12 i.toNatClampNeg))) => ?_) (fun (h54 : ¬ (c ≤ ((B 9 i.toNatClampNeg) - (B 12 i.toNatClampNeg)))) => ?_)
        · refine j_iconst C dX0_errorOfPayment_62 (0 : Int32) (by decide) ?_
          have e9 : r_X0_errorOfPayment B i c = (0 : Int32) := by rw [r_X0_errorOfPayment, if_neg h8, if_neg h21, if_neg h49, if_pos h54]
          exact j_iret E dX0_errorOfPayment_63 (by rw [e9]; exact ⟨rfl, rfl⟩)
        · refine j_bipush C dX0_errorOfPayment_57 (-2 : Int32) (by decide) ?_
          refine j_goto (tgt := 63) C dX0_errorOfPayment_59 (by decide) ?_
          have e9 : r_X0_errorOfPayment B i c = (-2 : Int32) := by rw [r_X0_errorOfPayment, if_neg h8, if_neg h21, if_neg h49, if_neg h54]
          exact j_iret E dX0_errorOfPayment_63 (by rw [e9]; exact ⟨rfl, rfl⟩)
    · refine j_bipush C dX0_errorOfPayment_24 (-4 : Int32) (by decide) ?_
      have e9 : r_X0_errorOfPayment B i c = (-4 : Int32) := by rw [r_X0_errorOfPayment, if_neg h8, if_pos h21]
      exact j_iret E dX0_errorOfPayment_26 (by rw [e9]; exact ⟨rfl, rfl⟩)
  · refine j_iconst C dX0_errorOfPayment_11 (-1 : Int32) (by decide) ?_
    have e9 : r_X0_errorOfPayment B i c = (-1 : Int32) := by rw [r_X0_errorOfPayment, if_pos h8]
    exact j_iret E dX0_errorOfPayment_12 (by rw [e9]; exact ⟨rfl, rfl⟩)
end
section
theorem fo_bk_0_9 {ca : Nat → ClassId} {g : Nat → Nat} {B : jB} {v : Int32} : (bkW ca g B).set 0 (g 0, .inr (0, [.ref (g 1), .ref (g 2), .ref (g 3), .ref (g 4), .ref (g 5), .int (B 16 2), .int (B 16 3), .int (B 16 4), .int (B 16 5), .int (B 16 6), .int (B 16 7)].set 9 (.int v))) = bkW ca g (up2 B 16 6 v) := rfl

def r_X0_passOn (B : jB) (i : Int32) : jB := (if (r_X3_has B i) = (0 : Int32) then B else (if (0 : Int32) < (((B 9 i.toNatClampNeg) - (B 13 i.toNatClampNeg)) - (FP.f2i (FP.fmul (FP.i2f (B 9 i.toNatClampNeg)) ((B 15 (2 : Int32).toNatClampNeg).toUInt32)))) then (r_X4_intoPurse (up2 (up2 B 16 3 ((B 16 3) - (((B 9 i.toNatClampNeg) - (B 13 i.toNatClampNeg)) - (FP.f2i (FP.fmul (FP.i2f (B 9 i.toNatClampNeg)) ((B 15 (2 : Int32).toNatClampNeg).toUInt32)))))) 16 6 ((B 16 6) + (((B 9 i.toNatClampNeg) - (B 13 i.toNatClampNeg)) - (FP.f2i (FP.fmul (FP.i2f (B 9 i.toNatClampNeg)) ((B 15 (2 : Int32).toNatClampNeg).toUInt32)))))) (B 7 i.toNatClampNeg) (((B 9 i.toNatClampNeg) - (B 13 i.toNatClampNeg)) - (FP.f2i (FP.fmul (FP.i2f (B 9 i.toNatClampNeg)) ((B 15 (2 : Int32).toNatClampNeg).toUInt32))))) else B))
def n_X0_passOn (B : jB) (i : Int32) : Prop := (((r_X3_has B i) = (0 : Int32) → True) ∧ (¬ ((r_X3_has B i) = (0 : Int32)) → (vf_n32 (FP.fmul (FP.i2f (B 9 i.toNatClampNeg)) ((B 15 (2 : Int32).toNatClampNeg).toUInt32)) ∧ (((0 : Int32) < (((B 9 i.toNatClampNeg) - (B 13 i.toNatClampNeg)) - (FP.f2i (FP.fmul (FP.i2f (B 9 i.toNatClampNeg)) ((B 15 (2 : Int32).toNatClampNeg).toUInt32)))) → True) ∧ (¬ ((0 : Int32) < (((B 9 i.toNatClampNeg) - (B 13 i.toNatClampNeg)) - (FP.f2i (FP.fmul (FP.i2f (B 9 i.toNatClampNeg)) ((B 15 (2 : Int32).toNatClampNeg).toUInt32))))) → True)))))
set_option maxRecDepth 100000 in
set_option maxHeartbeats 4000000 in
theorem c_X0_passOn (l : Launch) (D : va_G) (ca : Nat → ClassId) (g : Nat → Nat) (B : jB) (i : Int32) (hq : n_X0_passOn B i) : jM l D ca yX0_passOn cX0_passOn 4 (none : Option FieldType) 2 43 0 0 [.ref (g 0), .int i] (bkW ca g B) (jD none (bkW ca g (r_X0_passOn B i))) := by
  refine jM_of [(0, .ref (g 0)), (1, .int i)] (by decide) (Nat.le_of_ble_eq_true rfl) rfl (fun X C E => ?_)
  rw [n_X0_passOn] at hq
  refine j_aload_n C dX0_passOn_0 rfl ?_
  refine j_get C f_X0_28.F 0 dX0_passOn_1 bkW_0 rfl ?_
  refine j_iload_n C dX0_passOn_4 rfl ?_
  refine j_callViR C g_X0_49 (c_X3_has l D ca g B i) 3 bkW_3 hcl_X3 ⟨Nat.le_of_ble_eq_true rfl, Nat.le_of_ble_eq_true rfl⟩ ⟨Nat.le_of_ble_eq_true rfl, Nat.le_of_ble_eq_true rfl⟩ [3, 13, 14, 15, 16, 17, 18, 19] pl_bk_iv rfl rfl rfl (Nat.le_of_ble_eq_true rfl) dX0_passOn_5 ?_
  refine j_if_ne (tgt := 12) C dX0_passOn_8 (by decide) (fun (h8 : ¬ ((r_X3_has B i) = (0 : Int32))) => ?_) (fun (h8 : (r_X3_has B i) = (0 : Int32)) => ?_)
  · have hq := hq.2 h8
    refine j_aload_n C dX0_passOn_12 rfl ?_
    refine j_get C f_X0_28.F 0 dX0_passOn_13 bkW_0 rfl ?_
    refine j_get C f_X0_79.F 3 dX0_passOn_16 bkW_3 rfl ?_
    refine j_iload_n C dX0_passOn_19 rfl ?_
    refine j_iald C 15 dX0_passOn_20 bkW_15 (has_X3 h8) ?_
    refine j_i2f C dX0_passOn_21 ?_
    refine j_aload_n C dX0_passOn_22 rfl ?_
    refine j_get C f_X0_32.F 0 dX0_passOn_23 bkW_0 rfl ?_
    refine j_iconst C dX0_passOn_26 (2 : Int32) (by decide) ?_
    refine j_fald C 4 dX0_passOn_27 bkW_4 (vin_c rfl) ?_
    obtain ⟨hv, hq⟩ := hq
    refine j_fmul C dX0_passOn_28 hv ?_
    refine j_f2i C dX0_passOn_29 ?_
    refine j_istore_n C [(2, _), (0, _), (1, _)] dX0_passOn_30 (by decide) rfl ?_
    refine j_aload_n C dX0_passOn_31 rfl ?_
    refine j_get C f_X0_28.F 0 dX0_passOn_32 bkW_0 rfl ?_
    refine j_get C f_X0_79.F 3 dX0_passOn_35 bkW_3 rfl ?_
    refine j_iload_n C dX0_passOn_38 rfl ?_
    refine j_iald C 15 dX0_passOn_39 bkW_15 (has_X3 h8) ?_
    refine j_aload_n C dX0_passOn_40 rfl ?_
    refine j_get C f_X0_28.F 0 dX0_passOn_41 bkW_0 rfl ?_
    refine j_get C f_X0_104.F 3 dX0_passOn_44 bkW_3 rfl ?_
    refine j_iload_n C dX0_passOn_47 rfl ?_
    refine j_iald C 19 dX0_passOn_48 bkW_19 (has_X3 h8) ?_
    refine j_isub C dX0_passOn_49 ?_
    refine j_iload_n C dX0_passOn_50 rfl ?_
    refine j_isub C dX0_passOn_51 ?_
    refine j_istore_n C [(3, _), (2, _), (0, _), (1, _)] dX0_passOn_52 (by decide) rfl ?_
    refine j_iload_n C dX0_passOn_53 rfl ?_
    refine j_if_gt (tgt := 58) C dX0_passOn_54 (by decide) (fun (h54 : (0 : Int32) < (((B 9 i.toNatClampNeg) - (B 13 i.toNatClampNeg)) - (FP.f2i (FP.fmul (FP.i2f (B 9 i.toNatClampNeg)) ((B 15 (2 : Int32).toNatClampNeg).toUInt32))))) => ?_) (fun (h54 : ¬ ((0 : Int32) < (((B 9 i.toNatClampNeg) - (B 13 i.toNatClampNeg)) - (FP.f2i (FP.fmul (FP.i2f (B 9 i.toNatClampNeg)) ((B 15 (2 : Int32).toNatClampNeg).toUInt32)))))) => ?_)
    · have hq := hq.1 h54
      refine j_aload_n C dX0_passOn_58 rfl ?_
      refine j_dup C dX0_passOn_59 rfl ?_
      refine j_get C f_X0_95.F 0 dX0_passOn_60 bkW_0 rfl ?_
      refine j_iload_n C dX0_passOn_63 rfl ?_
      refine j_isub C dX0_passOn_64 ?_
      refine j_put C f_X0_95 0 dX0_passOn_65 bkW_0 (Nat.le_of_ble_eq_true rfl) rfl rfl ?_
      refine j_ws fo_bk_0_6 ?_
      refine j_aload_n C dX0_passOn_68 rfl ?_
      refine j_dup C dX0_passOn_69 rfl ?_
      refine j_get C f_X0_130.F 0 dX0_passOn_70 bkW_0 rfl ?_
      refine j_st (st' := [.int (B 16 6), .ref (g 0)]) rfl ?_
      refine j_iload_n C dX0_passOn_73 rfl ?_
      refine j_iadd C dX0_passOn_74 ?_
      refine j_put C f_X0_130 0 dX0_passOn_75 bkW_0 (Nat.le_of_ble_eq_true rfl) rfl rfl ?_
      refine j_ws fo_bk_0_9 ?_
      refine j_aload_n C dX0_passOn_78 rfl ?_
      refine j_get C f_X0_12.F 0 dX0_passOn_79 bkW_0 rfl ?_
      refine j_aload_n C dX0_passOn_82 rfl ?_
      refine j_get C f_X0_28.F 0 dX0_passOn_83 bkW_0 rfl ?_
      refine j_get C f_X0_107.F 3 dX0_passOn_86 bkW_3 rfl ?_
      refine j_iload_n C dX0_passOn_89 rfl ?_
      refine j_iald C 13 dX0_passOn_90 bkW_13 (has_X3 h8) ?_
      refine j_st (st' := [.int (B 7 i.toNatClampNeg), .ref (g 1)]) rfl ?_
      refine j_iload_n C dX0_passOn_91 rfl ?_
      refine j_callVv C g_X0_110 (c_X4_intoPurse l D ca g (up2 (up2 B 16 3 ((B 16 3) - (((B 9 i.toNatClampNeg) - (B 13 i.toNatClampNeg)) - (FP.f2i (FP.fmul (FP.i2f (B 9 i.toNatClampNeg)) ((B 15 (2 : Int32).toNatClampNeg).toUInt32)))))) 16 6 ((B 16 6) + (((B 9 i.toNatClampNeg) - (B 13 i.toNatClampNeg)) - (FP.f2i (FP.fmul (FP.i2f (B 9 i.toNatClampNeg)) ((B 15 (2 : Int32).toNatClampNeg).toUInt32)))))) (B 7 i.toNatClampNeg) (((B 9 i.toNatClampNeg) - (B 13 i.toNatClampNeg)) - (FP.f2i (FP.fmul (FP.i2f (B 9 i.toNatClampNeg)) ((B 15 (2 : Int32).toNatClampNeg).toUInt32))))) 1 bkW_1 hcl_X4 ⟨Nat.le_of_ble_eq_true rfl, Nat.le_of_ble_eq_true rfl⟩ ⟨Nat.le_of_ble_eq_true rfl, Nat.le_of_ble_eq_true rfl⟩ [1, 6, 7, 8, 9] pl_bk_mb rfl rfl rfl (Nat.le_of_ble_eq_true rfl) dX0_passOn_92 fst_mb ?_
      refine j_ws fs_bk_X4_intoPurse ?_
      have e9 : r_X0_passOn B i = (r_X4_intoPurse (up2 (up2 B 16 3 ((B 16 3) - (((B 9 i.toNatClampNeg) - (B 13 i.toNatClampNeg)) - (FP.f2i (FP.fmul (FP.i2f (B 9 i.toNatClampNeg)) ((B 15 (2 : Int32).toNatClampNeg).toUInt32)))))) 16 6 ((B 16 6) + (((B 9 i.toNatClampNeg) - (B 13 i.toNatClampNeg)) - (FP.f2i (FP.fmul (FP.i2f (B 9 i.toNatClampNeg)) ((B 15 (2 : Int32).toNatClampNeg).toUInt32)))))) (B 7 i.toNatClampNeg) (((B 9 i.toNatClampNeg) - (B 13 i.toNatClampNeg)) - (FP.f2i (FP.fmul (FP.i2f (B 9 i.toNatClampNeg)) ((B 15 (2 : Int32).toNatClampNeg).toUInt32))))) := by rw [r_X0_passOn, if_neg h8, if_pos h54]
      exact j_vret E dX0_passOn_95 (by rw [e9]; exact ⟨rfl, rfl⟩)
    · have hq := hq.2 h54
      have e9 : r_X0_passOn B i = B := by rw [r_X0_passOn, if_neg h8, if_neg h54]
      exact j_vret E dX0_passOn_57 (by rw [e9]; exact ⟨rfl, rfl⟩)
  · have hq := hq.1 h8
    have e9 : r_X0_passOn B i = B := by rw [r_X0_passOn, if_pos h8]
    exact j_vret E dX0_passOn_11 (by rw [e9]; exact ⟨rfl, rfl⟩)
end
section
theorem fst_cl {ca : Nat → ClassId} {g : Nat → Nat} {A B : jB} : (clW ca g A).map Prod.fst = (clW ca g B).map Prod.fst := rfl
theorem fs_bk_X1_addSettled {ca : Nat → ClassId} {g : Nat → Nat} {B : jB}  {i : Int32} {c : Int32} : jrep (bkW ca g B) [2, 10, 11, 12] (clW ca g (r_X1_addSettled B i c)) = bkW ca g (r_X1_addSettled B i c) := by
  unfold r_X1_addSettled
  (repeat' split) <;> rfl
theorem fst_bk {ca : Nat → ClassId} {g : Nat → Nat} {A B : jB} : (bkW ca g A).map Prod.fst = (bkW ca g B).map Prod.fst := rfl

def r_X0_settle (B : jB) (i : Int32) : jB := (if (r_X3_has B i) = (0 : Int32) then B else (if (B 11 i.toNatClampNeg) = (1 : Int32) then (r_X1_addSettled (up2 (r_X0_passOn B i) 11 (i).toNatClampNeg (2 : Int32)) ((r_X0_passOn B i) 8 i.toNatClampNeg) (r_X0_lateAfter (up2 (r_X0_passOn B i) 11 (i).toNatClampNeg (2 : Int32)) i (0 : Int32))) else (r_X1_addSettled (up2 B 11 (i).toNatClampNeg (2 : Int32)) (B 8 i.toNatClampNeg) (r_X0_lateAfter (up2 B 11 (i).toNatClampNeg (2 : Int32)) i (0 : Int32)))))
def n_X0_settle (B : jB) (i : Int32) : Prop := (((r_X3_has B i) = (0 : Int32) → True) ∧ (¬ ((r_X3_has B i) = (0 : Int32)) → (((B 11 i.toNatClampNeg) = (1 : Int32) → ((n_X0_passOn B i) ∧ True)) ∧ (¬ ((B 11 i.toNatClampNeg) = (1 : Int32)) → True))))
set_option maxRecDepth 100000 in
set_option maxHeartbeats 4000000 in
theorem c_X0_settle (l : Launch) (D : va_G) (ca : Nat → ClassId) (g : Nat → Nat) (B : jB) (i : Int32) (hq : n_X0_settle B i) : jM l D ca yX0_settle cX0_settle 2 (none : Option FieldType) 3 66 0 0 [.ref (g 0), .int i] (bkW ca g B) (jD none (bkW ca g (r_X0_settle B i))) := by
  refine jM_of [(0, .ref (g 0)), (1, .int i)] (by decide) (Nat.le_of_ble_eq_true rfl) rfl (fun X C E => ?_)
  rw [n_X0_settle] at hq
  refine j_aload_n C dX0_settle_0 rfl ?_
  refine j_get C f_X0_28.F 0 dX0_settle_1 bkW_0 rfl ?_
  refine j_iload_n C dX0_settle_4 rfl ?_
  refine j_callViR C g_X0_49 (c_X3_has l D ca g B i) 3 bkW_3 hcl_X3 ⟨Nat.le_of_ble_eq_true rfl, Nat.le_of_ble_eq_true rfl⟩ ⟨Nat.le_of_ble_eq_true rfl, Nat.le_of_ble_eq_true rfl⟩ [3, 13, 14, 15, 16, 17, 18, 19] pl_bk_iv rfl rfl rfl (Nat.le_of_ble_eq_true rfl) dX0_settle_5 ?_
  refine j_if_ne (tgt := 12) C dX0_settle_8 (by decide) (fun (h8 : ¬ ((r_X3_has B i) = (0 : Int32))) => ?_) (fun (h8 : (r_X3_has B i) = (0 : Int32)) => ?_)
  · have hq := hq.2 h8
    refine j_aload_n C dX0_settle_12 rfl ?_
    refine j_get C f_X0_28.F 0 dX0_settle_13 bkW_0 rfl ?_
    refine j_get C f_X0_89.F 3 dX0_settle_16 bkW_3 rfl ?_
    refine j_iload_n C dX0_settle_19 rfl ?_
    refine j_iald C 17 dX0_settle_20 bkW_17 (has_X3 h8) ?_
    refine j_iconst C dX0_settle_21 (1 : Int32) (by decide) ?_
    refine j_icmp_ne (tgt := 30) C dX0_settle_22 (by decide) (fun (h22 : ¬ ((B 11 i.toNatClampNeg) = (1 : Int32))) => ?_) (fun (h22 : (B 11 i.toNatClampNeg) = (1 : Int32)) => ?_)
    · have hq := hq.2 h22
      refine j_aload_n C dX0_settle_30 rfl ?_
      refine j_get C f_X0_28.F 0 dX0_settle_31 bkW_0 rfl ?_
      refine j_get C f_X0_89.F 3 dX0_settle_34 bkW_3 rfl ?_
      refine j_iload_n C dX0_settle_37 rfl ?_
      refine j_iconst C dX0_settle_38 (2 : Int32) (by decide) ?_
      refine j_iast C 17 dX0_settle_39 bkW_17 (has_X3 h8) ?_
      refine j_ws fa_bk_17 ?_
      refine j_aload_n C dX0_settle_40 rfl ?_
      refine j_get C f_X0_21.F 0 dX0_settle_41 bkW_0 rfl ?_
      refine j_aload_n C dX0_settle_44 rfl ?_
      refine j_get C f_X0_28.F 0 dX0_settle_45 bkW_0 rfl ?_
      refine j_get C f_X0_72.F 3 dX0_settle_48 bkW_3 rfl ?_
      refine j_iload_n C dX0_settle_51 rfl ?_
      refine j_iald C 14 dX0_settle_52 bkW_14 (has_X3 h8) ?_
      refine j_st (st' := [.int (B 8 i.toNatClampNeg), .ref (g 2)]) rfl ?_
      refine j_aload_n C dX0_settle_53 rfl ?_
      refine j_iload_n C dX0_settle_54 rfl ?_
      refine j_iconst C dX0_settle_55 (0 : Int32) (by decide) ?_
      refine j_callViRW C g_X0_68 (c_X0_lateAfter l D ca g (up2 B 11 (i).toNatClampNeg (2 : Int32)) i (0 : Int32)) 0 bkW_0 hcl_X0 ⟨Nat.le_of_ble_eq_true rfl, Nat.le_of_ble_eq_true rfl⟩ ⟨Nat.le_of_ble_eq_true rfl, Nat.le_of_ble_eq_true rfl⟩ rfl rfl (Nat.le_of_ble_eq_true rfl) dX0_settle_56 ?_
      refine j_callVv C g_X0_127 (c_X1_addSettled l D ca g (up2 B 11 (i).toNatClampNeg (2 : Int32)) (B 8 i.toNatClampNeg) (r_X0_lateAfter (up2 B 11 (i).toNatClampNeg (2 : Int32)) i (0 : Int32))) 2 bkW_2 hcl_X1 ⟨Nat.le_of_ble_eq_true rfl, Nat.le_of_ble_eq_true rfl⟩ ⟨Nat.le_of_ble_eq_true rfl, Nat.le_of_ble_eq_true rfl⟩ [2, 10, 11, 12] pl_bk_cl rfl rfl rfl (Nat.le_of_ble_eq_true rfl) dX0_settle_59 fst_cl ?_
      refine j_ws fs_bk_X1_addSettled ?_
      have e9 : r_X0_settle B i = (r_X1_addSettled (up2 B 11 (i).toNatClampNeg (2 : Int32)) (B 8 i.toNatClampNeg) (r_X0_lateAfter (up2 B 11 (i).toNatClampNeg (2 : Int32)) i (0 : Int32))) := by rw [r_X0_settle, if_neg h8, if_neg h22]
      exact j_vret E dX0_settle_62 (by rw [e9]; exact ⟨rfl, rfl⟩)
    · have hq := hq.1 h22
      refine j_aload_n C dX0_settle_25 rfl ?_
      refine j_iload_n C dX0_settle_26 rfl ?_
      obtain ⟨hv, hq⟩ := hq
      refine j_callVvW C g_X0_124 (c_X0_passOn l D ca g B i hv) 0 bkW_0 hcl_X0 ⟨Nat.le_of_ble_eq_true rfl, Nat.le_of_ble_eq_true rfl⟩ ⟨Nat.le_of_ble_eq_true rfl, Nat.le_of_ble_eq_true rfl⟩ rfl rfl (Nat.le_of_ble_eq_true rfl) dX0_settle_27 fst_bk ?_
      refine j_aload_n C dX0_settle_30 rfl ?_
      refine j_get C f_X0_28.F 0 dX0_settle_31 bkW_0 rfl ?_
      refine j_get C f_X0_89.F 3 dX0_settle_34 bkW_3 rfl ?_
      refine j_iload_n C dX0_settle_37 rfl ?_
      refine j_iconst C dX0_settle_38 (2 : Int32) (by decide) ?_
      refine j_iast C 17 dX0_settle_39 bkW_17 (has_X3 h8) ?_
      refine j_ws fa_bk_17 ?_
      refine j_aload_n C dX0_settle_40 rfl ?_
      refine j_get C f_X0_21.F 0 dX0_settle_41 bkW_0 rfl ?_
      refine j_aload_n C dX0_settle_44 rfl ?_
      refine j_get C f_X0_28.F 0 dX0_settle_45 bkW_0 rfl ?_
      refine j_get C f_X0_72.F 3 dX0_settle_48 bkW_3 rfl ?_
      refine j_iload_n C dX0_settle_51 rfl ?_
      refine j_iald C 14 dX0_settle_52 bkW_14 (has_X3 h8) ?_
      refine j_st (st' := [.int ((r_X0_passOn B i) 8 i.toNatClampNeg), .ref (g 2)]) rfl ?_
      refine j_aload_n C dX0_settle_53 rfl ?_
      refine j_iload_n C dX0_settle_54 rfl ?_
      refine j_iconst C dX0_settle_55 (0 : Int32) (by decide) ?_
      refine j_callViRW C g_X0_68 (c_X0_lateAfter l D ca g (up2 (r_X0_passOn B i) 11 (i).toNatClampNeg (2 : Int32)) i (0 : Int32)) 0 bkW_0 hcl_X0 ⟨Nat.le_of_ble_eq_true rfl, Nat.le_of_ble_eq_true rfl⟩ ⟨Nat.le_of_ble_eq_true rfl, Nat.le_of_ble_eq_true rfl⟩ rfl rfl (Nat.le_of_ble_eq_true rfl) dX0_settle_56 ?_
      refine j_callVv C g_X0_127 (c_X1_addSettled l D ca g (up2 (r_X0_passOn B i) 11 (i).toNatClampNeg (2 : Int32)) ((r_X0_passOn B i) 8 i.toNatClampNeg) (r_X0_lateAfter (up2 (r_X0_passOn B i) 11 (i).toNatClampNeg (2 : Int32)) i (0 : Int32))) 2 bkW_2 hcl_X1 ⟨Nat.le_of_ble_eq_true rfl, Nat.le_of_ble_eq_true rfl⟩ ⟨Nat.le_of_ble_eq_true rfl, Nat.le_of_ble_eq_true rfl⟩ [2, 10, 11, 12] pl_bk_cl rfl rfl rfl (Nat.le_of_ble_eq_true rfl) dX0_settle_59 fst_cl ?_
      refine j_ws fs_bk_X1_addSettled ?_
      have e9 : r_X0_settle B i = (r_X1_addSettled (up2 (r_X0_passOn B i) 11 (i).toNatClampNeg (2 : Int32)) ((r_X0_passOn B i) 8 i.toNatClampNeg) (r_X0_lateAfter (up2 (r_X0_passOn B i) 11 (i).toNatClampNeg (2 : Int32)) i (0 : Int32))) := by rw [r_X0_settle, if_neg h8, if_pos h22]
      exact j_vret E dX0_settle_62 (by rw [e9]; exact ⟨rfl, rfl⟩)
  · have hq := hq.1 h8
    have e9 : r_X0_settle B i = B := by rw [r_X0_settle, if_pos h8]
    exact j_vret E dX0_settle_11 (by rw [e9]; exact ⟨rfl, rfl⟩)
end
section
theorem fa_bk_18 {ca : Nat → ClassId} {g : Nat → Nat} {B : jB} {i : Nat} {v : Int32} : (bkW ca g B).set 18 (g 18, .inl (ca 0, 20, .inl (upd (B 12) i v))) = bkW ca g (up2 B 12 i v) := rfl
theorem fo_bk_0_8 {ca : Nat → ClassId} {g : Nat → Nat} {B : jB} {v : Int32} : (bkW ca g B).set 0 (g 0, .inr (0, [.ref (g 1), .ref (g 2), .ref (g 3), .ref (g 4), .ref (g 5), .int (B 16 2), .int (B 16 3), .int (B 16 4), .int (B 16 5), .int (B 16 6), .int (B 16 7)].set 8 (.int v))) = bkW ca g (up2 B 16 5 v) := rfl

def r_X0_collect (B : jB) (i : Int32) (c : Int32) : Int32 × jB := (if (r_X3_has B i) = (0 : Int32) then ((-1 : Int32), B) else (if (B 11 i.toNatClampNeg) = (1 : Int32) then (if ((B 9 i.toNatClampNeg) - ((up2 B 12 (i).toNatClampNeg ((B 12 i.toNatClampNeg) + c)) 12 i.toNatClampNeg)) = (0 : Int32) then (((B 9 i.toNatClampNeg) - ((up2 B 12 (i).toNatClampNeg ((B 12 i.toNatClampNeg) + c)) 12 i.toNatClampNeg)), (r_X0_settle (up2 (up2 (up2 B 12 (i).toNatClampNeg ((B 12 i.toNatClampNeg) + c)) 16 5 ((B 16 5) + c)) 16 3 ((B 16 3) + c)) i)) else (((B 9 i.toNatClampNeg) - ((up2 B 12 (i).toNatClampNeg ((B 12 i.toNatClampNeg) + c)) 12 i.toNatClampNeg)), (up2 (up2 (up2 B 12 (i).toNatClampNeg ((B 12 i.toNatClampNeg) + c)) 16 5 ((B 16 5) + c)) 16 3 ((B 16 3) + c)))) else (if (((r_X4_intoPurse (up2 (up2 B 12 (i).toNatClampNeg ((B 12 i.toNatClampNeg) + c)) 16 5 ((B 16 5) + c)) (B 7 i.toNatClampNeg) c) 9 i.toNatClampNeg) - ((r_X4_intoPurse (up2 (up2 B 12 (i).toNatClampNeg ((B 12 i.toNatClampNeg) + c)) 16 5 ((B 16 5) + c)) (B 7 i.toNatClampNeg) c) 12 i.toNatClampNeg)) = (0 : Int32) then ((((r_X4_intoPurse (up2 (up2 B 12 (i).toNatClampNeg ((B 12 i.toNatClampNeg) + c)) 16 5 ((B 16 5) + c)) (B 7 i.toNatClampNeg) c) 9 i.toNatClampNeg) - ((r_X4_intoPurse (up2 (up2 B 12 (i).toNatClampNeg ((B 12 i.toNatClampNeg) + c)) 16 5 ((B 16 5) + c)) (B 7 i.toNatClampNeg) c) 12 i.toNatClampNeg)), (r_X0_settle (r_X4_intoPurse (up2 (up2 B 12 (i).toNatClampNeg ((B 12 i.toNatClampNeg) + c)) 16 5 ((B 16 5) + c)) (B 7 i.toNatClampNeg) c) i)) else ((((r_X4_intoPurse (up2 (up2 B 12 (i).toNatClampNeg ((B 12 i.toNatClampNeg) + c)) 16 5 ((B 16 5) + c)) (B 7 i.toNatClampNeg) c) 9 i.toNatClampNeg) - ((r_X4_intoPurse (up2 (up2 B 12 (i).toNatClampNeg ((B 12 i.toNatClampNeg) + c)) 16 5 ((B 16 5) + c)) (B 7 i.toNatClampNeg) c) 12 i.toNatClampNeg)), (r_X4_intoPurse (up2 (up2 B 12 (i).toNatClampNeg ((B 12 i.toNatClampNeg) + c)) 16 5 ((B 16 5) + c)) (B 7 i.toNatClampNeg) c)))))
def n_X0_collect (B : jB) (i : Int32) (c : Int32) : Prop := (((r_X3_has B i) = (0 : Int32) → True) ∧ (¬ ((r_X3_has B i) = (0 : Int32)) → (((B 11 i.toNatClampNeg) = (1 : Int32) → ((((B 9 i.toNatClampNeg) - ((up2 B 12 (i).toNatClampNeg ((B 12 i.toNatClampNeg) + c)) 12 i.toNatClampNeg)) = (0 : Int32) → ((n_X0_settle (up2 (up2 (up2 B 12 (i).toNatClampNeg ((B 12 i.toNatClampNeg) + c)) 16 5 ((B 16 5) + c)) 16 3 ((B 16 3) + c)) i) ∧ True)) ∧ (¬ (((B 9 i.toNatClampNeg) - ((up2 B 12 (i).toNatClampNeg ((B 12 i.toNatClampNeg) + c)) 12 i.toNatClampNeg)) = (0 : Int32)) → True))) ∧ (¬ ((B 11 i.toNatClampNeg) = (1 : Int32)) → (((((r_X4_intoPurse (up2 (up2 B 12 (i).toNatClampNeg ((B 12 i.toNatClampNeg) + c)) 16 5 ((B 16 5) + c)) (B 7 i.toNatClampNeg) c) 9 i.toNatClampNeg) - ((r_X4_intoPurse (up2 (up2 B 12 (i).toNatClampNeg ((B 12 i.toNatClampNeg) + c)) 16 5 ((B 16 5) + c)) (B 7 i.toNatClampNeg) c) 12 i.toNatClampNeg)) = (0 : Int32) → ((n_X0_settle (r_X4_intoPurse (up2 (up2 B 12 (i).toNatClampNeg ((B 12 i.toNatClampNeg) + c)) 16 5 ((B 16 5) + c)) (B 7 i.toNatClampNeg) c) i) ∧ True)) ∧ (¬ ((((r_X4_intoPurse (up2 (up2 B 12 (i).toNatClampNeg ((B 12 i.toNatClampNeg) + c)) 16 5 ((B 16 5) + c)) (B 7 i.toNatClampNeg) c) 9 i.toNatClampNeg) - ((r_X4_intoPurse (up2 (up2 B 12 (i).toNatClampNeg ((B 12 i.toNatClampNeg) + c)) 16 5 ((B 16 5) + c)) (B 7 i.toNatClampNeg) c) 12 i.toNatClampNeg)) = (0 : Int32)) → True))))))
set_option maxRecDepth 100000 in
set_option maxHeartbeats 4000000 in
theorem c_X0_collect (l : Launch) (D : va_G) (ca : Nat → ClassId) (g : Nat → Nat) (B : jB) (i : Int32) (c : Int32) (hq : n_X0_collect B i c) : jM l D ca yX0_collect cX0_collect 4 (some .int) 4 87 0 0 [.ref (g 0), .int i, .int c] (bkW ca g B) (jD (some (.int (r_X0_collect B i c).1)) (bkW ca g ((r_X0_collect B i c).2))) := by
  refine jM_of [(0, .ref (g 0)), (1, .int i), (2, .int c)] (by decide) (Nat.le_of_ble_eq_true rfl) rfl (fun X C E => ?_)
  rw [n_X0_collect] at hq
  refine j_aload_n C dX0_collect_0 rfl ?_
  refine j_get C f_X0_28.F 0 dX0_collect_1 bkW_0 rfl ?_
  refine j_iload_n C dX0_collect_4 rfl ?_
  refine j_callViR C g_X0_49 (c_X3_has l D ca g B i) 3 bkW_3 hcl_X3 ⟨Nat.le_of_ble_eq_true rfl, Nat.le_of_ble_eq_true rfl⟩ ⟨Nat.le_of_ble_eq_true rfl, Nat.le_of_ble_eq_true rfl⟩ [3, 13, 14, 15, 16, 17, 18, 19] pl_bk_iv rfl rfl rfl (Nat.le_of_ble_eq_true rfl) dX0_collect_5 ?_
  refine j_if_ne (tgt := 13) C dX0_collect_8 (by decide) (fun (h8 : ¬ ((r_X3_has B i) = (0 : Int32))) => ?_) (fun (h8 : (r_X3_has B i) = (0 : Int32)) => ?_)
  · have hq := hq.2 h8
    refine j_aload_n C dX0_collect_13 rfl ?_
    refine j_get C f_X0_28.F 0 dX0_collect_14 bkW_0 rfl ?_
    refine j_get C f_X0_92.F 3 dX0_collect_17 bkW_3 rfl ?_
    refine j_iload_n C dX0_collect_20 rfl ?_
    refine j_dup2 C dX0_collect_21 rfl rfl ?_
    refine j_iald C 18 dX0_collect_22 bkW_18 (has_X3 h8) ?_
    refine j_iload_n C dX0_collect_23 rfl ?_
    refine j_iadd C dX0_collect_24 ?_
    refine j_iast C 18 dX0_collect_25 bkW_18 (has_X3 h8) ?_
    refine j_ws fa_bk_18 ?_
    refine j_aload_n C dX0_collect_26 rfl ?_
    refine j_dup C dX0_collect_27 rfl ?_
    refine j_get C f_X0_117.F 0 dX0_collect_28 bkW_0 rfl ?_
    refine j_st (st' := [.int (B 16 5), .ref (g 0)]) rfl ?_
    refine j_iload_n C dX0_collect_31 rfl ?_
    refine j_iadd C dX0_collect_32 ?_
    refine j_put C f_X0_117 0 dX0_collect_33 bkW_0 (Nat.le_of_ble_eq_true rfl) rfl rfl ?_
    refine j_ws fo_bk_0_8 ?_
    refine j_aload_n C dX0_collect_36 rfl ?_
    refine j_get C f_X0_28.F 0 dX0_collect_37 bkW_0 rfl ?_
    refine j_get C f_X0_89.F 3 dX0_collect_40 bkW_3 rfl ?_
    refine j_iload_n C dX0_collect_43 rfl ?_
    refine j_iald C 17 dX0_collect_44 bkW_17 (has_X3 h8) ?_
    refine j_st (st' := [.int (B 11 i.toNatClampNeg)]) rfl ?_
    refine j_iconst C dX0_collect_45 (1 : Int32) (by decide) ?_
    refine j_icmp_ne (tgt := 62) C dX0_collect_46 (by decide) (fun (h46 : ¬ ((B 11 i.toNatClampNeg) = (1 : Int32))) => ?_) (fun (h46 : (B 11 i.toNatClampNeg) = (1 : Int32)) => ?_)
    · have hq := hq.2 h46
      refine j_aload_n C dX0_collect_62 rfl ?_
      refine j_get C f_X0_12.F 0 dX0_collect_63 bkW_0 rfl ?_
      refine j_aload_n C dX0_collect_66 rfl ?_
      refine j_get C f_X0_28.F 0 dX0_collect_67 bkW_0 rfl ?_
      refine j_get C f_X0_107.F 3 dX0_collect_70 bkW_3 rfl ?_
      refine j_iload_n C dX0_collect_73 rfl ?_
      refine j_iald C 13 dX0_collect_74 bkW_13 (has_X3 h8) ?_
      refine j_st (st' := [.int (B 7 i.toNatClampNeg), .ref (g 1)]) rfl ?_
      refine j_iload_n C dX0_collect_75 rfl ?_
      refine j_callVv C g_X0_110 (c_X4_intoPurse l D ca g (up2 (up2 B 12 (i).toNatClampNeg ((B 12 i.toNatClampNeg) + c)) 16 5 ((B 16 5) + c)) (B 7 i.toNatClampNeg) c) 1 bkW_1 hcl_X4 ⟨Nat.le_of_ble_eq_true rfl, Nat.le_of_ble_eq_true rfl⟩ ⟨Nat.le_of_ble_eq_true rfl, Nat.le_of_ble_eq_true rfl⟩ [1, 6, 7, 8, 9] pl_bk_mb rfl rfl rfl (Nat.le_of_ble_eq_true rfl) dX0_collect_76 fst_mb ?_
      refine j_ws fs_bk_X4_intoPurse ?_
      refine j_aload_n C dX0_collect_79 rfl ?_
      refine j_get C f_X0_28.F 0 dX0_collect_80 bkW_0 rfl ?_
      refine j_get C f_X0_79.F 3 dX0_collect_83 bkW_3 rfl ?_
      refine j_iload_n C dX0_collect_86 rfl ?_
      refine j_iald C 15 dX0_collect_87 bkW_15 (has_X3 h8) ?_
      refine j_aload_n C dX0_collect_88 rfl ?_
      refine j_get C f_X0_28.F 0 dX0_collect_89 bkW_0 rfl ?_
      refine j_get C f_X0_92.F 3 dX0_collect_92 bkW_3 rfl ?_
      refine j_iload_n C dX0_collect_95 rfl ?_
      refine j_iald C 18 dX0_collect_96 bkW_18 (has_X3 h8) ?_
      refine j_isub C dX0_collect_97 ?_
      refine j_istore_n C [(3, _), (0, _), (1, _), (2, _)] dX0_collect_98 (by decide) rfl ?_
      refine j_iload_n C dX0_collect_99 rfl ?_
      refine j_if_ne (tgt := 108) C dX0_collect_100 (by decide) (fun (h100 : ¬ ((((r_X4_intoPurse (up2 (up2 B 12 (i).toNatClampNeg ((B 12 i.toNatClampNeg) + c)) 16 5 ((B 16 5) + c)) (B 7 i.toNatClampNeg) c) 9 i.toNatClampNeg) - ((r_X4_intoPurse (up2 (up2 B 12 (i).toNatClampNeg ((B 12 i.toNatClampNeg) + c)) 16 5 ((B 16 5) + c)) (B 7 i.toNatClampNeg) c) 12 i.toNatClampNeg)) = (0 : Int32))) => ?_) (fun (h100 : (((r_X4_intoPurse (up2 (up2 B 12 (i).toNatClampNeg ((B 12 i.toNatClampNeg) + c)) 16 5 ((B 16 5) + c)) (B 7 i.toNatClampNeg) c) 9 i.toNatClampNeg) - ((r_X4_intoPurse (up2 (up2 B 12 (i).toNatClampNeg ((B 12 i.toNatClampNeg) + c)) 16 5 ((B 16 5) + c)) (B 7 i.toNatClampNeg) c) 12 i.toNatClampNeg)) = (0 : Int32)) => ?_)
      · have hq := hq.2 h100
        refine j_iload_n C dX0_collect_108 rfl ?_
        have e9 : r_X0_collect B i c = ((((r_X4_intoPurse (up2 (up2 B 12 (i).toNatClampNeg ((B 12 i.toNatClampNeg) + c)) 16 5 ((B 16 5) + c)) (B 7 i.toNatClampNeg) c) 9 i.toNatClampNeg) - ((r_X4_intoPurse (up2 (up2 B 12 (i).toNatClampNeg ((B 12 i.toNatClampNeg) + c)) 16 5 ((B 16 5) + c)) (B 7 i.toNatClampNeg) c) 12 i.toNatClampNeg)), (r_X4_intoPurse (up2 (up2 B 12 (i).toNatClampNeg ((B 12 i.toNatClampNeg) + c)) 16 5 ((B 16 5) + c)) (B 7 i.toNatClampNeg) c)) := by rw [r_X0_collect, if_neg h8, if_neg h46, if_neg h100]
        exact j_iret E dX0_collect_109 (by rw [e9]; exact ⟨rfl, rfl⟩)
      · have hq := hq.1 h100
        refine j_aload_n C dX0_collect_103 rfl ?_
        refine j_iload_n C dX0_collect_104 rfl ?_
        obtain ⟨hv, hq⟩ := hq
        refine j_callVvW C g_X0_120 (c_X0_settle l D ca g (r_X4_intoPurse (up2 (up2 B 12 (i).toNatClampNeg ((B 12 i.toNatClampNeg) + c)) 16 5 ((B 16 5) + c)) (B 7 i.toNatClampNeg) c) i hv) 0 bkW_0 hcl_X0 ⟨Nat.le_of_ble_eq_true rfl, Nat.le_of_ble_eq_true rfl⟩ ⟨Nat.le_of_ble_eq_true rfl, Nat.le_of_ble_eq_true rfl⟩ rfl rfl (Nat.le_of_ble_eq_true rfl) dX0_collect_105 fst_bk ?_
        refine j_iload_n C dX0_collect_108 rfl ?_
        have e9 : r_X0_collect B i c = ((((r_X4_intoPurse (up2 (up2 B 12 (i).toNatClampNeg ((B 12 i.toNatClampNeg) + c)) 16 5 ((B 16 5) + c)) (B 7 i.toNatClampNeg) c) 9 i.toNatClampNeg) - ((r_X4_intoPurse (up2 (up2 B 12 (i).toNatClampNeg ((B 12 i.toNatClampNeg) + c)) 16 5 ((B 16 5) + c)) (B 7 i.toNatClampNeg) c) 12 i.toNatClampNeg)), (r_X0_settle (r_X4_intoPurse (up2 (up2 B 12 (i).toNatClampNeg ((B 12 i.toNatClampNeg) + c)) 16 5 ((B 16 5) + c)) (B 7 i.toNatClampNeg) c) i)) := by rw [r_X0_collect, if_neg h8, if_neg h46, if_pos h100]
        exact j_iret E dX0_collect_109 (by rw [e9]; exact ⟨rfl, rfl⟩)
    · have hq := hq.1 h46
      refine j_aload_n C dX0_collect_49 rfl ?_
      refine j_dup C dX0_collect_50 rfl ?_
      refine j_get C f_X0_95.F 0 dX0_collect_51 bkW_0 rfl ?_
      refine j_st (st' := [.int (B 16 3), .ref (g 0)]) rfl ?_
      refine j_iload_n C dX0_collect_54 rfl ?_
      refine j_iadd C dX0_collect_55 ?_
      refine j_put C f_X0_95 0 dX0_collect_56 bkW_0 (Nat.le_of_ble_eq_true rfl) rfl rfl ?_
      refine j_ws fo_bk_0_6 ?_
      refine j_goto (tgt := 79) C dX0_collect_59 (by decide) ?_
      refine j_aload_n C dX0_collect_79 rfl ?_
      refine j_get C f_X0_28.F 0 dX0_collect_80 bkW_0 rfl ?_
      refine j_get C f_X0_79.F 3 dX0_collect_83 bkW_3 rfl ?_
      refine j_iload_n C dX0_collect_86 rfl ?_
      refine j_iald C 15 dX0_collect_87 bkW_15 (has_X3 h8) ?_
      refine j_st (st' := [.int (B 9 i.toNatClampNeg)]) rfl ?_
      refine j_aload_n C dX0_collect_88 rfl ?_
      refine j_get C f_X0_28.F 0 dX0_collect_89 bkW_0 rfl ?_
      refine j_get C f_X0_92.F 3 dX0_collect_92 bkW_3 rfl ?_
      refine j_iload_n C dX0_collect_95 rfl ?_
      refine j_iald C 18 dX0_collect_96 bkW_18 (has_X3 h8) ?_
      refine j_st (st' := [.int ((up2 B 12 (i).toNatClampNeg ((B 12 i.toNatClampNeg) + c)) 12 i.toNatClampNeg), .int (B 9 i.toNatClampNeg)]) rfl ?_
      refine j_isub C dX0_collect_97 ?_
      refine j_istore_n C [(3, _), (0, _), (1, _), (2, _)] dX0_collect_98 (by decide) rfl ?_
      refine j_iload_n C dX0_collect_99 rfl ?_
      refine j_if_ne (tgt := 108) C dX0_collect_100 (by decide) (fun (h100 : ¬ (((B 9 i.toNatClampNeg) - ((up2 B 12 (i).toNatClampNeg ((B 12 i.toNatClampNeg) + c)) 12 i.toNatClampNeg)) = (0 : Int32))) => ?_) (fun (h100 : ((B 9 i.toNatClampNeg) - ((up2 B 12 (i).toNatClampNeg ((B 12 i.toNatClampNeg) + c)) 12 i.toNatClampNeg)) = (0 : Int32)) => ?_)
      · have hq := hq.2 h100
        refine j_iload_n C dX0_collect_108 rfl ?_
        have e9 : r_X0_collect B i c = (((B 9 i.toNatClampNeg) - ((up2 B 12 (i).toNatClampNeg ((B 12 i.toNatClampNeg) + c)) 12 i.toNatClampNeg)), (up2 (up2 (up2 B 12 (i).toNatClampNeg ((B 12 i.toNatClampNeg) + c)) 16 5 ((B 16 5) + c)) 16 3 ((B 16 3) + c))) := by rw [r_X0_collect, if_neg h8, if_pos h46, if_neg h100]
        exact j_iret E dX0_collect_109 (by rw [e9]; exact ⟨rfl, rfl⟩)
      · have hq := hq.1 h100
        refine j_aload_n C dX0_collect_103 rfl ?_
        refine j_iload_n C dX0_collect_104 rfl ?_
        obtain ⟨hv, hq⟩ := hq
        refine j_callVvW C g_X0_120 (c_X0_settle l D ca g (up2 (up2 (up2 B 12 (i).toNatClampNeg ((B 12 i.toNatClampNeg) + c)) 16 5 ((B 16 5) + c)) 16 3 ((B 16 3) + c)) i hv) 0 bkW_0 hcl_X0 ⟨Nat.le_of_ble_eq_true rfl, Nat.le_of_ble_eq_true rfl⟩ ⟨Nat.le_of_ble_eq_true rfl, Nat.le_of_ble_eq_true rfl⟩ rfl rfl (Nat.le_of_ble_eq_true rfl) dX0_collect_105 fst_bk ?_
        refine j_iload_n C dX0_collect_108 rfl ?_
        have e9 : r_X0_collect B i c = (((B 9 i.toNatClampNeg) - ((up2 B 12 (i).toNatClampNeg ((B 12 i.toNatClampNeg) + c)) 12 i.toNatClampNeg)), (r_X0_settle (up2 (up2 (up2 B 12 (i).toNatClampNeg ((B 12 i.toNatClampNeg) + c)) 16 5 ((B 16 5) + c)) 16 3 ((B 16 3) + c)) i)) := by rw [r_X0_collect, if_neg h8, if_pos h46, if_pos h100]
        exact j_iret E dX0_collect_109 (by rw [e9]; exact ⟨rfl, rfl⟩)
  · have hq := hq.1 h8
    refine j_iconst C dX0_collect_11 (-1 : Int32) (by decide) ?_
    have e9 : r_X0_collect B i c = ((-1 : Int32), B) := by rw [r_X0_collect, if_pos h8]
    exact j_iret E dX0_collect_12 (by rw [e9]; exact ⟨rfl, rfl⟩)
end
