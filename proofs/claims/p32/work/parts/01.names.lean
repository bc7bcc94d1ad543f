/-- a private method of a class that the tables say can be made, by its rows of tables_1 -/
def lw_okq (q : MethodName × Nat) : Prop := (q.1.cls ≠ "java/lang/invoke/MethodHandle" ∧ q.1.cls ≠ "java/lang/invoke/VarHandle") ∧ Cond.instantiable q.1.cls q.2 ∈ tables_1 ∧ Cond.privateMethod q.1 ∈ tables_1 ∧ Cond.instanceMethod q.1 ∈ tables_1
theorem lw_p0 : lw_okq (⟨"GuildFund$History", "stateAt", "(I)LGuildFund$Book;"⟩, 3) := ⟨⟨by decide +kernel, by decide +kernel⟩, List.mem_of_getElem? (i := 167) (by decide +kernel), List.mem_of_getElem? (i := 260) (by decide +kernel), List.mem_of_getElem? (i := 261) (by decide +kernel)⟩
def lw_privs_1 : List (MethodName × Nat) := [(⟨"GuildFund$History", "stateAt", "(I)LGuildFund$Book;"⟩, 3)]
theorem lw_r1 : ∀ q ∈ lw_privs_1, lw_okq q := List.forall_mem_cons.mpr ⟨lw_p0, fun _ h => absurd h List.not_mem_nil⟩
def lw_privs : List (MethodName × Nat) := lw_privs_1
def lw_tbl : List Cond := k2_sels lw_privs ++ tables_1
theorem lw_privs_ok : ∀ q ∈ lw_privs, lw_okq q := lw_r1
/-- the streams that the claim lets the run draw from -/
abbrev lw_cs : List Choice := [Jvm.Choice.named "NaN.bits"]
theorem lw_bits : nanBits ∈ lw_cs := by first | decide | exact List.mem_cons_self | simp [lw_cs, nanBits]
def RX0 : String := "GuildFund$Book"
def TX0 : u_T := fun k => match k with
  | 0 => ("GuildFund$Book", "members", "LGuildFund$Members;", true)
  | 1 => ("GuildFund$Book", "clients", "LGuildFund$Clients;", true)
  | 2 => ("GuildFund$Book", "invoices", "LGuildFund$Invoices;", true)
  | 3 => ("GuildFund$Book", "rates", "[F", true)
  | 4 => ("GuildFund$Book", "numbers", "[I", true)
  | 5 => ("GuildFund$Book", "day", "I", false)
  | 6 => ("GuildFund$Book", "balance", "I", false)
  | 7 => ("GuildFund$Book", "advanced", "I", false)
  | 8 => ("GuildFund$Book", "collected", "I", false)
  | 9 => ("GuildFund$Book", "passedOn", "I", false)
  | _ => ("GuildFund$Book", "shared", "I", false)
def tyX0 : Nat → FieldType := fun k => match k with
  | 0 => .object "GuildFund$Members"
  | 1 => .object "GuildFund$Clients"
  | 2 => .object "GuildFund$Invoices"
  | 3 => .array .float
  | 4 => .array .int
  | 5 => .int
  | 6 => .int
  | 7 => .int
  | 8 => .int
  | 9 => .int
  | _ => .int
abbrev wsX00 : List Cond := u_ws RX0 TX0 11
theorem nmX0 : ∀ a, a < 11 → ∀ b, b < 11 → a ≠ b → (TX0 a).2.1 ≠ (TX0 b).2.1 := by decide +kernel
theorem tyX0_ok : ∀ k, k < 11 → parseFieldDescriptor (TX0 k).2.2.1 = some (tyX0 k) := by decide +kernel
abbrev cX0_init : ByteArray := prog_2_method_1_code
def yX0_init : MethodName := ⟨RX0, "<init>", "()V"⟩
abbrev cX0_reserveCents : ByteArray := prog_2_method_2_code
def yX0_reserveCents : MethodName := ⟨RX0, "reserveCents", "()I"⟩
abbrev cX0_ageOf : ByteArray := prog_2_method_3_code
def yX0_ageOf : MethodName := ⟨RX0, "ageOf", "(I)I"⟩
abbrev cX0_lateAfter : ByteArray := prog_2_method_4_code
def yX0_lateAfter : MethodName := ⟨RX0, "lateAfter", "(II)I"⟩
abbrev cX0_rateAfter : ByteArray := prog_2_method_5_code
def yX0_rateAfter : MethodName := ⟨RX0, "rateAfter", "(II)F"⟩
abbrev cX0_offerAfter : ByteArray := prog_2_method_6_code
def yX0_offerAfter : MethodName := ⟨RX0, "offerAfter", "(II)I"⟩
abbrev cX0_worthOf : ByteArray := prog_2_method_7_code
def yX0_worthOf : MethodName := ⟨RX0, "worthOf", "(I)F"⟩
abbrev cX0_canPayAhead : ByteArray := prog_2_method_8_code
def yX0_canPayAhead : MethodName := ⟨RX0, "canPayAhead", "(I)Z"⟩
abbrev cX0_canGiveUp : ByteArray := prog_2_method_9_code
def yX0_canGiveUp : MethodName := ⟨RX0, "canGiveUp", "(I)Z"⟩
abbrev cX0_advance : ByteArray := prog_2_method_10_code
def yX0_advance : MethodName := ⟨RX0, "advance", "(I)I"⟩
abbrev cX0_errorOfPayment : ByteArray := prog_2_method_11_code
def yX0_errorOfPayment : MethodName := ⟨RX0, "errorOfPayment", "(II)I"⟩
abbrev cX0_collect : ByteArray := prog_2_method_12_code
def yX0_collect : MethodName := ⟨RX0, "collect", "(II)I"⟩
abbrev cX0_settle : ByteArray := prog_2_method_13_code
def yX0_settle : MethodName := ⟨RX0, "settle", "(I)V"⟩
abbrev cX0_passOn : ByteArray := prog_2_method_14_code
def yX0_passOn : MethodName := ⟨RX0, "passOn", "(I)V"⟩
abbrev cX0_lose : ByteArray := prog_2_method_15_code
def yX0_lose : MethodName := ⟨RX0, "lose", "(I)I"⟩
abbrev cX0_share : ByteArray := prog_2_method_16_code
def yX0_share : MethodName := ⟨RX0, "share", "(I)V"⟩
abbrev cX0_copyFrom : ByteArray := prog_2_method_17_code
def yX0_copyFrom : MethodName := ⟨RX0, "copyFrom", "(LGuildFund$Book;)V"⟩
def RX1 : String := "GuildFund$Clients"
def TX1 : u_T := fun k => match k with
  | 0 => ("GuildFund$Clients", "settled", "[I", true)
  | 1 => ("GuildFund$Clients", "lost", "[I", true)
  | _ => ("GuildFund$Clients", "daysLate", "[I", true)
def tyX1 : Nat → FieldType := fun k => match k with
  | 0 => .array .int
  | 1 => .array .int
  | _ => .array .int
abbrev wsX10 : List Cond := u_ws RX1 TX1 3
theorem nmX1 : ∀ a, a < 3 → ∀ b, b < 3 → a ≠ b → (TX1 a).2.1 ≠ (TX1 b).2.1 := by decide +kernel
theorem tyX1_ok : ∀ k, k < 3 → parseFieldDescriptor (TX1 k).2.2.1 = some (tyX1 k) := by decide +kernel
abbrev cX1_init : ByteArray := prog_3_method_1_code
def yX1_init : MethodName := ⟨RX1, "<init>", "()V"⟩
abbrev cX1_has : ByteArray := prog_3_method_2_code
def yX1_has : MethodName := ⟨RX1, "has", "(I)Z"⟩
abbrev cX1_riskOf : ByteArray := prog_3_method_3_code
def yX1_riskOf : MethodName := ⟨RX1, "riskOf", "(I)F"⟩
abbrev cX1_addSettled : ByteArray := prog_3_method_5_code
def yX1_addSettled : MethodName := ⟨RX1, "addSettled", "(II)V"⟩
abbrev cX1_addLost : ByteArray := prog_3_method_6_code
def yX1_addLost : MethodName := ⟨RX1, "addLost", "(I)V"⟩
abbrev cX1_copyFrom : ByteArray := prog_3_method_7_code
def yX1_copyFrom : MethodName := ⟨RX1, "copyFrom", "(LGuildFund$Clients;)V"⟩
def RX2 : String := "GuildFund$History"
def TX2 : u_T := fun k => match k with
  | 0 => ("GuildFund$History", "states", "[LGuildFund$Book;", true)
  | 1 => ("GuildFund$History", "next", "I", false)
  | _ => ("GuildFund$History", "size", "I", false)
def tyX2 : Nat → FieldType := fun k => match k with
  | 0 => .array (.object "GuildFund$Book")
  | 1 => .int
  | _ => .int
abbrev wsX20 : List Cond := u_ws RX2 TX2 3
theorem nmX2 : ∀ a, a < 3 → ∀ b, b < 3 → a ≠ b → (TX2 a).2.1 ≠ (TX2 b).2.1 := by decide +kernel
theorem tyX2_ok : ∀ k, k < 3 → parseFieldDescriptor (TX2 k).2.2.1 = some (tyX2 k) := by decide +kernel
abbrev cX2_init : ByteArray := prog_4_method_1_code
def yX2_init : MethodName := ⟨RX2, "<init>", "()V"⟩
abbrev cX2_push : ByteArray := prog_4_method_2_code
def yX2_push : MethodName := ⟨RX2, "push", "(LGuildFund$Book;)V"⟩
abbrev cX2_popInto : ByteArray := prog_4_method_3_code
def yX2_popInto : MethodName := ⟨RX2, "popInto", "(LGuildFund$Book;)V"⟩
abbrev cX2_stateAt : ByteArray := prog_4_method_4_code
def yX2_stateAt : MethodName := ⟨RX2, "stateAt", "(I)LGuildFund$Book;"⟩
abbrev cX2_copy : ByteArray := prog_4_method_5_code
def yX2_copy : MethodName := ⟨RX2, "copy", "(LGuildFund$Book;LGuildFund$Book;)V"⟩
def RX3 : String := "GuildFund$Invoices"
def TX3 : u_T := fun k => match k with
  | 0 => ("GuildFund$Invoices", "member", "[I", true)
  | 1 => ("GuildFund$Invoices", "client", "[I", true)
  | 2 => ("GuildFund$Invoices", "amount", "[I", true)
  | 3 => ("GuildFund$Invoices", "due", "[I", true)
  | 4 => ("GuildFund$Invoices", "state", "[I", true)
  | 5 => ("GuildFund$Invoices", "paid", "[I", true)
  | 6 => ("GuildFund$Invoices", "advance", "[I", true)
  | _ => ("GuildFund$Invoices", "size", "I", false)
def tyX3 : Nat → FieldType := fun k => match k with
  | 0 => .array .int
  | 1 => .array .int
  | 2 => .array .int
  | 3 => .array .int
  | 4 => .array .int
  | 5 => .array .int
  | 6 => .array .int
  | _ => .int
abbrev wsX30 : List Cond := u_ws RX3 TX3 8
theorem nmX3 : ∀ a, a < 8 → ∀ b, b < 8 → a ≠ b → (TX3 a).2.1 ≠ (TX3 b).2.1 := by decide +kernel
theorem tyX3_ok : ∀ k, k < 8 → parseFieldDescriptor (TX3 k).2.2.1 = some (tyX3 k) := by decide +kernel
abbrev cX3_init : ByteArray := prog_5_method_1_code
def yX3_init : MethodName := ⟨RX3, "<init>", "()V"⟩
abbrev cX3_has : ByteArray := prog_5_method_2_code
def yX3_has : MethodName := ⟨RX3, "has", "(I)Z"⟩
abbrev cX3_append : ByteArray := prog_5_method_3_code
def yX3_append : MethodName := ⟨RX3, "append", "(IIII)I"⟩
abbrev cX3_isUnsettled : ByteArray := prog_5_method_4_code
def yX3_isUnsettled : MethodName := ⟨RX3, "isUnsettled", "(I)Z"⟩
abbrev cX3_countOfMember : ByteArray := prog_5_method_5_code
def yX3_countOfMember : MethodName := ⟨RX3, "countOfMember", "(I)I"⟩
abbrev cX3_countOfMemberAhead : ByteArray := prog_5_method_6_code
def yX3_countOfMemberAhead : MethodName := ⟨RX3, "countOfMemberAhead", "(I)I"⟩
abbrev cX3_countOfClientUnsettled : ByteArray := prog_5_method_7_code
def yX3_countOfClientUnsettled : MethodName := ⟨RX3, "countOfClientUnsettled", "(I)I"⟩
abbrev cX3_countOfState : ByteArray := prog_5_method_8_code
def yX3_countOfState : MethodName := ⟨RX3, "countOfState", "(I)I"⟩
abbrev cX3_copyFrom : ByteArray := prog_5_method_10_code
def yX3_copyFrom : MethodName := ⟨RX3, "copyFrom", "(LGuildFund$Invoices;)V"⟩
def RX4 : String := "GuildFund$Members"
def TX4 : u_T := fun k => match k with
  | 0 => ("GuildFund$Members", "weight", "[I", true)
  | 1 => ("GuildFund$Members", "dues", "[I", true)
  | 2 => ("GuildFund$Members", "purse", "[I", true)
  | 3 => ("GuildFund$Members", "borne", "[I", true)
  | _ => ("GuildFund$Members", "size", "I", false)
def tyX4 : Nat → FieldType := fun k => match k with
  | 0 => .array .int
  | 1 => .array .int
  | 2 => .array .int
  | 3 => .array .int
  | _ => .int
abbrev wsX40 : List Cond := u_ws RX4 TX4 5
theorem nmX4 : ∀ a, a < 5 → ∀ b, b < 5 → a ≠ b → (TX4 a).2.1 ≠ (TX4 b).2.1 := by decide +kernel
theorem tyX4_ok : ∀ k, k < 5 → parseFieldDescriptor (TX4 k).2.2.1 = some (tyX4 k) := by decide +kernel
abbrev cX4_init : ByteArray := prog_6_method_1_code
def yX4_init : MethodName := ⟨RX4, "<init>", "()V"⟩
abbrev cX4_has : ByteArray := prog_6_method_2_code
def yX4_has : MethodName := ⟨RX4, "has", "(I)Z"⟩
abbrev cX4_append : ByteArray := prog_6_method_3_code
def yX4_append : MethodName := ⟨RX4, "append", "(I)I"⟩
abbrev cX4_intoPurse : ByteArray := prog_6_method_4_code
def yX4_intoPurse : MethodName := ⟨RX4, "intoPurse", "(II)V"⟩
abbrev cX4_bear : ByteArray := prog_6_method_5_code
def yX4_bear : MethodName := ⟨RX4, "bear", "(II)V"⟩
abbrev cX4_allDues : ByteArray := prog_6_method_6_code
def yX4_allDues : MethodName := ⟨RX4, "allDues", "()I"⟩
abbrev cX4_allWeights : ByteArray := prog_6_method_7_code
def yX4_allWeights : MethodName := ⟨RX4, "allWeights", "()I"⟩
abbrev cX4_copyFrom : ByteArray := prog_6_method_8_code
def yX4_copyFrom : MethodName := ⟨RX4, "copyFrom", "(LGuildFund$Members;)V"⟩
def RX5 : String := "GuildFund$Ranking"
def TX5 : u_T := fun k => match k with
  | 0 => ("GuildFund$Ranking", "invoices", "[I", true)
  | 1 => ("GuildFund$Ranking", "worths", "[F", true)
  | _ => ("GuildFund$Ranking", "size", "I", false)
def tyX5 : Nat → FieldType := fun k => match k with
  | 0 => .array .int
  | 1 => .array .float
  | _ => .int
abbrev wsX50 : List Cond := u_ws RX5 TX5 3
theorem nmX5 : ∀ a, a < 3 → ∀ b, b < 3 → a ≠ b → (TX5 a).2.1 ≠ (TX5 b).2.1 := by decide +kernel
theorem tyX5_ok : ∀ k, k < 3 → parseFieldDescriptor (TX5 k).2.2.1 = some (tyX5 k) := by decide +kernel
abbrev cX5_init : ByteArray := prog_7_method_1_code
def yX5_init : MethodName := ⟨RX5, "<init>", "()V"⟩
abbrev cX5_insert : ByteArray := prog_7_method_2_code
def yX5_insert : MethodName := ⟨RX5, "insert", "(IF)V"⟩
abbrev cX5_invoiceAt : ByteArray := prog_7_method_3_code
def yX5_invoiceAt : MethodName := ⟨RX5, "invoiceAt", "(I)I"⟩
def RX6 : String := "GuildFund$Text"
def TX6 : u_T := fun k => match k with
  | 0 => ("GuildFund$Text", "signs", "[C", true)
  | 1 => ("GuildFund$Text", "invoices", "[I", true)
  | 2 => ("GuildFund$Text", "cents", "[I", true)
  | 3 => ("GuildFund$Text", "length", "I", false)
  | _ => ("GuildFund$Text", "payments", "I", false)
def tyX6 : Nat → FieldType := fun k => match k with
  | 0 => .array .char
  | 1 => .array .int
  | 2 => .array .int
  | 3 => .int
  | _ => .int
abbrev wsX60 : List Cond := u_ws RX6 TX6 5
theorem nmX6 : ∀ a, a < 5 → ∀ b, b < 5 → a ≠ b → (TX6 a).2.1 ≠ (TX6 b).2.1 := by decide +kernel
theorem tyX6_ok : ∀ k, k < 5 → parseFieldDescriptor (TX6 k).2.2.1 = some (tyX6 k) := by decide +kernel
abbrev cX6_init : ByteArray := prog_8_method_1_code
def yX6_init : MethodName := ⟨RX6, "<init>", "()V"⟩
def RX7 : String := "GuildFund"
def TX7 : u_T := fun k => match k with
  | 0 => ("GuildFund", "now", "LGuildFund$Book;", true)
  | 1 => ("GuildFund", "before", "LGuildFund$Book;", true)
  | 2 => ("GuildFund", "snapshot", "LGuildFund$Book;", true)
  | 3 => ("GuildFund", "history", "LGuildFund$History;", true)
  | 4 => ("GuildFund", "text", "LGuildFund$Text;", true)
  | 5 => ("GuildFund", "ranking", "LGuildFund$Ranking;", true)
  | 6 => ("GuildFund", "kept", "Z", false)
  | 7 => ("GuildFund", "refusedPayment", "I", false)
  | _ => ("GuildFund", "refusedError", "I", false)
def tyX7 : Nat → FieldType := fun k => match k with
  | 0 => .object "GuildFund$Book"
  | 1 => .object "GuildFund$Book"
  | 2 => .object "GuildFund$Book"
  | 3 => .object "GuildFund$History"
  | 4 => .object "GuildFund$Text"
  | 5 => .object "GuildFund$Ranking"
  | 6 => .boolean
  | 7 => .int
  | _ => .int
abbrev wsX70 : List Cond := u_ws RX7 TX7 9
theorem nmX7 : ∀ a, a < 9 → ∀ b, b < 9 → a ≠ b → (TX7 a).2.1 ≠ (TX7 b).2.1 := by decide +kernel
theorem tyX7_ok : ∀ k, k < 9 → parseFieldDescriptor (TX7 k).2.2.1 = some (tyX7 k) := by decide +kernel
abbrev cX7_init : ByteArray := prog_1_method_1_code
def yX7_init : MethodName := ⟨RX7, "<init>", "()V"⟩
abbrev cX7_setRate : ByteArray := prog_1_method_2_code
def yX7_setRate : MethodName := ⟨RX7, "setRate", "(II)I"⟩
abbrev cX7_setNumber : ByteArray := prog_1_method_3_code
def yX7_setNumber : MethodName := ⟨RX7, "setNumber", "(II)I"⟩
abbrev cX7_addMember : ByteArray := prog_1_method_4_code
def yX7_addMember : MethodName := ⟨RX7, "addMember", "(I)I"⟩
abbrev cX7_payDues : ByteArray := prog_1_method_5_code
def yX7_payDues : MethodName := ⟨RX7, "payDues", "(II)I"⟩
abbrev cX7_addInvoice : ByteArray := prog_1_method_6_code
def yX7_addInvoice : MethodName := ⟨RX7, "addInvoice", "(IIII)I"⟩
abbrev cX7_payAhead : ByteArray := prog_1_method_7_code
def yX7_payAhead : MethodName := ⟨RX7, "payAhead", "(I)I"⟩
abbrev cX7_pay : ByteArray := prog_1_method_8_code
def yX7_pay : MethodName := ⟨RX7, "pay", "(II)I"⟩
abbrev cX7_giveUp : ByteArray := prog_1_method_9_code
def yX7_giveUp : MethodName := ⟨RX7, "giveUp", "(I)I"⟩
abbrev cX7_pass : ByteArray := prog_1_method_12_code
def yX7_pass : MethodName := ⟨RX7, "pass", "(I)I"⟩
abbrev cX7_undo : ByteArray := prog_1_method_15_code
def yX7_undo : MethodName := ⟨RX7, "undo", "()I"⟩
abbrev cX7_member : ByteArray := prog_1_method_20_code
def yX7_member : MethodName := ⟨RX7, "member", "(II)I"⟩
abbrev cX7_client : ByteArray := prog_1_method_21_code
def yX7_client : MethodName := ⟨RX7, "client", "(II)I"⟩
abbrev cX7_invoice : ByteArray := prog_1_method_24_code
def yX7_invoice : MethodName := ⟨RX7, "invoice", "(II)I"⟩
abbrev cX7_best : ByteArray := prog_1_method_27_code
def yX7_best : MethodName := ⟨RX7, "best", "(I)I"⟩
abbrev cX7_worthlessIn : ByteArray := prog_1_method_28_code
def yX7_worthlessIn : MethodName := ⟨RX7, "worthlessIn", "(I)I"⟩
abbrev cX7_count : ByteArray := prog_1_method_30_code
def yX7_count : MethodName := ⟨RX7, "count", "(I)I"⟩
abbrev cX7_noNumber : ByteArray := prog_1_method_31_code
def yX7_noNumber : MethodName := ⟨RX7, "noNumber", "()F"⟩
abbrev cX7_floatOf : ByteArray := prog_1_method_32_code
def yX7_floatOf : MethodName := ⟨RX7, "floatOf", "(I)F"⟩
abbrev cX7_copyRow : ByteArray := prog_1_method_33_code
def yX7_copyRow : MethodName := ⟨RX7, "copyRow", "([I[I)V"⟩
def RX8 : String := "GuildFundModel"
def TX8 : u_T := fun k => match k with
  | _ => ("", "", "", false)
def tyX8 : Nat → FieldType := fun k => match k with
  | _ => .int
abbrev wsX80 : List Cond := u_ws RX8 TX8 0
theorem nmX8 : ∀ a, a < 0 → ∀ b, b < 0 → a ≠ b → (TX8 a).2.1 ≠ (TX8 b).2.1 := by decide +kernel
theorem tyX8_ok : ∀ k, k < 0 → parseFieldDescriptor (TX8 k).2.2.1 = some (tyX8 k) := by decide +kernel
def RL : String := "GuildFundLaw"
abbrev cL_cell : ByteArray := method_2_code
def yL_cell : MethodName := ⟨RL, "cell", "([II)I"⟩
abbrev cL_low : ByteArray := method_3_code
def yL_low : MethodName := ⟨RL, "low", "(II)I"⟩
abbrev cL_does : ByteArray := method_4_code
def yL_does : MethodName := ⟨RL, "does", "(LGuildFund;I)I"⟩
abbrev cL_areSumsSo : ByteArray := method_5_code
def yL_areSumsSo : MethodName := ⟨RL, "areSumsSo", "(LGuildFund;I)Z"⟩
abbrev cL_areInvoicesSo : ByteArray := method_6_code
def yL_areInvoicesSo : MethodName := ⟨RL, "areInvoicesSo", "(LGuildFund;)Z"⟩
abbrev cL_isWorthlessSo : ByteArray := method_7_code
def yL_isWorthlessSo : MethodName := ⟨RL, "isWorthlessSo", "(LGuildFund;I)Z"⟩
abbrev cL_law : ByteArray := code
def yL_law : MethodName := ⟨RL, "law", "([I)Z"⟩
abbrev vwCl : List vw_C := [(RX0, TX0, 11), (RX1, TX1, 3), (RX2, TX2, 3), (RX3, TX3, 8), (RX4, TX4, 5), (RX5, TX5, 3), (RX6, TX6, 5), (RX7, TX7, 9)]
