def jAll : List Cond := lw_tbl.filter goodWord
theorem jm_1 {w : Cond} (h : w ∈ tables_1_1) (hg : goodWord w = true) : w ∈ jAll := List.mem_filter.mpr ⟨List.mem_append_right _ (List.mem_append_left _ h), hg⟩
theorem jm_2 {w : Cond} (h : w ∈ tables_1_2) (hg : goodWord w = true) : w ∈ jAll := List.mem_filter.mpr ⟨List.mem_append_right _ (List.mem_append_right _ (List.mem_append_left _ h)), hg⟩
theorem jm_3 {w : Cond} (h : w ∈ tables_1_3) (hg : goodWord w = true) : w ∈ jAll := List.mem_filter.mpr ⟨List.mem_append_right _ (List.mem_append_right _ (List.mem_append_right _ (List.mem_append_left _ h))), hg⟩
theorem jm_4 {w : Cond} (h : w ∈ tables_1_4) (hg : goodWord w = true) : w ∈ jAll := List.mem_filter.mpr ⟨List.mem_append_right _ (List.mem_append_right _ (List.mem_append_right _ (List.mem_append_right _ h))), hg⟩
theorem jm_p {w : Cond} (h : w ∈ k2_sels lw_privs) (hg : goodWord w = true) : w ∈ jAll := List.mem_filter.mpr ⟨List.mem_append_left _ h, hg⟩
theorem jgood {ws : List Cond} (h : ∀ w ∈ ws, w ∈ jAll) : GoodIn jAll ws := fun w hw => ⟨h w hw, good_of_word (List.mem_filter.mp (h w hw)).2⟩
theorem q_0 : Cond.initialized RL ∈ jAll := jm_1 (List.mem_of_getElem? (i := 0) rfl) rfl
theorem q_1 : Cond.initialized RX7 ∈ jAll := jm_1 (List.mem_of_getElem? (i := 1) rfl) rfl
theorem q_2 : Cond.initialized RX0 ∈ jAll := jm_1 (List.mem_of_getElem? (i := 2) rfl) rfl
theorem q_3 : Cond.initialized RX4 ∈ jAll := jm_1 (List.mem_of_getElem? (i := 3) rfl) rfl
theorem q_4 : Cond.initialized RX1 ∈ jAll := jm_1 (List.mem_of_getElem? (i := 4) rfl) rfl
theorem q_5 : Cond.initialized RX3 ∈ jAll := jm_1 (List.mem_of_getElem? (i := 5) rfl) rfl
theorem q_6 : Cond.initialized RX2 ∈ jAll := jm_1 (List.mem_of_getElem? (i := 6) rfl) rfl
theorem q_7 : Cond.initialized RX6 ∈ jAll := jm_1 (List.mem_of_getElem? (i := 7) rfl) rfl
theorem q_8 : Cond.initialized RX5 ∈ jAll := jm_1 (List.mem_of_getElem? (i := 8) rfl) rfl
theorem q_9 : Cond.initialized RX8 ∈ jAll := jm_1 (List.mem_of_getElem? (i := 9) rfl) rfl
theorem q_10 : Cond.classLink RL 7 RX7 ∈ jAll := jm_1 (List.mem_of_getElem? (i := 10) rfl) rfl
theorem q_11 : Cond.instantiable RX7 9 ∈ jAll := jm_1 (List.mem_of_getElem? (i := 11) rfl) rfl
theorem q_12 : Cond.methodLink RL 9 yX7_init ∈ jAll := jm_1 (List.mem_of_getElem? (i := 12) rfl) rfl
theorem q_13 : Cond.instanceMethod yX7_init ∈ jAll := jm_1 (List.mem_of_getElem? (i := 13) rfl) rfl
theorem q_14 : Cond.code yX7_init cX7_init 1 (none : Option FieldType) ∈ jAll := jm_1 (List.mem_of_getElem? (i := 14) rfl) rfl
theorem q_15 : Cond.methodLink RX7 1 objectInit ∈ jAll := jm_1 (List.mem_of_getElem? (i := 15) rfl) rfl
theorem q_16 : Cond.instanceMethod objectInit ∈ jAll := jm_1 (List.mem_of_getElem? (i := 16) rfl) rfl
theorem q_17 : Cond.code objectInit object_method_1_code 1 (none : Option FieldType) ∈ jAll := jm_1 (List.mem_of_getElem? (i := 17) rfl) rfl
theorem q_18 : Cond.classLink RX7 7 RX0 ∈ jAll := jm_1 (List.mem_of_getElem? (i := 18) rfl) rfl
theorem q_19 : Cond.instantiable RX0 11 ∈ jAll := jm_1 (List.mem_of_getElem? (i := 19) rfl) rfl
theorem q_20 : Cond.methodLink RX7 9 yX0_init ∈ jAll := jm_1 (List.mem_of_getElem? (i := 20) rfl) rfl
theorem q_21 : Cond.instanceMethod yX0_init ∈ jAll := jm_1 (List.mem_of_getElem? (i := 21) rfl) rfl
theorem q_22 : Cond.code yX0_init cX0_init 1 (none : Option FieldType) ∈ jAll := jm_1 (List.mem_of_getElem? (i := 22) rfl) rfl
theorem q_23 : Cond.methodLink RX0 3 objectInit ∈ jAll := jm_1 (List.mem_of_getElem? (i := 23) rfl) rfl
theorem q_24 : Cond.classLink RX0 9 RX4 ∈ jAll := jm_1 (List.mem_of_getElem? (i := 24) rfl) rfl
theorem q_25 : Cond.instantiable RX4 5 ∈ jAll := jm_1 (List.mem_of_getElem? (i := 25) rfl) rfl
theorem q_27 : Cond.instanceMethod yX4_init ∈ jAll := jm_1 (List.mem_of_getElem? (i := 27) rfl) rfl
theorem q_28 : Cond.code yX4_init cX4_init 1 (none : Option FieldType) ∈ jAll := jm_1 (List.mem_of_getElem? (i := 28) rfl) rfl
theorem q_29 : Cond.methodLink RX4 3 objectInit ∈ jAll := jm_1 (List.mem_of_getElem? (i := 29) rfl) rfl
theorem q_30 : Cond.fieldLink RX4 9 RX4 "weight" "[I" ∈ jAll := jm_1 (List.mem_of_getElem? (i := 30) rfl) rfl
theorem q_31 : Cond.fieldLink RX0 143 RX4 "weight" "[I" ∈ jAll := jm_1 (List.mem_of_getElem? (i := 31) rfl) rfl
theorem q_32 : Cond.fieldLink RX7 178 RX4 "weight" "[I" ∈ jAll := jm_1 (List.mem_of_getElem? (i := 32) rfl) rfl
theorem q_33 : Cond.fieldLink RX4 15 RX4 "dues" "[I" ∈ jAll := jm_1 (List.mem_of_getElem? (i := 33) rfl) rfl
theorem q_34 : Cond.fieldLink RX7 93 RX4 "dues" "[I" ∈ jAll := jm_1 (List.mem_of_getElem? (i := 34) rfl) rfl
theorem q_35 : Cond.fieldLink RX4 18 RX4 "purse" "[I" ∈ jAll := jm_1 (List.mem_of_getElem? (i := 35) rfl) rfl
theorem q_36 : Cond.fieldLink RX7 181 RX4 "purse" "[I" ∈ jAll := jm_1 (List.mem_of_getElem? (i := 36) rfl) rfl
theorem q_37 : Cond.fieldLink RX4 21 RX4 "borne" "[I" ∈ jAll := jm_1 (List.mem_of_getElem? (i := 37) rfl) rfl
theorem q_38 : Cond.fieldLink RX7 191 RX4 "borne" "[I" ∈ jAll := jm_1 (List.mem_of_getElem? (i := 38) rfl) rfl
theorem q_39 : Cond.fieldLink RX4 24 RX4 "size" "I" ∈ jAll := jm_1 (List.mem_of_getElem? (i := 39) rfl) rfl
theorem q_40 : Cond.fieldLink RX7 79 RX4 "size" "I" ∈ jAll := jm_1 (List.mem_of_getElem? (i := 40) rfl) rfl
theorem q_41 : Cond.laysFinal RX4 RX4 "weight" "[I" ∈ jAll := jm_1 (List.mem_of_getElem? (i := 41) rfl) rfl
theorem q_43 : Cond.laysFinal RX4 RX4 "dues" "[I" ∈ jAll := jm_1 (List.mem_of_getElem? (i := 43) rfl) rfl
theorem q_45 : Cond.laysFinal RX4 RX4 "purse" "[I" ∈ jAll := jm_1 (List.mem_of_getElem? (i := 45) rfl) rfl
theorem q_47 : Cond.laysFinal RX4 RX4 "borne" "[I" ∈ jAll := jm_1 (List.mem_of_getElem? (i := 47) rfl) rfl
theorem q_49 : Cond.lays RX4 RX4 "size" "I" ∈ jAll := jm_1 (List.mem_of_getElem? (i := 49) rfl) rfl
theorem q_51 : Cond.superclass RX4 "java/lang/Object" ∈ jAll := jm_1 (List.mem_of_getElem? (i := 51) rfl) rfl
theorem q_52 : Cond.arrayClass FieldType.int ∈ jAll := jm_1 (List.mem_of_getElem? (i := 52) rfl) rfl
theorem q_53 : Cond.classLink RX0 18 RX1 ∈ jAll := jm_1 (List.mem_of_getElem? (i := 53) rfl) rfl
theorem q_54 : Cond.instantiable RX1 3 ∈ jAll := jm_1 (List.mem_of_getElem? (i := 54) rfl) rfl
theorem q_56 : Cond.instanceMethod yX1_init ∈ jAll := jm_1 (List.mem_of_getElem? (i := 56) rfl) rfl
theorem q_57 : Cond.code yX1_init cX1_init 1 (none : Option FieldType) ∈ jAll := jm_1 (List.mem_of_getElem? (i := 57) rfl) rfl
theorem q_58 : Cond.methodLink RX1 3 objectInit ∈ jAll := jm_1 (List.mem_of_getElem? (i := 58) rfl) rfl
theorem q_59 : Cond.fieldLink RX1 9 RX1 "settled" "[I" ∈ jAll := jm_1 (List.mem_of_getElem? (i := 59) rfl) rfl
theorem q_60 : Cond.fieldLink RX7 194 RX1 "settled" "[I" ∈ jAll := jm_1 (List.mem_of_getElem? (i := 60) rfl) rfl
theorem q_61 : Cond.fieldLink RX1 15 RX1 "lost" "[I" ∈ jAll := jm_1 (List.mem_of_getElem? (i := 61) rfl) rfl
theorem q_62 : Cond.fieldLink RX7 197 RX1 "lost" "[I" ∈ jAll := jm_1 (List.mem_of_getElem? (i := 62) rfl) rfl
theorem q_63 : Cond.fieldLink RX1 18 RX1 "daysLate" "[I" ∈ jAll := jm_1 (List.mem_of_getElem? (i := 63) rfl) rfl
theorem q_64 : Cond.fieldLink RX7 200 RX1 "daysLate" "[I" ∈ jAll := jm_1 (List.mem_of_getElem? (i := 64) rfl) rfl
theorem q_65 : Cond.laysFinal RX1 RX1 "settled" "[I" ∈ jAll := jm_1 (List.mem_of_getElem? (i := 65) rfl) rfl
theorem q_67 : Cond.laysFinal RX1 RX1 "lost" "[I" ∈ jAll := jm_1 (List.mem_of_getElem? (i := 67) rfl) rfl
theorem q_69 : Cond.laysFinal RX1 RX1 "daysLate" "[I" ∈ jAll := jm_1 (List.mem_of_getElem? (i := 69) rfl) rfl
theorem q_71 : Cond.superclass RX1 "java/lang/Object" ∈ jAll := jm_1 (List.mem_of_getElem? (i := 71) rfl) rfl
theorem q_72 : Cond.classLink RX0 25 RX3 ∈ jAll := jm_1 (List.mem_of_getElem? (i := 72) rfl) rfl
theorem q_73 : Cond.instantiable RX3 8 ∈ jAll := jm_1 (List.mem_of_getElem? (i := 73) rfl) rfl
theorem q_75 : Cond.instanceMethod yX3_init ∈ jAll := jm_1 (List.mem_of_getElem? (i := 75) rfl) rfl
theorem q_76 : Cond.code yX3_init cX3_init 1 (none : Option FieldType) ∈ jAll := jm_1 (List.mem_of_getElem? (i := 76) rfl) rfl
theorem q_77 : Cond.methodLink RX3 3 objectInit ∈ jAll := jm_1 (List.mem_of_getElem? (i := 77) rfl) rfl
theorem q_78 : Cond.fieldLink RX3 9 RX3 "member" "[I" ∈ jAll := jm_1 (List.mem_of_getElem? (i := 78) rfl) rfl
theorem q_79 : Cond.fieldLink RX0 107 RX3 "member" "[I" ∈ jAll := jm_1 (List.mem_of_getElem? (i := 79) rfl) rfl
theorem q_80 : Cond.fieldLink RX7 212 RX3 "member" "[I" ∈ jAll := jm_1 (List.mem_of_getElem? (i := 80) rfl) rfl
theorem q_81 : Cond.fieldLink RX3 15 RX3 "client" "[I" ∈ jAll := jm_1 (List.mem_of_getElem? (i := 81) rfl) rfl
theorem q_82 : Cond.fieldLink RX0 72 RX3 "client" "[I" ∈ jAll := jm_1 (List.mem_of_getElem? (i := 82) rfl) rfl
theorem q_83 : Cond.fieldLink RX7 215 RX3 "client" "[I" ∈ jAll := jm_1 (List.mem_of_getElem? (i := 83) rfl) rfl
theorem q_84 : Cond.fieldLink RX3 18 RX3 "amount" "[I" ∈ jAll := jm_1 (List.mem_of_getElem? (i := 84) rfl) rfl
theorem q_85 : Cond.fieldLink RX0 79 RX3 "amount" "[I" ∈ jAll := jm_1 (List.mem_of_getElem? (i := 85) rfl) rfl
theorem q_86 : Cond.fieldLink RX7 218 RX3 "amount" "[I" ∈ jAll := jm_1 (List.mem_of_getElem? (i := 86) rfl) rfl
theorem q_87 : Cond.fieldLink RX3 21 RX3 "due" "[I" ∈ jAll := jm_1 (List.mem_of_getElem? (i := 87) rfl) rfl
theorem q_88 : Cond.fieldLink RX0 57 RX3 "due" "[I" ∈ jAll := jm_1 (List.mem_of_getElem? (i := 88) rfl) rfl
theorem q_89 : Cond.fieldLink RX7 221 RX3 "due" "[I" ∈ jAll := jm_1 (List.mem_of_getElem? (i := 89) rfl) rfl
theorem q_90 : Cond.fieldLink RX3 24 RX3 "state" "[I" ∈ jAll := jm_1 (List.mem_of_getElem? (i := 90) rfl) rfl
theorem q_91 : Cond.fieldLink RX0 89 RX3 "state" "[I" ∈ jAll := jm_1 (List.mem_of_getElem? (i := 91) rfl) rfl
theorem q_92 : Cond.fieldLink RX7 224 RX3 "state" "[I" ∈ jAll := jm_1 (List.mem_of_getElem? (i := 92) rfl) rfl
theorem q_93 : Cond.fieldLink RX3 27 RX3 "paid" "[I" ∈ jAll := jm_1 (List.mem_of_getElem? (i := 93) rfl) rfl
theorem q_94 : Cond.fieldLink RX0 92 RX3 "paid" "[I" ∈ jAll := jm_1 (List.mem_of_getElem? (i := 94) rfl) rfl
theorem q_95 : Cond.fieldLink RX7 227 RX3 "paid" "[I" ∈ jAll := jm_1 (List.mem_of_getElem? (i := 95) rfl) rfl
theorem q_96 : Cond.fieldLink RX3 30 RX3 "advance" "[I" ∈ jAll := jm_1 (List.mem_of_getElem? (i := 96) rfl) rfl
theorem q_97 : Cond.fieldLink RX0 104 RX3 "advance" "[I" ∈ jAll := jm_1 (List.mem_of_getElem? (i := 97) rfl) rfl
theorem q_98 : Cond.fieldLink RX7 230 RX3 "advance" "[I" ∈ jAll := jm_1 (List.mem_of_getElem? (i := 98) rfl) rfl
theorem q_99 : Cond.fieldLink RX3 33 RX3 "size" "I" ∈ jAll := jm_1 (List.mem_of_getElem? (i := 99) rfl) rfl
theorem q_100 : Cond.fieldLink RX7 111 RX3 "size" "I" ∈ jAll := jm_1 (List.mem_of_getElem? (i := 100) rfl) rfl
theorem q_101 : Cond.laysFinal RX3 RX3 "member" "[I" ∈ jAll := jm_1 (List.mem_of_getElem? (i := 101) rfl) rfl
theorem q_103 : Cond.laysFinal RX3 RX3 "client" "[I" ∈ jAll := jm_1 (List.mem_of_getElem? (i := 103) rfl) rfl
theorem q_105 : Cond.laysFinal RX3 RX3 "amount" "[I" ∈ jAll := jm_1 (List.mem_of_getElem? (i := 105) rfl) rfl
theorem q_107 : Cond.laysFinal RX3 RX3 "due" "[I" ∈ jAll := jm_1 (List.mem_of_getElem? (i := 107) rfl) rfl
theorem q_109 : Cond.laysFinal RX3 RX3 "state" "[I" ∈ jAll := jm_1 (List.mem_of_getElem? (i := 109) rfl) rfl
theorem q_111 : Cond.laysFinal RX3 RX3 "paid" "[I" ∈ jAll := jm_1 (List.mem_of_getElem? (i := 111) rfl) rfl
theorem q_113 : Cond.laysFinal RX3 RX3 "advance" "[I" ∈ jAll := jm_1 (List.mem_of_getElem? (i := 113) rfl) rfl
theorem q_115 : Cond.lays RX3 RX3 "size" "I" ∈ jAll := jm_1 (List.mem_of_getElem? (i := 115) rfl) rfl
theorem q_117 : Cond.superclass RX3 "java/lang/Object" ∈ jAll := jm_1 (List.mem_of_getElem? (i := 117) rfl) rfl
theorem q_118 : Cond.constantFloat RX0 40 (1063675494 : UInt32) ∈ jAll := jm_1 (List.mem_of_getElem? (i := 118) rfl) rfl
theorem q_119 : Cond.constantFloat RX0 41 (1000593162 : UInt32) ∈ jAll := jm_1 (List.mem_of_getElem? (i := 119) rfl) rfl
theorem q_120 : Cond.constantFloat RX0 42 (1036831949 : UInt32) ∈ jAll := jm_1 (List.mem_of_getElem? (i := 120) rfl) rfl
theorem q_121 : Cond.fieldLink RX0 12 RX0 "members" "LGuildFund$Members;" ∈ jAll := jm_1 (List.mem_of_getElem? (i := 121) rfl) rfl
theorem q_122 : Cond.fieldLink RX7 75 RX0 "members" "LGuildFund$Members;" ∈ jAll := jm_1 (List.mem_of_getElem? (i := 122) rfl) rfl
theorem q_123 : Cond.fieldLink RX0 21 RX0 "clients" "LGuildFund$Clients;" ∈ jAll := jm_1 (List.mem_of_getElem? (i := 123) rfl) rfl
theorem q_124 : Cond.fieldLink RX7 100 RX0 "clients" "LGuildFund$Clients;" ∈ jAll := jm_1 (List.mem_of_getElem? (i := 124) rfl) rfl
theorem q_125 : Cond.fieldLink RX0 28 RX0 "invoices" "LGuildFund$Invoices;" ∈ jAll := jm_1 (List.mem_of_getElem? (i := 125) rfl) rfl
theorem q_126 : Cond.fieldLink RX7 107 RX0 "invoices" "LGuildFund$Invoices;" ∈ jAll := jm_1 (List.mem_of_getElem? (i := 126) rfl) rfl
theorem q_127 : Cond.fieldLink RX0 32 RX0 "rates" "[F" ∈ jAll := jm_1 (List.mem_of_getElem? (i := 127) rfl) rfl
theorem q_128 : Cond.fieldLink RX7 58 RX0 "rates" "[F" ∈ jAll := jm_1 (List.mem_of_getElem? (i := 128) rfl) rfl
theorem q_129 : Cond.fieldLink RX0 36 RX0 "numbers" "[I" ∈ jAll := jm_1 (List.mem_of_getElem? (i := 129) rfl) rfl
theorem q_130 : Cond.fieldLink RX7 72 RX0 "numbers" "[I" ∈ jAll := jm_1 (List.mem_of_getElem? (i := 130) rfl) rfl
theorem q_131 : Cond.fieldLink RX0 53 RX0 "day" "I" ∈ jAll := jm_1 (List.mem_of_getElem? (i := 131) rfl) rfl
theorem q_132 : Cond.fieldLink RX7 156 RX0 "day" "I" ∈ jAll := jm_1 (List.mem_of_getElem? (i := 132) rfl) rfl
theorem q_133 : Cond.fieldLink RX7 97 RX0 "balance" "I" ∈ jAll := jm_1 (List.mem_of_getElem? (i := 133) rfl) rfl
theorem q_134 : Cond.fieldLink RX0 95 RX0 "balance" "I" ∈ jAll := jm_1 (List.mem_of_getElem? (i := 134) rfl) rfl
theorem q_135 : Cond.fieldLink RX0 114 RX0 "advanced" "I" ∈ jAll := jm_1 (List.mem_of_getElem? (i := 135) rfl) rfl
theorem q_136 : Cond.fieldLink RX7 266 RX0 "advanced" "I" ∈ jAll := jm_1 (List.mem_of_getElem? (i := 136) rfl) rfl
theorem q_137 : Cond.fieldLink RX0 117 RX0 "collected" "I" ∈ jAll := jm_1 (List.mem_of_getElem? (i := 137) rfl) rfl
theorem q_138 : Cond.fieldLink RX7 269 RX0 "collected" "I" ∈ jAll := jm_1 (List.mem_of_getElem? (i := 138) rfl) rfl
theorem q_139 : Cond.fieldLink RX0 130 RX0 "passedOn" "I" ∈ jAll := jm_1 (List.mem_of_getElem? (i := 139) rfl) rfl
theorem q_140 : Cond.fieldLink RX7 272 RX0 "passedOn" "I" ∈ jAll := jm_1 (List.mem_of_getElem? (i := 140) rfl) rfl
theorem q_141 : Cond.fieldLink RX0 149 RX0 "shared" "I" ∈ jAll := jm_1 (List.mem_of_getElem? (i := 141) rfl) rfl
theorem q_142 : Cond.fieldLink RX7 275 RX0 "shared" "I" ∈ jAll := jm_1 (List.mem_of_getElem? (i := 142) rfl) rfl
theorem q_143 : Cond.laysFinal RX0 RX0 "members" "LGuildFund$Members;" ∈ jAll := jm_1 (List.mem_of_getElem? (i := 143) rfl) rfl
theorem q_145 : Cond.laysFinal RX0 RX0 "clients" "LGuildFund$Clients;" ∈ jAll := jm_1 (List.mem_of_getElem? (i := 145) rfl) rfl
theorem q_147 : Cond.laysFinal RX0 RX0 "invoices" "LGuildFund$Invoices;" ∈ jAll := jm_1 (List.mem_of_getElem? (i := 147) rfl) rfl
theorem q_149 : Cond.laysFinal RX0 RX0 "rates" "[F" ∈ jAll := jm_1 (List.mem_of_getElem? (i := 149) rfl) rfl
theorem q_151 : Cond.laysFinal RX0 RX0 "numbers" "[I" ∈ jAll := jm_1 (List.mem_of_getElem? (i := 151) rfl) rfl
theorem q_153 : Cond.lays RX0 RX0 "day" "I" ∈ jAll := jm_1 (List.mem_of_getElem? (i := 153) rfl) rfl
theorem q_155 : Cond.lays RX0 RX0 "balance" "I" ∈ jAll := jm_1 (List.mem_of_getElem? (i := 155) rfl) rfl
theorem q_157 : Cond.lays RX0 RX0 "advanced" "I" ∈ jAll := jm_1 (List.mem_of_getElem? (i := 157) rfl) rfl
theorem q_159 : Cond.lays RX0 RX0 "collected" "I" ∈ jAll := jm_1 (List.mem_of_getElem? (i := 159) rfl) rfl
theorem q_161 : Cond.lays RX0 RX0 "passedOn" "I" ∈ jAll := jm_1 (List.mem_of_getElem? (i := 161) rfl) rfl
theorem q_163 : Cond.lays RX0 RX0 "shared" "I" ∈ jAll := jm_1 (List.mem_of_getElem? (i := 163) rfl) rfl
theorem q_165 : Cond.superclass RX0 "java/lang/Object" ∈ jAll := jm_1 (List.mem_of_getElem? (i := 165) rfl) rfl
theorem q_166 : Cond.arrayClass FieldType.float ∈ jAll := jm_1 (List.mem_of_getElem? (i := 166) rfl) rfl
theorem q_167 : Cond.classLink RX7 22 RX2 ∈ jAll := jm_1 (List.mem_of_getElem? (i := 167) rfl) rfl
theorem q_168 : Cond.instantiable RX2 3 ∈ jAll := jm_1 (List.mem_of_getElem? (i := 168) rfl) rfl
theorem q_169 : Cond.methodLink RX7 24 yX2_init ∈ jAll := jm_1 (List.mem_of_getElem? (i := 169) rfl) rfl
theorem q_170 : Cond.instanceMethod yX2_init ∈ jAll := jm_1 (List.mem_of_getElem? (i := 170) rfl) rfl
theorem q_171 : Cond.code yX2_init cX2_init 2 (none : Option FieldType) ∈ jAll := jm_1 (List.mem_of_getElem? (i := 171) rfl) rfl
theorem q_172 : Cond.methodLink RX2 3 objectInit ∈ jAll := jm_1 (List.mem_of_getElem? (i := 172) rfl) rfl
theorem q_173 : Cond.classLink RX2 9 RX0 ∈ jAll := jm_1 (List.mem_of_getElem? (i := 173) rfl) rfl
theorem q_175 : Cond.methodLink RX2 17 yX0_init ∈ jAll := jm_1 (List.mem_of_getElem? (i := 175) rfl) rfl
theorem q_176 : Cond.fieldLink RX2 11 RX2 "states" "[LGuildFund$Book;" ∈ jAll := jm_1 (List.mem_of_getElem? (i := 176) rfl) rfl
theorem q_177 : Cond.fieldLink RX2 18 RX2 "next" "I" ∈ jAll := jm_1 (List.mem_of_getElem? (i := 177) rfl) rfl
theorem q_178 : Cond.fieldLink RX2 30 RX2 "size" "I" ∈ jAll := jm_1 (List.mem_of_getElem? (i := 178) rfl) rfl
theorem q_179 : Cond.fieldLink RX7 166 RX2 "size" "I" ∈ jAll := jm_1 (List.mem_of_getElem? (i := 179) rfl) rfl
theorem q_180 : Cond.laysFinal RX2 RX2 "states" "[LGuildFund$Book;" ∈ jAll := jm_1 (List.mem_of_getElem? (i := 180) rfl) rfl
theorem q_182 : Cond.lays RX2 RX2 "next" "I" ∈ jAll := jm_1 (List.mem_of_getElem? (i := 182) rfl) rfl
theorem q_184 : Cond.lays RX2 RX2 "size" "I" ∈ jAll := jm_1 (List.mem_of_getElem? (i := 184) rfl) rfl
theorem q_186 : Cond.superclass RX2 "java/lang/Object" ∈ jAll := jm_1 (List.mem_of_getElem? (i := 186) rfl) rfl
theorem q_187 : Cond.classLink RX7 29 RX6 ∈ jAll := jm_1 (List.mem_of_getElem? (i := 187) rfl) rfl
theorem q_188 : Cond.instantiable RX6 5 ∈ jAll := jm_1 (List.mem_of_getElem? (i := 188) rfl) rfl
theorem q_190 : Cond.instanceMethod yX6_init ∈ jAll := jm_1 (List.mem_of_getElem? (i := 190) rfl) rfl
theorem q_191 : Cond.code yX6_init cX6_init 1 (none : Option FieldType) ∈ jAll := jm_1 (List.mem_of_getElem? (i := 191) rfl) rfl
theorem q_192 : Cond.methodLink RX6 3 objectInit ∈ jAll := jm_1 (List.mem_of_getElem? (i := 192) rfl) rfl
theorem q_193 : Cond.fieldLink RX6 9 RX6 "signs" "[C" ∈ jAll := jm_1 (List.mem_of_getElem? (i := 193) rfl) rfl
theorem q_194 : Cond.fieldLink RX6 15 RX6 "invoices" "[I" ∈ jAll := jm_1 (List.mem_of_getElem? (i := 194) rfl) rfl
theorem q_195 : Cond.fieldLink RX6 19 RX6 "cents" "[I" ∈ jAll := jm_1 (List.mem_of_getElem? (i := 195) rfl) rfl
theorem q_196 : Cond.fieldLink RX6 22 RX6 "length" "I" ∈ jAll := jm_1 (List.mem_of_getElem? (i := 196) rfl) rfl
theorem q_197 : Cond.fieldLink RX7 163 RX6 "length" "I" ∈ jAll := jm_1 (List.mem_of_getElem? (i := 197) rfl) rfl
theorem q_198 : Cond.fieldLink RX6 26 RX6 "payments" "I" ∈ jAll := jm_1 (List.mem_of_getElem? (i := 198) rfl) rfl
theorem q_199 : Cond.fieldLink RX7 144 RX6 "payments" "I" ∈ jAll := jm_1 (List.mem_of_getElem? (i := 199) rfl) rfl
theorem q_200 : Cond.laysFinal RX6 RX6 "signs" "[C" ∈ jAll := jm_1 (List.mem_of_getElem? (i := 200) rfl) rfl
theorem q_202 : Cond.laysFinal RX6 RX6 "invoices" "[I" ∈ jAll := jm_1 (List.mem_of_getElem? (i := 202) rfl) rfl
theorem q_204 : Cond.laysFinal RX6 RX6 "cents" "[I" ∈ jAll := jm_1 (List.mem_of_getElem? (i := 204) rfl) rfl
theorem q_206 : Cond.lays RX6 RX6 "length" "I" ∈ jAll := jm_1 (List.mem_of_getElem? (i := 206) rfl) rfl
theorem q_208 : Cond.lays RX6 RX6 "payments" "I" ∈ jAll := jm_1 (List.mem_of_getElem? (i := 208) rfl) rfl
theorem q_210 : Cond.superclass RX6 "java/lang/Object" ∈ jAll := jm_1 (List.mem_of_getElem? (i := 210) rfl) rfl
theorem q_211 : Cond.arrayClass FieldType.char ∈ jAll := jm_1 (List.mem_of_getElem? (i := 211) rfl) rfl
theorem q_212 : Cond.classLink RX7 36 RX5 ∈ jAll := jm_1 (List.mem_of_getElem? (i := 212) rfl) rfl
theorem q_213 : Cond.instantiable RX5 3 ∈ jAll := jm_1 (List.mem_of_getElem? (i := 213) rfl) rfl
theorem q_215 : Cond.instanceMethod yX5_init ∈ jAll := jm_1 (List.mem_of_getElem? (i := 215) rfl) rfl
theorem q_216 : Cond.code yX5_init cX5_init 1 (none : Option FieldType) ∈ jAll := jm_1 (List.mem_of_getElem? (i := 216) rfl) rfl
theorem q_217 : Cond.methodLink RX5 3 objectInit ∈ jAll := jm_1 (List.mem_of_getElem? (i := 217) rfl) rfl
theorem q_218 : Cond.fieldLink RX5 9 RX5 "invoices" "[I" ∈ jAll := jm_1 (List.mem_of_getElem? (i := 218) rfl) rfl
theorem q_219 : Cond.fieldLink RX5 15 RX5 "worths" "[F" ∈ jAll := jm_1 (List.mem_of_getElem? (i := 219) rfl) rfl
theorem q_220 : Cond.fieldLink RX5 19 RX5 "size" "I" ∈ jAll := jm_1 (List.mem_of_getElem? (i := 220) rfl) rfl
theorem q_221 : Cond.fieldLink RX7 246 RX5 "size" "I" ∈ jAll := jm_1 (List.mem_of_getElem? (i := 221) rfl) rfl
theorem q_222 : Cond.laysFinal RX5 RX5 "invoices" "[I" ∈ jAll := jm_1 (List.mem_of_getElem? (i := 222) rfl) rfl
theorem q_224 : Cond.laysFinal RX5 RX5 "worths" "[F" ∈ jAll := jm_1 (List.mem_of_getElem? (i := 224) rfl) rfl
theorem q_226 : Cond.lays RX5 RX5 "size" "I" ∈ jAll := jm_1 (List.mem_of_getElem? (i := 226) rfl) rfl
theorem q_228 : Cond.superclass RX5 "java/lang/Object" ∈ jAll := jm_1 (List.mem_of_getElem? (i := 228) rfl) rfl
theorem q_229 : Cond.fieldLink RX7 10 RX7 "now" "LGuildFund$Book;" ∈ jAll := jm_1 (List.mem_of_getElem? (i := 229) rfl) rfl
theorem q_230 : Cond.fieldLink RX7 16 RX7 "before" "LGuildFund$Book;" ∈ jAll := jm_1 (List.mem_of_getElem? (i := 230) rfl) rfl
theorem q_231 : Cond.fieldLink RX7 19 RX7 "snapshot" "LGuildFund$Book;" ∈ jAll := jm_1 (List.mem_of_getElem? (i := 231) rfl) rfl
theorem q_232 : Cond.fieldLink RX7 25 RX7 "history" "LGuildFund$History;" ∈ jAll := jm_1 (List.mem_of_getElem? (i := 232) rfl) rfl
theorem q_233 : Cond.fieldLink RX7 32 RX7 "text" "LGuildFund$Text;" ∈ jAll := jm_1 (List.mem_of_getElem? (i := 233) rfl) rfl
theorem q_234 : Cond.fieldLink RX7 39 RX7 "ranking" "LGuildFund$Ranking;" ∈ jAll := jm_1 (List.mem_of_getElem? (i := 234) rfl) rfl
theorem q_235 : Cond.fieldLink RX7 170 RX7 "kept" "Z" ∈ jAll := jm_1 (List.mem_of_getElem? (i := 235) rfl) rfl
theorem q_236 : Cond.fieldLink RX7 153 RX7 "refusedPayment" "I" ∈ jAll := jm_1 (List.mem_of_getElem? (i := 236) rfl) rfl
theorem q_237 : Cond.fieldLink RX7 43 RX7 "refusedError" "I" ∈ jAll := jm_1 (List.mem_of_getElem? (i := 237) rfl) rfl
theorem q_238 : Cond.laysFinal RX7 RX7 "now" "LGuildFund$Book;" ∈ jAll := jm_1 (List.mem_of_getElem? (i := 238) rfl) rfl
theorem q_240 : Cond.laysFinal RX7 RX7 "before" "LGuildFund$Book;" ∈ jAll := jm_2 (List.mem_of_getElem? (i := 0) rfl) rfl
theorem q_242 : Cond.laysFinal RX7 RX7 "snapshot" "LGuildFund$Book;" ∈ jAll := jm_2 (List.mem_of_getElem? (i := 2) rfl) rfl
theorem q_244 : Cond.laysFinal RX7 RX7 "history" "LGuildFund$History;" ∈ jAll := jm_2 (List.mem_of_getElem? (i := 4) rfl) rfl
theorem q_246 : Cond.laysFinal RX7 RX7 "text" "LGuildFund$Text;" ∈ jAll := jm_2 (List.mem_of_getElem? (i := 6) rfl) rfl
theorem q_248 : Cond.laysFinal RX7 RX7 "ranking" "LGuildFund$Ranking;" ∈ jAll := jm_2 (List.mem_of_getElem? (i := 8) rfl) rfl
theorem q_250 : Cond.lays RX7 RX7 "kept" "Z" ∈ jAll := jm_2 (List.mem_of_getElem? (i := 10) rfl) rfl
theorem q_252 : Cond.lays RX7 RX7 "refusedPayment" "I" ∈ jAll := jm_2 (List.mem_of_getElem? (i := 12) rfl) rfl
theorem q_254 : Cond.lays RX7 RX7 "refusedError" "I" ∈ jAll := jm_2 (List.mem_of_getElem? (i := 14) rfl) rfl
theorem q_256 : Cond.superclass RX7 "java/lang/Object" ∈ jAll := jm_2 (List.mem_of_getElem? (i := 16) rfl) rfl
theorem q_257 : Cond.methodLink RL 13 yX7_setRate ∈ jAll := jm_2 (List.mem_of_getElem? (i := 17) rfl) rfl
theorem q_258 : Cond.instanceMethod yX7_setRate ∈ jAll := jm_2 (List.mem_of_getElem? (i := 18) rfl) rfl
theorem q_259 : Cond.selects RX7 yX7_setRate yX7_setRate ∈ jAll := jm_2 (List.mem_of_getElem? (i := 19) rfl) rfl
theorem q_260 : Cond.code yX7_setRate cX7_setRate 4 (some .int) ∈ jAll := jm_2 (List.mem_of_getElem? (i := 20) rfl) rfl
theorem q_261 : Cond.fieldLink RX7 47 RX7 "LOWEST_RATE" "[I" ∈ jAll := jm_2 (List.mem_of_getElem? (i := 21) rfl) rfl
theorem q_263 : Cond.fieldLink RX7 51 RX7 "HIGHEST_RATE" "[I" ∈ jAll := jm_2 (List.mem_of_getElem? (i := 23) rfl) rfl
theorem q_265 : Cond.methodLink RX7 54 yX7_floatOf ∈ jAll := jm_2 (List.mem_of_getElem? (i := 25) rfl) rfl
theorem q_266 : Cond.static yX7_floatOf ∈ jAll := jm_2 (List.mem_of_getElem? (i := 26) rfl) rfl
theorem q_267 : Cond.code yX7_floatOf cX7_floatOf 6 (Option.some FieldType.float) ∈ jAll := jm_2 (List.mem_of_getElem? (i := 27) rfl) rfl
theorem q_268 : Cond.constant RX7 279 (8388607 : Int32) ∈ jAll := jm_2 (List.mem_of_getElem? (i := 28) rfl) rfl
theorem q_269 : Cond.constant RX7 280 (8388608 : Int32) ∈ jAll := jm_2 (List.mem_of_getElem? (i := 29) rfl) rfl
theorem q_270 : Cond.constantFloat RX7 281 (1056964608 : UInt32) ∈ jAll := jm_2 (List.mem_of_getElem? (i := 30) rfl) rfl
theorem q_271 : Cond.methodLink RX7 62 yX2_push ∈ jAll := jm_2 (List.mem_of_getElem? (i := 31) rfl) rfl
theorem q_272 : Cond.instanceMethod yX2_push ∈ jAll := jm_2 (List.mem_of_getElem? (i := 32) rfl) rfl
theorem q_273 : Cond.selects RX2 yX2_push yX2_push ∈ jAll := jm_2 (List.mem_of_getElem? (i := 33) rfl) rfl
theorem q_274 : Cond.code yX2_push cX2_push 2 (none : Option FieldType) ∈ jAll := jm_2 (List.mem_of_getElem? (i := 34) rfl) rfl
theorem q_275 : Cond.methodLink RX2 22 yX2_stateAt ∈ jAll := jm_2 (List.mem_of_getElem? (i := 35) rfl) rfl
theorem q_277 : Cond.instanceMethod yX2_stateAt ∈ jAll := jm_2 (List.mem_of_getElem? (i := 37) rfl) rfl
theorem q_278 : Cond.code yX2_stateAt cX2_stateAt 2 (Option.some (FieldType.object RX0)) ∈ jAll := jm_2 (List.mem_of_getElem? (i := 38) rfl) rfl
theorem q_279 : Cond.methodLink RX2 26 yX2_copy ∈ jAll := jm_2 (List.mem_of_getElem? (i := 39) rfl) rfl
theorem q_280 : Cond.static yX2_copy ∈ jAll := jm_2 (List.mem_of_getElem? (i := 40) rfl) rfl
theorem q_281 : Cond.code yX2_copy cX2_copy 2 (none : Option FieldType) ∈ jAll := jm_2 (List.mem_of_getElem? (i := 41) rfl) rfl
theorem q_282 : Cond.methodLink RX2 33 yX0_copyFrom ∈ jAll := jm_2 (List.mem_of_getElem? (i := 42) rfl) rfl
theorem q_283 : Cond.instanceMethod yX0_copyFrom ∈ jAll := jm_2 (List.mem_of_getElem? (i := 43) rfl) rfl
theorem q_284 : Cond.selects RX0 yX0_copyFrom yX0_copyFrom ∈ jAll := jm_2 (List.mem_of_getElem? (i := 44) rfl) rfl
theorem q_285 : Cond.code yX0_copyFrom cX0_copyFrom 3 (none : Option FieldType) ∈ jAll := jm_2 (List.mem_of_getElem? (i := 45) rfl) rfl
theorem q_286 : Cond.methodLink RX0 152 yX4_copyFrom ∈ jAll := jm_2 (List.mem_of_getElem? (i := 46) rfl) rfl
theorem q_287 : Cond.instanceMethod yX4_copyFrom ∈ jAll := jm_2 (List.mem_of_getElem? (i := 47) rfl) rfl
theorem q_288 : Cond.selects RX4 yX4_copyFrom yX4_copyFrom ∈ jAll := jm_2 (List.mem_of_getElem? (i := 48) rfl) rfl
theorem q_289 : Cond.code yX4_copyFrom cX4_copyFrom 2 (none : Option FieldType) ∈ jAll := jm_2 (List.mem_of_getElem? (i := 49) rfl) rfl
theorem q_291 : Cond.static yX7_copyRow ∈ jAll := jm_2 (List.mem_of_getElem? (i := 51) rfl) rfl
theorem q_292 : Cond.code yX7_copyRow cX7_copyRow 3 (none : Option FieldType) ∈ jAll := jm_2 (List.mem_of_getElem? (i := 52) rfl) rfl
theorem q_293 : Cond.methodLink RX0 156 yX1_copyFrom ∈ jAll := jm_2 (List.mem_of_getElem? (i := 53) rfl) rfl
theorem q_294 : Cond.instanceMethod yX1_copyFrom ∈ jAll := jm_2 (List.mem_of_getElem? (i := 54) rfl) rfl
theorem q_295 : Cond.selects RX1 yX1_copyFrom yX1_copyFrom ∈ jAll := jm_2 (List.mem_of_getElem? (i := 55) rfl) rfl
theorem q_296 : Cond.code yX1_copyFrom cX1_copyFrom 2 (none : Option FieldType) ∈ jAll := jm_2 (List.mem_of_getElem? (i := 56) rfl) rfl
theorem q_298 : Cond.methodLink RX0 159 yX3_copyFrom ∈ jAll := jm_2 (List.mem_of_getElem? (i := 58) rfl) rfl
theorem q_299 : Cond.instanceMethod yX3_copyFrom ∈ jAll := jm_2 (List.mem_of_getElem? (i := 59) rfl) rfl
theorem q_300 : Cond.selects RX3 yX3_copyFrom yX3_copyFrom ∈ jAll := jm_2 (List.mem_of_getElem? (i := 60) rfl) rfl
theorem q_301 : Cond.code yX3_copyFrom cX3_copyFrom 2 (none : Option FieldType) ∈ jAll := jm_2 (List.mem_of_getElem? (i := 61) rfl) rfl
theorem q_304 : Cond.methodLink RL 18 yX7_setNumber ∈ jAll := jm_2 (List.mem_of_getElem? (i := 64) rfl) rfl
theorem q_305 : Cond.instanceMethod yX7_setNumber ∈ jAll := jm_2 (List.mem_of_getElem? (i := 65) rfl) rfl
theorem q_306 : Cond.selects RX7 yX7_setNumber yX7_setNumber ∈ jAll := jm_2 (List.mem_of_getElem? (i := 66) rfl) rfl
theorem q_307 : Cond.code yX7_setNumber cX7_setNumber 4 (some .int) ∈ jAll := jm_2 (List.mem_of_getElem? (i := 67) rfl) rfl
theorem q_308 : Cond.fieldLink RX7 66 RX7 "LOWEST_NUMBER" "[I" ∈ jAll := jm_2 (List.mem_of_getElem? (i := 68) rfl) rfl
theorem q_310 : Cond.fieldLink RX7 69 RX7 "HIGHEST_NUMBER" "[I" ∈ jAll := jm_2 (List.mem_of_getElem? (i := 70) rfl) rfl
theorem q_312 : Cond.methodLink RL 22 yX7_addMember ∈ jAll := jm_2 (List.mem_of_getElem? (i := 72) rfl) rfl
theorem q_313 : Cond.instanceMethod yX7_addMember ∈ jAll := jm_2 (List.mem_of_getElem? (i := 73) rfl) rfl
theorem q_314 : Cond.selects RX7 yX7_addMember yX7_addMember ∈ jAll := jm_2 (List.mem_of_getElem? (i := 74) rfl) rfl
theorem q_315 : Cond.code yX7_addMember cX7_addMember 2 (some .int) ∈ jAll := jm_2 (List.mem_of_getElem? (i := 75) rfl) rfl
theorem q_316 : Cond.methodLink RX7 84 yX4_append ∈ jAll := jm_2 (List.mem_of_getElem? (i := 76) rfl) rfl
theorem q_317 : Cond.instanceMethod yX4_append ∈ jAll := jm_2 (List.mem_of_getElem? (i := 77) rfl) rfl
theorem q_318 : Cond.selects RX4 yX4_append yX4_append ∈ jAll := jm_2 (List.mem_of_getElem? (i := 78) rfl) rfl
theorem q_319 : Cond.code yX4_append cX4_append 2 (some .int) ∈ jAll := jm_2 (List.mem_of_getElem? (i := 79) rfl) rfl
theorem q_320 : Cond.methodLink RL 27 yX7_payDues ∈ jAll := jm_2 (List.mem_of_getElem? (i := 80) rfl) rfl
theorem q_321 : Cond.instanceMethod yX7_payDues ∈ jAll := jm_2 (List.mem_of_getElem? (i := 81) rfl) rfl
theorem q_322 : Cond.selects RX7 yX7_payDues yX7_payDues ∈ jAll := jm_2 (List.mem_of_getElem? (i := 82) rfl) rfl
theorem q_323 : Cond.code yX7_payDues cX7_payDues 4 (some .int) ∈ jAll := jm_2 (List.mem_of_getElem? (i := 83) rfl) rfl
theorem q_324 : Cond.methodLink RX7 88 yX4_has ∈ jAll := jm_2 (List.mem_of_getElem? (i := 84) rfl) rfl
theorem q_325 : Cond.instanceMethod yX4_has ∈ jAll := jm_2 (List.mem_of_getElem? (i := 85) rfl) rfl
theorem q_326 : Cond.selects RX4 yX4_has yX4_has ∈ jAll := jm_2 (List.mem_of_getElem? (i := 86) rfl) rfl
theorem q_327 : Cond.code yX4_has cX4_has 2 (Option.some FieldType.boolean) ∈ jAll := jm_2 (List.mem_of_getElem? (i := 87) rfl) rfl
theorem q_328 : Cond.constant RX7 92 (1000000 : Int32) ∈ jAll := jm_2 (List.mem_of_getElem? (i := 88) rfl) rfl
theorem q_329 : Cond.constant RX7 96 (100000000 : Int32) ∈ jAll := jm_2 (List.mem_of_getElem? (i := 89) rfl) rfl
theorem q_330 : Cond.methodLink RL 31 yX7_addInvoice ∈ jAll := jm_2 (List.mem_of_getElem? (i := 90) rfl) rfl
theorem q_331 : Cond.instanceMethod yX7_addInvoice ∈ jAll := jm_2 (List.mem_of_getElem? (i := 91) rfl) rfl
theorem q_332 : Cond.selects RX7 yX7_addInvoice yX7_addInvoice ∈ jAll := jm_2 (List.mem_of_getElem? (i := 92) rfl) rfl
theorem q_333 : Cond.code yX7_addInvoice cX7_addInvoice 5 (some .int) ∈ jAll := jm_2 (List.mem_of_getElem? (i := 93) rfl) rfl
theorem q_334 : Cond.methodLink RX7 104 yX1_has ∈ jAll := jm_2 (List.mem_of_getElem? (i := 94) rfl) rfl
theorem q_335 : Cond.instanceMethod yX1_has ∈ jAll := jm_2 (List.mem_of_getElem? (i := 95) rfl) rfl
theorem q_336 : Cond.selects RX1 yX1_has yX1_has ∈ jAll := jm_2 (List.mem_of_getElem? (i := 96) rfl) rfl
theorem q_337 : Cond.code yX1_has cX1_has 2 (Option.some FieldType.boolean) ∈ jAll := jm_2 (List.mem_of_getElem? (i := 97) rfl) rfl
theorem q_338 : Cond.methodLink RX7 114 yX3_append ∈ jAll := jm_2 (List.mem_of_getElem? (i := 98) rfl) rfl
theorem q_339 : Cond.instanceMethod yX3_append ∈ jAll := jm_2 (List.mem_of_getElem? (i := 99) rfl) rfl
theorem q_340 : Cond.selects RX3 yX3_append yX3_append ∈ jAll := jm_2 (List.mem_of_getElem? (i := 100) rfl) rfl
theorem q_341 : Cond.code yX3_append cX3_append 5 (some .int) ∈ jAll := jm_2 (List.mem_of_getElem? (i := 101) rfl) rfl
theorem q_342 : Cond.methodLink RL 36 yX7_payAhead ∈ jAll := jm_2 (List.mem_of_getElem? (i := 102) rfl) rfl
theorem q_343 : Cond.instanceMethod yX7_payAhead ∈ jAll := jm_2 (List.mem_of_getElem? (i := 103) rfl) rfl
theorem q_344 : Cond.selects RX7 yX7_payAhead yX7_payAhead ∈ jAll := jm_2 (List.mem_of_getElem? (i := 104) rfl) rfl
theorem q_345 : Cond.code yX7_payAhead cX7_payAhead 2 (some .int) ∈ jAll := jm_2 (List.mem_of_getElem? (i := 105) rfl) rfl
theorem q_346 : Cond.methodLink RX7 117 yX3_has ∈ jAll := jm_2 (List.mem_of_getElem? (i := 106) rfl) rfl
theorem q_347 : Cond.instanceMethod yX3_has ∈ jAll := jm_2 (List.mem_of_getElem? (i := 107) rfl) rfl
theorem q_348 : Cond.selects RX3 yX3_has yX3_has ∈ jAll := jm_2 (List.mem_of_getElem? (i := 108) rfl) rfl
theorem q_349 : Cond.code yX3_has cX3_has 2 (Option.some FieldType.boolean) ∈ jAll := jm_2 (List.mem_of_getElem? (i := 109) rfl) rfl
theorem q_350 : Cond.methodLink RX7 118 yX0_canPayAhead ∈ jAll := jm_2 (List.mem_of_getElem? (i := 110) rfl) rfl
theorem q_351 : Cond.instanceMethod yX0_canPayAhead ∈ jAll := jm_2 (List.mem_of_getElem? (i := 111) rfl) rfl
theorem q_352 : Cond.selects RX0 yX0_canPayAhead yX0_canPayAhead ∈ jAll := jm_2 (List.mem_of_getElem? (i := 112) rfl) rfl
theorem q_353 : Cond.code yX0_canPayAhead cX0_canPayAhead 3 (Option.some FieldType.boolean) ∈ jAll := jm_2 (List.mem_of_getElem? (i := 113) rfl) rfl
theorem q_354 : Cond.methodLink RX0 49 yX3_has ∈ jAll := jm_2 (List.mem_of_getElem? (i := 114) rfl) rfl
theorem q_355 : Cond.methodLink RX0 60 yX0_ageOf ∈ jAll := jm_2 (List.mem_of_getElem? (i := 115) rfl) rfl
theorem q_356 : Cond.instanceMethod yX0_ageOf ∈ jAll := jm_2 (List.mem_of_getElem? (i := 116) rfl) rfl
theorem q_357 : Cond.selects RX0 yX0_ageOf yX0_ageOf ∈ jAll := jm_2 (List.mem_of_getElem? (i := 117) rfl) rfl
theorem q_358 : Cond.code yX0_ageOf cX0_ageOf 2 (some .int) ∈ jAll := jm_2 (List.mem_of_getElem? (i := 118) rfl) rfl
theorem q_359 : Cond.methodLink RX0 86 yX0_offerAfter ∈ jAll := jm_2 (List.mem_of_getElem? (i := 119) rfl) rfl
theorem q_360 : Cond.instanceMethod yX0_offerAfter ∈ jAll := jm_2 (List.mem_of_getElem? (i := 120) rfl) rfl
theorem q_361 : Cond.selects RX0 yX0_offerAfter yX0_offerAfter ∈ jAll := jm_2 (List.mem_of_getElem? (i := 121) rfl) rfl
theorem q_362 : Cond.code yX0_offerAfter cX0_offerAfter 3 (some .int) ∈ jAll := jm_2 (List.mem_of_getElem? (i := 122) rfl) rfl
theorem q_363 : Cond.methodLink RX0 82 yX0_rateAfter ∈ jAll := jm_2 (List.mem_of_getElem? (i := 123) rfl) rfl
theorem q_364 : Cond.instanceMethod yX0_rateAfter ∈ jAll := jm_2 (List.mem_of_getElem? (i := 124) rfl) rfl
theorem q_365 : Cond.selects RX0 yX0_rateAfter yX0_rateAfter ∈ jAll := jm_2 (List.mem_of_getElem? (i := 125) rfl) rfl
theorem q_366 : Cond.code yX0_rateAfter cX0_rateAfter 5 (Option.some FieldType.float) ∈ jAll := jm_2 (List.mem_of_getElem? (i := 126) rfl) rfl
theorem q_368 : Cond.static yX7_noNumber ∈ jAll := jm_2 (List.mem_of_getElem? (i := 128) rfl) rfl
theorem q_369 : Cond.code yX7_noNumber cX7_noNumber 0 (Option.some FieldType.float) ∈ jAll := jm_2 (List.mem_of_getElem? (i := 129) rfl) rfl
theorem q_370 : Cond.constantFloat RX7 278 (2143289344 : UInt32) ∈ jAll := jm_2 (List.mem_of_getElem? (i := 130) rfl) rfl
theorem q_371 : Cond.methodLink RX0 68 yX0_lateAfter ∈ jAll := jm_2 (List.mem_of_getElem? (i := 131) rfl) rfl
theorem q_372 : Cond.instanceMethod yX0_lateAfter ∈ jAll := jm_2 (List.mem_of_getElem? (i := 132) rfl) rfl
theorem q_373 : Cond.selects RX0 yX0_lateAfter yX0_lateAfter ∈ jAll := jm_2 (List.mem_of_getElem? (i := 133) rfl) rfl
theorem q_374 : Cond.code yX0_lateAfter cX0_lateAfter 4 (some .int) ∈ jAll := jm_2 (List.mem_of_getElem? (i := 134) rfl) rfl
theorem q_375 : Cond.methodLink RX0 75 yX1_riskOf ∈ jAll := jm_2 (List.mem_of_getElem? (i := 135) rfl) rfl
theorem q_376 : Cond.instanceMethod yX1_riskOf ∈ jAll := jm_2 (List.mem_of_getElem? (i := 136) rfl) rfl
theorem q_377 : Cond.selects RX1 yX1_riskOf yX1_riskOf ∈ jAll := jm_2 (List.mem_of_getElem? (i := 137) rfl) rfl
theorem q_378 : Cond.code yX1_riskOf cX1_riskOf 2 (Option.some FieldType.float) ∈ jAll := jm_2 (List.mem_of_getElem? (i := 138) rfl) rfl
theorem q_379 : Cond.methodLink RX1 21 yX1_has ∈ jAll := jm_2 (List.mem_of_getElem? (i := 139) rfl) rfl
theorem q_381 : Cond.methodLink RX0 98 yX0_reserveCents ∈ jAll := jm_2 (List.mem_of_getElem? (i := 141) rfl) rfl
theorem q_382 : Cond.instanceMethod yX0_reserveCents ∈ jAll := jm_2 (List.mem_of_getElem? (i := 142) rfl) rfl
theorem q_383 : Cond.selects RX0 yX0_reserveCents yX0_reserveCents ∈ jAll := jm_2 (List.mem_of_getElem? (i := 143) rfl) rfl
theorem q_384 : Cond.code yX0_reserveCents cX0_reserveCents 1 (some .int) ∈ jAll := jm_2 (List.mem_of_getElem? (i := 144) rfl) rfl
theorem q_385 : Cond.methodLink RX0 43 yX4_allDues ∈ jAll := jm_2 (List.mem_of_getElem? (i := 145) rfl) rfl
theorem q_386 : Cond.instanceMethod yX4_allDues ∈ jAll := jm_2 (List.mem_of_getElem? (i := 146) rfl) rfl
theorem q_387 : Cond.selects RX4 yX4_allDues yX4_allDues ∈ jAll := jm_2 (List.mem_of_getElem? (i := 147) rfl) rfl
theorem q_388 : Cond.code yX4_allDues cX4_allDues 3 (some .int) ∈ jAll := jm_2 (List.mem_of_getElem? (i := 148) rfl) rfl
theorem q_389 : Cond.methodLink RX4 28 yX4_has ∈ jAll := jm_2 (List.mem_of_getElem? (i := 149) rfl) rfl
theorem q_390 : Cond.constantLong RX0 47 (100 : Int64) ∈ jAll := jm_2 (List.mem_of_getElem? (i := 150) rfl) rfl
theorem q_391 : Cond.methodLink RX7 121 yX0_advance ∈ jAll := jm_2 (List.mem_of_getElem? (i := 151) rfl) rfl
theorem q_392 : Cond.instanceMethod yX0_advance ∈ jAll := jm_2 (List.mem_of_getElem? (i := 152) rfl) rfl
theorem q_393 : Cond.selects RX0 yX0_advance yX0_advance ∈ jAll := jm_2 (List.mem_of_getElem? (i := 153) rfl) rfl
theorem q_394 : Cond.code yX0_advance cX0_advance 3 (some .int) ∈ jAll := jm_2 (List.mem_of_getElem? (i := 154) rfl) rfl
theorem q_395 : Cond.methodLink RX0 110 yX4_intoPurse ∈ jAll := jm_2 (List.mem_of_getElem? (i := 155) rfl) rfl
theorem q_396 : Cond.instanceMethod yX4_intoPurse ∈ jAll := jm_2 (List.mem_of_getElem? (i := 156) rfl) rfl
theorem q_397 : Cond.selects RX4 yX4_intoPurse yX4_intoPurse ∈ jAll := jm_2 (List.mem_of_getElem? (i := 157) rfl) rfl
theorem q_398 : Cond.code yX4_intoPurse cX4_intoPurse 3 (none : Option FieldType) ∈ jAll := jm_2 (List.mem_of_getElem? (i := 158) rfl) rfl
theorem q_399 : Cond.methodLink RL 40 yX7_pay ∈ jAll := jm_2 (List.mem_of_getElem? (i := 159) rfl) rfl
theorem q_400 : Cond.instanceMethod yX7_pay ∈ jAll := jm_2 (List.mem_of_getElem? (i := 160) rfl) rfl
theorem q_401 : Cond.selects RX7 yX7_pay yX7_pay ∈ jAll := jm_2 (List.mem_of_getElem? (i := 161) rfl) rfl
theorem q_402 : Cond.code yX7_pay cX7_pay 4 (some .int) ∈ jAll := jm_2 (List.mem_of_getElem? (i := 162) rfl) rfl
theorem q_403 : Cond.methodLink RX7 124 yX0_errorOfPayment ∈ jAll := jm_2 (List.mem_of_getElem? (i := 163) rfl) rfl
theorem q_404 : Cond.instanceMethod yX0_errorOfPayment ∈ jAll := jm_2 (List.mem_of_getElem? (i := 164) rfl) rfl
theorem q_405 : Cond.selects RX0 yX0_errorOfPayment yX0_errorOfPayment ∈ jAll := jm_2 (List.mem_of_getElem? (i := 165) rfl) rfl
theorem q_406 : Cond.code yX0_errorOfPayment cX0_errorOfPayment 4 (some .int) ∈ jAll := jm_2 (List.mem_of_getElem? (i := 166) rfl) rfl
theorem q_407 : Cond.methodLink RX0 101 yX3_isUnsettled ∈ jAll := jm_2 (List.mem_of_getElem? (i := 167) rfl) rfl
theorem q_408 : Cond.instanceMethod yX3_isUnsettled ∈ jAll := jm_2 (List.mem_of_getElem? (i := 168) rfl) rfl
theorem q_409 : Cond.selects RX3 yX3_isUnsettled yX3_isUnsettled ∈ jAll := jm_2 (List.mem_of_getElem? (i := 169) rfl) rfl
theorem q_410 : Cond.code yX3_isUnsettled cX3_isUnsettled 2 (Option.some FieldType.boolean) ∈ jAll := jm_2 (List.mem_of_getElem? (i := 170) rfl) rfl
theorem q_411 : Cond.methodLink RX3 37 yX3_has ∈ jAll := jm_2 (List.mem_of_getElem? (i := 171) rfl) rfl
theorem q_412 : Cond.methodLink RX7 128 yX0_collect ∈ jAll := jm_2 (List.mem_of_getElem? (i := 172) rfl) rfl
theorem q_413 : Cond.instanceMethod yX0_collect ∈ jAll := jm_2 (List.mem_of_getElem? (i := 173) rfl) rfl
theorem q_414 : Cond.selects RX0 yX0_collect yX0_collect ∈ jAll := jm_2 (List.mem_of_getElem? (i := 174) rfl) rfl
theorem q_415 : Cond.code yX0_collect cX0_collect 4 (some .int) ∈ jAll := jm_2 (List.mem_of_getElem? (i := 175) rfl) rfl
theorem q_416 : Cond.methodLink RX0 120 yX0_settle ∈ jAll := jm_2 (List.mem_of_getElem? (i := 176) rfl) rfl
theorem q_417 : Cond.instanceMethod yX0_settle ∈ jAll := jm_2 (List.mem_of_getElem? (i := 177) rfl) rfl
theorem q_418 : Cond.selects RX0 yX0_settle yX0_settle ∈ jAll := jm_2 (List.mem_of_getElem? (i := 178) rfl) rfl
theorem q_419 : Cond.code yX0_settle cX0_settle 2 (none : Option FieldType) ∈ jAll := jm_2 (List.mem_of_getElem? (i := 179) rfl) rfl
theorem q_420 : Cond.methodLink RX0 124 yX0_passOn ∈ jAll := jm_2 (List.mem_of_getElem? (i := 180) rfl) rfl
theorem q_421 : Cond.instanceMethod yX0_passOn ∈ jAll := jm_2 (List.mem_of_getElem? (i := 181) rfl) rfl
theorem q_422 : Cond.selects RX0 yX0_passOn yX0_passOn ∈ jAll := jm_2 (List.mem_of_getElem? (i := 182) rfl) rfl
theorem q_423 : Cond.code yX0_passOn cX0_passOn 4 (none : Option FieldType) ∈ jAll := jm_2 (List.mem_of_getElem? (i := 183) rfl) rfl
theorem q_424 : Cond.methodLink RX0 127 yX1_addSettled ∈ jAll := jm_2 (List.mem_of_getElem? (i := 184) rfl) rfl
theorem q_425 : Cond.instanceMethod yX1_addSettled ∈ jAll := jm_2 (List.mem_of_getElem? (i := 185) rfl) rfl
theorem q_426 : Cond.selects RX1 yX1_addSettled yX1_addSettled ∈ jAll := jm_2 (List.mem_of_getElem? (i := 186) rfl) rfl
theorem q_427 : Cond.code yX1_addSettled cX1_addSettled 3 (none : Option FieldType) ∈ jAll := jm_2 (List.mem_of_getElem? (i := 187) rfl) rfl
theorem q_428 : Cond.methodLink RL 44 yX7_giveUp ∈ jAll := jm_2 (List.mem_of_getElem? (i := 188) rfl) rfl
theorem q_429 : Cond.instanceMethod yX7_giveUp ∈ jAll := jm_2 (List.mem_of_getElem? (i := 189) rfl) rfl
theorem q_430 : Cond.selects RX7 yX7_giveUp yX7_giveUp ∈ jAll := jm_2 (List.mem_of_getElem? (i := 190) rfl) rfl
theorem q_431 : Cond.code yX7_giveUp cX7_giveUp 2 (some .int) ∈ jAll := jm_2 (List.mem_of_getElem? (i := 191) rfl) rfl
theorem q_432 : Cond.methodLink RX7 131 yX0_canGiveUp ∈ jAll := jm_2 (List.mem_of_getElem? (i := 192) rfl) rfl
theorem q_433 : Cond.instanceMethod yX0_canGiveUp ∈ jAll := jm_2 (List.mem_of_getElem? (i := 193) rfl) rfl
theorem q_434 : Cond.selects RX0 yX0_canGiveUp yX0_canGiveUp ∈ jAll := jm_2 (List.mem_of_getElem? (i := 194) rfl) rfl
theorem q_435 : Cond.code yX0_canGiveUp cX0_canGiveUp 2 (Option.some FieldType.boolean) ∈ jAll := jm_2 (List.mem_of_getElem? (i := 195) rfl) rfl
theorem q_436 : Cond.methodLink RX7 134 yX0_lose ∈ jAll := jm_2 (List.mem_of_getElem? (i := 196) rfl) rfl
theorem q_437 : Cond.instanceMethod yX0_lose ∈ jAll := jm_2 (List.mem_of_getElem? (i := 197) rfl) rfl
theorem q_438 : Cond.selects RX0 yX0_lose yX0_lose ∈ jAll := jm_2 (List.mem_of_getElem? (i := 198) rfl) rfl
theorem q_439 : Cond.code yX0_lose cX0_lose 4 (some .int) ∈ jAll := jm_2 (List.mem_of_getElem? (i := 199) rfl) rfl
theorem q_440 : Cond.methodLink RX0 133 yX1_addLost ∈ jAll := jm_2 (List.mem_of_getElem? (i := 200) rfl) rfl
theorem q_441 : Cond.instanceMethod yX1_addLost ∈ jAll := jm_2 (List.mem_of_getElem? (i := 201) rfl) rfl
theorem q_442 : Cond.selects RX1 yX1_addLost yX1_addLost ∈ jAll := jm_2 (List.mem_of_getElem? (i := 202) rfl) rfl
theorem q_443 : Cond.code yX1_addLost cX1_addLost 2 (none : Option FieldType) ∈ jAll := jm_2 (List.mem_of_getElem? (i := 203) rfl) rfl
theorem q_444 : Cond.methodLink RX0 136 yX0_share ∈ jAll := jm_2 (List.mem_of_getElem? (i := 204) rfl) rfl
theorem q_445 : Cond.instanceMethod yX0_share ∈ jAll := jm_2 (List.mem_of_getElem? (i := 205) rfl) rfl
theorem q_446 : Cond.selects RX0 yX0_share yX0_share ∈ jAll := jm_2 (List.mem_of_getElem? (i := 206) rfl) rfl
theorem q_447 : Cond.code yX0_share cX0_share 8 (none : Option FieldType) ∈ jAll := jm_2 (List.mem_of_getElem? (i := 207) rfl) rfl
theorem q_448 : Cond.methodLink RX0 139 yX4_allWeights ∈ jAll := jm_2 (List.mem_of_getElem? (i := 208) rfl) rfl
theorem q_449 : Cond.instanceMethod yX4_allWeights ∈ jAll := jm_2 (List.mem_of_getElem? (i := 209) rfl) rfl
theorem q_450 : Cond.selects RX4 yX4_allWeights yX4_allWeights ∈ jAll := jm_2 (List.mem_of_getElem? (i := 210) rfl) rfl
theorem q_451 : Cond.code yX4_allWeights cX4_allWeights 3 (some .int) ∈ jAll := jm_2 (List.mem_of_getElem? (i := 211) rfl) rfl
theorem q_452 : Cond.methodLink RX0 142 yX4_has ∈ jAll := jm_2 (List.mem_of_getElem? (i := 212) rfl) rfl
theorem q_453 : Cond.methodLink RX0 146 yX4_bear ∈ jAll := jm_2 (List.mem_of_getElem? (i := 213) rfl) rfl
theorem q_454 : Cond.instanceMethod yX4_bear ∈ jAll := jm_2 (List.mem_of_getElem? (i := 214) rfl) rfl
theorem q_455 : Cond.selects RX4 yX4_bear yX4_bear ∈ jAll := jm_2 (List.mem_of_getElem? (i := 215) rfl) rfl
theorem q_456 : Cond.code yX4_bear cX4_bear 3 (none : Option FieldType) ∈ jAll := jm_2 (List.mem_of_getElem? (i := 216) rfl) rfl
theorem q_457 : Cond.methodLink RL 48 yX7_readPayments ∈ jAll := jm_2 (List.mem_of_getElem? (i := 217) rfl) rfl
theorem q_458 : Cond.instanceMethod yX7_readPayments ∈ jAll := jm_2 (List.mem_of_getElem? (i := 218) rfl) rfl
theorem q_459 : Cond.selects RX7 yX7_readPayments yX7_readPayments ∈ jAll := jm_2 (List.mem_of_getElem? (i := 219) rfl) rfl
theorem q_460 : Cond.code yX7_readPayments cX7_readPayments 7 (some .int) ∈ jAll := jm_2 (List.mem_of_getElem? (i := 220) rfl) rfl
theorem q_461 : Cond.methodLink RX7 137 yX6_read ∈ jAll := jm_2 (List.mem_of_getElem? (i := 221) rfl) rfl
theorem q_462 : Cond.instanceMethod yX6_read ∈ jAll := jm_2 (List.mem_of_getElem? (i := 222) rfl) rfl
theorem q_463 : Cond.selects RX6 yX6_read yX6_read ∈ jAll := jm_2 (List.mem_of_getElem? (i := 223) rfl) rfl
theorem q_464 : Cond.code yX6_read cX6_read 3 (some .int) ∈ jAll := jm_2 (List.mem_of_getElem? (i := 224) rfl) rfl
theorem q_465 : Cond.methodLink RX6 29 yX6_placeBehind ∈ jAll := jm_2 (List.mem_of_getElem? (i := 225) rfl) rfl
theorem q_466 : Cond.static yX6_placeBehind ∈ jAll := jm_2 (List.mem_of_getElem? (i := 226) rfl) rfl
theorem q_467 : Cond.code yX6_placeBehind cX6_placeBehind 3 (some .int) ∈ jAll := jm_2 (List.mem_of_getElem? (i := 227) rfl) rfl
theorem q_468 : Cond.methodLink RX6 33 yX6_readNumbers ∈ jAll := jm_2 (List.mem_of_getElem? (i := 228) rfl) rfl
theorem q_470 : Cond.instanceMethod yX6_readNumbers ∈ jAll := jm_2 (List.mem_of_getElem? (i := 230) rfl) rfl
theorem q_471 : Cond.code yX6_readNumbers cX6_readNumbers 5 (none : Option FieldType) ∈ jAll := jm_2 (List.mem_of_getElem? (i := 231) rfl) rfl
theorem q_472 : Cond.methodLink RX7 141 yX0_copyFrom ∈ jAll := jm_2 (List.mem_of_getElem? (i := 232) rfl) rfl
theorem q_473 : Cond.methodLink RX7 147 yX6_invoiceOf ∈ jAll := jm_2 (List.mem_of_getElem? (i := 233) rfl) rfl
theorem q_474 : Cond.instanceMethod yX6_invoiceOf ∈ jAll := jm_2 (List.mem_of_getElem? (i := 234) rfl) rfl
theorem q_475 : Cond.selects RX6 yX6_invoiceOf yX6_invoiceOf ∈ jAll := jm_2 (List.mem_of_getElem? (i := 235) rfl) rfl
theorem q_476 : Cond.code yX6_invoiceOf cX6_invoiceOf 2 (some .int) ∈ jAll := jm_2 (List.mem_of_getElem? (i := 236) rfl) rfl
theorem q_477 : Cond.methodLink RX7 150 yX6_centsOf ∈ jAll := jm_2 (List.mem_of_getElem? (i := 237) rfl) rfl
theorem q_478 : Cond.instanceMethod yX6_centsOf ∈ jAll := jm_2 (List.mem_of_getElem? (i := 238) rfl) rfl
theorem q_479 : Cond.selects RX6 yX6_centsOf yX6_centsOf ∈ jAll := jm_2 (List.mem_of_getElem? (i := 239) rfl) rfl
theorem q_480 : Cond.code yX6_centsOf cX6_centsOf 2 (some .int) ∈ jAll := jm_3 (List.mem_of_getElem? (i := 0) rfl) rfl
theorem q_481 : Cond.methodLink RL 53 yX7_refusal ∈ jAll := jm_3 (List.mem_of_getElem? (i := 1) rfl) rfl
theorem q_482 : Cond.instanceMethod yX7_refusal ∈ jAll := jm_3 (List.mem_of_getElem? (i := 2) rfl) rfl
theorem q_483 : Cond.selects RX7 yX7_refusal yX7_refusal ∈ jAll := jm_3 (List.mem_of_getElem? (i := 3) rfl) rfl
theorem q_484 : Cond.code yX7_refusal cX7_refusal 2 (some .int) ∈ jAll := jm_3 (List.mem_of_getElem? (i := 4) rfl) rfl
theorem q_485 : Cond.methodLink RL 57 yX7_pass ∈ jAll := jm_3 (List.mem_of_getElem? (i := 5) rfl) rfl
theorem q_486 : Cond.instanceMethod yX7_pass ∈ jAll := jm_3 (List.mem_of_getElem? (i := 6) rfl) rfl
theorem q_487 : Cond.selects RX7 yX7_pass yX7_pass ∈ jAll := jm_3 (List.mem_of_getElem? (i := 7) rfl) rfl
theorem q_488 : Cond.code yX7_pass cX7_pass 2 (some .int) ∈ jAll := jm_3 (List.mem_of_getElem? (i := 8) rfl) rfl
theorem q_489 : Cond.constant RX7 159 (99999 : Int32) ∈ jAll := jm_3 (List.mem_of_getElem? (i := 9) rfl) rfl
theorem q_490 : Cond.methodLink RL 61 yX7_type ∈ jAll := jm_3 (List.mem_of_getElem? (i := 10) rfl) rfl
theorem q_491 : Cond.instanceMethod yX7_type ∈ jAll := jm_3 (List.mem_of_getElem? (i := 11) rfl) rfl
theorem q_492 : Cond.selects RX7 yX7_type yX7_type ∈ jAll := jm_3 (List.mem_of_getElem? (i := 12) rfl) rfl
theorem q_493 : Cond.code yX7_type cX7_type 2 (some .int) ∈ jAll := jm_3 (List.mem_of_getElem? (i := 13) rfl) rfl
theorem q_494 : Cond.methodLink RX7 160 yX6_append ∈ jAll := jm_3 (List.mem_of_getElem? (i := 14) rfl) rfl
theorem q_495 : Cond.instanceMethod yX6_append ∈ jAll := jm_3 (List.mem_of_getElem? (i := 15) rfl) rfl
theorem q_496 : Cond.selects RX6 yX6_append yX6_append ∈ jAll := jm_3 (List.mem_of_getElem? (i := 16) rfl) rfl
theorem q_497 : Cond.code yX6_append cX6_append 2 (some .int) ∈ jAll := jm_3 (List.mem_of_getElem? (i := 17) rfl) rfl
theorem q_498 : Cond.methodLink RL 66 yX7_clearText ∈ jAll := jm_3 (List.mem_of_getElem? (i := 18) rfl) rfl
theorem q_499 : Cond.instanceMethod yX7_clearText ∈ jAll := jm_3 (List.mem_of_getElem? (i := 19) rfl) rfl
theorem q_500 : Cond.selects RX7 yX7_clearText yX7_clearText ∈ jAll := jm_3 (List.mem_of_getElem? (i := 20) rfl) rfl
theorem q_501 : Cond.code yX7_clearText cX7_clearText 2 (some .int) ∈ jAll := jm_3 (List.mem_of_getElem? (i := 21) rfl) rfl
theorem q_502 : Cond.methodLink RL 70 yX7_undo ∈ jAll := jm_3 (List.mem_of_getElem? (i := 22) rfl) rfl
theorem q_503 : Cond.instanceMethod yX7_undo ∈ jAll := jm_3 (List.mem_of_getElem? (i := 23) rfl) rfl
theorem q_504 : Cond.selects RX7 yX7_undo yX7_undo ∈ jAll := jm_3 (List.mem_of_getElem? (i := 24) rfl) rfl
theorem q_505 : Cond.code yX7_undo cX7_undo 1 (some .int) ∈ jAll := jm_3 (List.mem_of_getElem? (i := 25) rfl) rfl
theorem q_506 : Cond.methodLink RX7 167 yX2_popInto ∈ jAll := jm_3 (List.mem_of_getElem? (i := 26) rfl) rfl
theorem q_507 : Cond.instanceMethod yX2_popInto ∈ jAll := jm_3 (List.mem_of_getElem? (i := 27) rfl) rfl
theorem q_508 : Cond.selects RX2 yX2_popInto yX2_popInto ∈ jAll := jm_3 (List.mem_of_getElem? (i := 28) rfl) rfl
theorem q_509 : Cond.code yX2_popInto cX2_popInto 2 (none : Option FieldType) ∈ jAll := jm_3 (List.mem_of_getElem? (i := 29) rfl) rfl
theorem q_510 : Cond.methodLink RL 74 yX7_keep ∈ jAll := jm_3 (List.mem_of_getElem? (i := 30) rfl) rfl
theorem q_511 : Cond.instanceMethod yX7_keep ∈ jAll := jm_3 (List.mem_of_getElem? (i := 31) rfl) rfl
theorem q_512 : Cond.selects RX7 yX7_keep yX7_keep ∈ jAll := jm_3 (List.mem_of_getElem? (i := 32) rfl) rfl
theorem q_513 : Cond.code yX7_keep cX7_keep 1 (some .int) ∈ jAll := jm_3 (List.mem_of_getElem? (i := 33) rfl) rfl
theorem q_514 : Cond.methodLink RL 78 yX7_restore ∈ jAll := jm_3 (List.mem_of_getElem? (i := 34) rfl) rfl
theorem q_515 : Cond.instanceMethod yX7_restore ∈ jAll := jm_3 (List.mem_of_getElem? (i := 35) rfl) rfl
theorem q_516 : Cond.selects RX7 yX7_restore yX7_restore ∈ jAll := jm_3 (List.mem_of_getElem? (i := 36) rfl) rfl
theorem q_517 : Cond.code yX7_restore cX7_restore 1 (some .int) ∈ jAll := jm_3 (List.mem_of_getElem? (i := 37) rfl) rfl
theorem q_518 : Cond.methodLink RL 82 yX7_rate ∈ jAll := jm_3 (List.mem_of_getElem? (i := 38) rfl) rfl
theorem q_519 : Cond.instanceMethod yX7_rate ∈ jAll := jm_3 (List.mem_of_getElem? (i := 39) rfl) rfl
theorem q_520 : Cond.selects RX7 yX7_rate yX7_rate ∈ jAll := jm_3 (List.mem_of_getElem? (i := 40) rfl) rfl
theorem q_521 : Cond.code yX7_rate cX7_rate 2 (Option.some FieldType.float) ∈ jAll := jm_3 (List.mem_of_getElem? (i := 41) rfl) rfl
theorem q_522 : Cond.methodLink RX7 174 yX7_noNumber ∈ jAll := jm_3 (List.mem_of_getElem? (i := 42) rfl) rfl
theorem q_523 : Cond.methodLink RL 87 yX7_number ∈ jAll := jm_3 (List.mem_of_getElem? (i := 43) rfl) rfl
theorem q_524 : Cond.instanceMethod yX7_number ∈ jAll := jm_3 (List.mem_of_getElem? (i := 44) rfl) rfl
theorem q_525 : Cond.selects RX7 yX7_number yX7_number ∈ jAll := jm_3 (List.mem_of_getElem? (i := 45) rfl) rfl
theorem q_526 : Cond.code yX7_number cX7_number 2 (some .int) ∈ jAll := jm_3 (List.mem_of_getElem? (i := 46) rfl) rfl
theorem q_527 : Cond.methodLink RL 91 yX7_member ∈ jAll := jm_3 (List.mem_of_getElem? (i := 47) rfl) rfl
theorem q_528 : Cond.instanceMethod yX7_member ∈ jAll := jm_3 (List.mem_of_getElem? (i := 48) rfl) rfl
theorem q_529 : Cond.selects RX7 yX7_member yX7_member ∈ jAll := jm_3 (List.mem_of_getElem? (i := 49) rfl) rfl
theorem q_530 : Cond.code yX7_member cX7_member 4 (some .int) ∈ jAll := jm_3 (List.mem_of_getElem? (i := 50) rfl) rfl
theorem q_531 : Cond.constant RX7 184 (1000000000 : Int32) ∈ jAll := jm_3 (List.mem_of_getElem? (i := 51) rfl) rfl
theorem q_532 : Cond.methodLink RX7 185 yX3_countOfMember ∈ jAll := jm_3 (List.mem_of_getElem? (i := 52) rfl) rfl
theorem q_533 : Cond.instanceMethod yX3_countOfMember ∈ jAll := jm_3 (List.mem_of_getElem? (i := 53) rfl) rfl
theorem q_534 : Cond.selects RX3 yX3_countOfMember yX3_countOfMember ∈ jAll := jm_3 (List.mem_of_getElem? (i := 54) rfl) rfl
theorem q_535 : Cond.code yX3_countOfMember cX3_countOfMember 4 (some .int) ∈ jAll := jm_3 (List.mem_of_getElem? (i := 55) rfl) rfl
theorem q_536 : Cond.methodLink RX7 188 yX3_countOfMemberAhead ∈ jAll := jm_3 (List.mem_of_getElem? (i := 56) rfl) rfl
theorem q_537 : Cond.instanceMethod yX3_countOfMemberAhead ∈ jAll := jm_3 (List.mem_of_getElem? (i := 57) rfl) rfl
theorem q_538 : Cond.selects RX3 yX3_countOfMemberAhead yX3_countOfMemberAhead ∈ jAll := jm_3 (List.mem_of_getElem? (i := 58) rfl) rfl
theorem q_539 : Cond.code yX3_countOfMemberAhead cX3_countOfMemberAhead 4 (some .int) ∈ jAll := jm_3 (List.mem_of_getElem? (i := 59) rfl) rfl
theorem q_540 : Cond.methodLink RL 95 yX7_client ∈ jAll := jm_3 (List.mem_of_getElem? (i := 60) rfl) rfl
theorem q_541 : Cond.instanceMethod yX7_client ∈ jAll := jm_3 (List.mem_of_getElem? (i := 61) rfl) rfl
theorem q_542 : Cond.selects RX7 yX7_client yX7_client ∈ jAll := jm_3 (List.mem_of_getElem? (i := 62) rfl) rfl
theorem q_543 : Cond.code yX7_client cX7_client 4 (some .int) ∈ jAll := jm_3 (List.mem_of_getElem? (i := 63) rfl) rfl
theorem q_544 : Cond.methodLink RX7 203 yX3_countOfClientUnsettled ∈ jAll := jm_3 (List.mem_of_getElem? (i := 64) rfl) rfl
theorem q_545 : Cond.instanceMethod yX3_countOfClientUnsettled ∈ jAll := jm_3 (List.mem_of_getElem? (i := 65) rfl) rfl
theorem q_546 : Cond.selects RX3 yX3_countOfClientUnsettled yX3_countOfClientUnsettled ∈ jAll := jm_3 (List.mem_of_getElem? (i := 66) rfl) rfl
theorem q_547 : Cond.code yX3_countOfClientUnsettled cX3_countOfClientUnsettled 4 (some .int) ∈ jAll := jm_3 (List.mem_of_getElem? (i := 67) rfl) rfl
theorem q_548 : Cond.methodLink RX3 41 yX3_isUnsettled ∈ jAll := jm_3 (List.mem_of_getElem? (i := 68) rfl) rfl
theorem q_549 : Cond.methodLink RL 99 yX7_risk ∈ jAll := jm_3 (List.mem_of_getElem? (i := 69) rfl) rfl
theorem q_550 : Cond.instanceMethod yX7_risk ∈ jAll := jm_3 (List.mem_of_getElem? (i := 70) rfl) rfl
theorem q_551 : Cond.selects RX7 yX7_risk yX7_risk ∈ jAll := jm_3 (List.mem_of_getElem? (i := 71) rfl) rfl
theorem q_552 : Cond.code yX7_risk cX7_risk 2 (Option.some FieldType.float) ∈ jAll := jm_3 (List.mem_of_getElem? (i := 72) rfl) rfl
theorem q_553 : Cond.methodLink RX7 206 yX1_riskOf ∈ jAll := jm_3 (List.mem_of_getElem? (i := 73) rfl) rfl
theorem q_554 : Cond.methodLink RL 103 yX7_lateness ∈ jAll := jm_3 (List.mem_of_getElem? (i := 74) rfl) rfl
theorem q_555 : Cond.instanceMethod yX7_lateness ∈ jAll := jm_3 (List.mem_of_getElem? (i := 75) rfl) rfl
theorem q_556 : Cond.selects RX7 yX7_lateness yX7_lateness ∈ jAll := jm_3 (List.mem_of_getElem? (i := 76) rfl) rfl
theorem q_557 : Cond.code yX7_lateness cX7_lateness 2 (Option.some FieldType.float) ∈ jAll := jm_3 (List.mem_of_getElem? (i := 77) rfl) rfl
theorem q_558 : Cond.methodLink RX7 209 yX1_latenessOf ∈ jAll := jm_3 (List.mem_of_getElem? (i := 78) rfl) rfl
theorem q_559 : Cond.instanceMethod yX1_latenessOf ∈ jAll := jm_3 (List.mem_of_getElem? (i := 79) rfl) rfl
theorem q_560 : Cond.selects RX1 yX1_latenessOf yX1_latenessOf ∈ jAll := jm_3 (List.mem_of_getElem? (i := 80) rfl) rfl
theorem q_561 : Cond.code yX1_latenessOf cX1_latenessOf 2 (Option.some FieldType.float) ∈ jAll := jm_3 (List.mem_of_getElem? (i := 81) rfl) rfl
theorem q_562 : Cond.methodLink RL 107 yX7_invoice ∈ jAll := jm_3 (List.mem_of_getElem? (i := 82) rfl) rfl
theorem q_563 : Cond.instanceMethod yX7_invoice ∈ jAll := jm_3 (List.mem_of_getElem? (i := 83) rfl) rfl
theorem q_564 : Cond.selects RX7 yX7_invoice yX7_invoice ∈ jAll := jm_3 (List.mem_of_getElem? (i := 84) rfl) rfl
theorem q_565 : Cond.code yX7_invoice cX7_invoice 4 (some .int) ∈ jAll := jm_3 (List.mem_of_getElem? (i := 85) rfl) rfl
theorem q_566 : Cond.methodLink RX7 232 yX0_ageOf ∈ jAll := jm_3 (List.mem_of_getElem? (i := 86) rfl) rfl
theorem q_567 : Cond.constant RX7 235 (100000 : Int32) ∈ jAll := jm_3 (List.mem_of_getElem? (i := 87) rfl) rfl
theorem q_568 : Cond.methodLink RX7 236 yX0_offerAfter ∈ jAll := jm_3 (List.mem_of_getElem? (i := 88) rfl) rfl
theorem q_569 : Cond.methodLink RL 111 yX7_rateIn ∈ jAll := jm_3 (List.mem_of_getElem? (i := 89) rfl) rfl
theorem q_570 : Cond.instanceMethod yX7_rateIn ∈ jAll := jm_3 (List.mem_of_getElem? (i := 90) rfl) rfl
theorem q_571 : Cond.selects RX7 yX7_rateIn yX7_rateIn ∈ jAll := jm_3 (List.mem_of_getElem? (i := 91) rfl) rfl
theorem q_572 : Cond.code yX7_rateIn cX7_rateIn 3 (Option.some FieldType.float) ∈ jAll := jm_3 (List.mem_of_getElem? (i := 92) rfl) rfl
theorem q_573 : Cond.methodLink RX7 239 yX0_rateAfter ∈ jAll := jm_3 (List.mem_of_getElem? (i := 93) rfl) rfl
theorem q_574 : Cond.methodLink RL 116 yX7_worth ∈ jAll := jm_3 (List.mem_of_getElem? (i := 94) rfl) rfl
theorem q_575 : Cond.instanceMethod yX7_worth ∈ jAll := jm_3 (List.mem_of_getElem? (i := 95) rfl) rfl
theorem q_576 : Cond.selects RX7 yX7_worth yX7_worth ∈ jAll := jm_3 (List.mem_of_getElem? (i := 96) rfl) rfl
theorem q_577 : Cond.code yX7_worth cX7_worth 2 (Option.some FieldType.float) ∈ jAll := jm_3 (List.mem_of_getElem? (i := 97) rfl) rfl
theorem q_578 : Cond.methodLink RX7 243 yX0_worthOf ∈ jAll := jm_3 (List.mem_of_getElem? (i := 98) rfl) rfl
theorem q_579 : Cond.instanceMethod yX0_worthOf ∈ jAll := jm_3 (List.mem_of_getElem? (i := 99) rfl) rfl
theorem q_580 : Cond.selects RX0 yX0_worthOf yX0_worthOf ∈ jAll := jm_3 (List.mem_of_getElem? (i := 100) rfl) rfl
theorem q_581 : Cond.code yX0_worthOf cX0_worthOf 5 (Option.some FieldType.float) ∈ jAll := jm_3 (List.mem_of_getElem? (i := 101) rfl) rfl
theorem q_582 : Cond.methodLink RL 120 yX7_best ∈ jAll := jm_3 (List.mem_of_getElem? (i := 102) rfl) rfl
theorem q_583 : Cond.instanceMethod yX7_best ∈ jAll := jm_3 (List.mem_of_getElem? (i := 103) rfl) rfl
theorem q_584 : Cond.selects RX7 yX7_best yX7_best ∈ jAll := jm_3 (List.mem_of_getElem? (i := 104) rfl) rfl
theorem q_585 : Cond.code yX7_best cX7_best 3 (some .int) ∈ jAll := jm_3 (List.mem_of_getElem? (i := 105) rfl) rfl
theorem q_586 : Cond.methodLink RX7 247 yX5_insert ∈ jAll := jm_3 (List.mem_of_getElem? (i := 106) rfl) rfl
theorem q_587 : Cond.instanceMethod yX5_insert ∈ jAll := jm_3 (List.mem_of_getElem? (i := 107) rfl) rfl
theorem q_588 : Cond.selects RX5 yX5_insert yX5_insert ∈ jAll := jm_3 (List.mem_of_getElem? (i := 108) rfl) rfl
theorem q_589 : Cond.code yX5_insert cX5_insert 4 (none : Option FieldType) ∈ jAll := jm_3 (List.mem_of_getElem? (i := 109) rfl) rfl
theorem q_590 : Cond.methodLink RX7 251 yX5_invoiceAt ∈ jAll := jm_3 (List.mem_of_getElem? (i := 110) rfl) rfl
theorem q_591 : Cond.instanceMethod yX5_invoiceAt ∈ jAll := jm_3 (List.mem_of_getElem? (i := 111) rfl) rfl
theorem q_592 : Cond.selects RX5 yX5_invoiceAt yX5_invoiceAt ∈ jAll := jm_3 (List.mem_of_getElem? (i := 112) rfl) rfl
theorem q_593 : Cond.code yX5_invoiceAt cX5_invoiceAt 2 (some .int) ∈ jAll := jm_3 (List.mem_of_getElem? (i := 113) rfl) rfl
theorem q_594 : Cond.methodLink RL 124 yX7_worthlessIn ∈ jAll := jm_3 (List.mem_of_getElem? (i := 114) rfl) rfl
theorem q_595 : Cond.instanceMethod yX7_worthlessIn ∈ jAll := jm_3 (List.mem_of_getElem? (i := 115) rfl) rfl
theorem q_596 : Cond.selects RX7 yX7_worthlessIn yX7_worthlessIn ∈ jAll := jm_3 (List.mem_of_getElem? (i := 116) rfl) rfl
theorem q_597 : Cond.code yX7_worthlessIn cX7_worthlessIn 3 (some .int) ∈ jAll := jm_3 (List.mem_of_getElem? (i := 117) rfl) rfl
theorem q_598 : Cond.methodLink RL 128 yX7_exposure ∈ jAll := jm_3 (List.mem_of_getElem? (i := 118) rfl) rfl
theorem q_599 : Cond.instanceMethod yX7_exposure ∈ jAll := jm_3 (List.mem_of_getElem? (i := 119) rfl) rfl
theorem q_600 : Cond.selects RX7 yX7_exposure yX7_exposure ∈ jAll := jm_3 (List.mem_of_getElem? (i := 120) rfl) rfl
theorem q_601 : Cond.code yX7_exposure cX7_exposure 2 (Option.some FieldType.float) ∈ jAll := jm_3 (List.mem_of_getElem? (i := 121) rfl) rfl
theorem q_602 : Cond.methodLink RX7 254 yX4_allDues ∈ jAll := jm_3 (List.mem_of_getElem? (i := 122) rfl) rfl
theorem q_603 : Cond.methodLink RX7 257 yX3_advancesOut ∈ jAll := jm_3 (List.mem_of_getElem? (i := 123) rfl) rfl
theorem q_604 : Cond.instanceMethod yX3_advancesOut ∈ jAll := jm_3 (List.mem_of_getElem? (i := 124) rfl) rfl
theorem q_605 : Cond.selects RX3 yX3_advancesOut yX3_advancesOut ∈ jAll := jm_3 (List.mem_of_getElem? (i := 125) rfl) rfl
theorem q_606 : Cond.code yX3_advancesOut cX3_advancesOut 3 (some .int) ∈ jAll := jm_3 (List.mem_of_getElem? (i := 126) rfl) rfl
theorem q_607 : Cond.methodLink RL 133 yX7_count ∈ jAll := jm_3 (List.mem_of_getElem? (i := 127) rfl) rfl
theorem q_608 : Cond.instanceMethod yX7_count ∈ jAll := jm_3 (List.mem_of_getElem? (i := 128) rfl) rfl
theorem q_609 : Cond.selects RX7 yX7_count yX7_count ∈ jAll := jm_3 (List.mem_of_getElem? (i := 129) rfl) rfl
theorem q_610 : Cond.code yX7_count cX7_count 2 (some .int) ∈ jAll := jm_3 (List.mem_of_getElem? (i := 130) rfl) rfl
theorem q_611 : Cond.methodLink RX7 260 yX0_reserveCents ∈ jAll := jm_3 (List.mem_of_getElem? (i := 131) rfl) rfl
theorem q_612 : Cond.methodLink RX7 263 yX3_countOfState ∈ jAll := jm_3 (List.mem_of_getElem? (i := 132) rfl) rfl
theorem q_613 : Cond.instanceMethod yX3_countOfState ∈ jAll := jm_3 (List.mem_of_getElem? (i := 133) rfl) rfl
theorem q_614 : Cond.selects RX3 yX3_countOfState yX3_countOfState ∈ jAll := jm_3 (List.mem_of_getElem? (i := 134) rfl) rfl
theorem q_615 : Cond.code yX3_countOfState cX3_countOfState 4 (some .int) ∈ jAll := jm_3 (List.mem_of_getElem? (i := 135) rfl) rfl
theorem q_616 : Cond.classLink RL 10 RX8 ∈ jAll := jm_3 (List.mem_of_getElem? (i := 136) rfl) rfl
theorem q_617 : Cond.instantiable RX8 15 ∈ jAll := jm_3 (List.mem_of_getElem? (i := 137) rfl) rfl
theorem q_618 : Cond.methodLink RL 12 yX8_init ∈ jAll := jm_3 (List.mem_of_getElem? (i := 138) rfl) rfl
theorem q_619 : Cond.instanceMethod yX8_init ∈ jAll := jm_3 (List.mem_of_getElem? (i := 139) rfl) rfl
theorem q_620 : Cond.code yX8_init cX8_init 1 (none : Option FieldType) ∈ jAll := jm_3 (List.mem_of_getElem? (i := 140) rfl) rfl
theorem q_621 : Cond.methodLink RX8 1 objectInit ∈ jAll := jm_3 (List.mem_of_getElem? (i := 141) rfl) rfl
theorem q_622 : Cond.constant RX8 35 (1063675494 : Int32) ∈ jAll := jm_3 (List.mem_of_getElem? (i := 142) rfl) rfl
theorem q_623 : Cond.constant RX8 36 (1000593162 : Int32) ∈ jAll := jm_3 (List.mem_of_getElem? (i := 143) rfl) rfl
theorem q_624 : Cond.constant RX8 37 (1036831949 : Int32) ∈ jAll := jm_3 (List.mem_of_getElem? (i := 144) rfl) rfl
theorem q_625 : Cond.fieldLink RX8 7 RX8 "s" "[I" ∈ jAll := jm_3 (List.mem_of_getElem? (i := 145) rfl) rfl
theorem q_626 : Cond.fieldLink RX8 13 RX8 "aside" "[I" ∈ jAll := jm_3 (List.mem_of_getElem? (i := 146) rfl) rfl
theorem q_627 : Cond.fieldLink RX8 16 RX8 "before" "[I" ∈ jAll := jm_3 (List.mem_of_getElem? (i := 147) rfl) rfl
theorem q_628 : Cond.fieldLink RX8 42 RX8 "known" "I" ∈ jAll := jm_3 (List.mem_of_getElem? (i := 148) rfl) rfl
theorem q_629 : Cond.fieldLink RX8 19 RX8 "kept" "[I" ∈ jAll := jm_3 (List.mem_of_getElem? (i := 149) rfl) rfl
theorem q_630 : Cond.fieldLink RX8 154 RX8 "isKept" "Z" ∈ jAll := jm_3 (List.mem_of_getElem? (i := 150) rfl) rfl
theorem q_631 : Cond.fieldLink RX8 22 RX8 "text" "[I" ∈ jAll := jm_3 (List.mem_of_getElem? (i := 151) rfl) rfl
theorem q_632 : Cond.fieldLink RX8 127 RX8 "typed" "I" ∈ jAll := jm_3 (List.mem_of_getElem? (i := 152) rfl) rfl
theorem q_633 : Cond.fieldLink RX8 25 RX8 "refusedAt" "I" ∈ jAll := jm_3 (List.mem_of_getElem? (i := 153) rfl) rfl
theorem q_634 : Cond.fieldLink RX8 29 RX8 "refusedBy" "I" ∈ jAll := jm_3 (List.mem_of_getElem? (i := 154) rfl) rfl
theorem q_635 : Cond.fieldLink RX8 32 RX8 "shares" "[I" ∈ jAll := jm_3 (List.mem_of_getElem? (i := 155) rfl) rfl
theorem q_636 : Cond.fieldLink RX8 124 RX8 "at" "I" ∈ jAll := jm_3 (List.mem_of_getElem? (i := 156) rfl) rfl
theorem q_637 : Cond.fieldLink RX8 130 RX8 "isWrong" "Z" ∈ jAll := jm_3 (List.mem_of_getElem? (i := 157) rfl) rfl
theorem q_638 : Cond.fieldLink RX8 140 RX8 "settled" "I" ∈ jAll := jm_3 (List.mem_of_getElem? (i := 158) rfl) rfl
theorem q_639 : Cond.fieldLink RX8 137 RX8 "fault" "I" ∈ jAll := jm_3 (List.mem_of_getElem? (i := 159) rfl) rfl
theorem q_640 : Cond.laysFinal RX8 RX8 "s" "[I" ∈ jAll := jm_3 (List.mem_of_getElem? (i := 160) rfl) rfl
theorem q_642 : Cond.laysFinal RX8 RX8 "aside" "[I" ∈ jAll := jm_3 (List.mem_of_getElem? (i := 162) rfl) rfl
theorem q_644 : Cond.laysFinal RX8 RX8 "before" "[I" ∈ jAll := jm_3 (List.mem_of_getElem? (i := 164) rfl) rfl
theorem q_646 : Cond.lays RX8 RX8 "known" "I" ∈ jAll := jm_3 (List.mem_of_getElem? (i := 166) rfl) rfl
theorem q_648 : Cond.laysFinal RX8 RX8 "kept" "[I" ∈ jAll := jm_3 (List.mem_of_getElem? (i := 168) rfl) rfl
theorem q_650 : Cond.lays RX8 RX8 "isKept" "Z" ∈ jAll := jm_3 (List.mem_of_getElem? (i := 170) rfl) rfl
theorem q_652 : Cond.laysFinal RX8 RX8 "text" "[I" ∈ jAll := jm_3 (List.mem_of_getElem? (i := 172) rfl) rfl
theorem q_654 : Cond.lays RX8 RX8 "typed" "I" ∈ jAll := jm_3 (List.mem_of_getElem? (i := 174) rfl) rfl
theorem q_656 : Cond.lays RX8 RX8 "refusedAt" "I" ∈ jAll := jm_3 (List.mem_of_getElem? (i := 176) rfl) rfl
theorem q_658 : Cond.lays RX8 RX8 "refusedBy" "I" ∈ jAll := jm_3 (List.mem_of_getElem? (i := 178) rfl) rfl
theorem q_660 : Cond.laysFinal RX8 RX8 "shares" "[I" ∈ jAll := jm_3 (List.mem_of_getElem? (i := 180) rfl) rfl
theorem q_662 : Cond.lays RX8 RX8 "at" "I" ∈ jAll := jm_3 (List.mem_of_getElem? (i := 182) rfl) rfl
theorem q_664 : Cond.lays RX8 RX8 "isWrong" "Z" ∈ jAll := jm_3 (List.mem_of_getElem? (i := 184) rfl) rfl
theorem q_666 : Cond.lays RX8 RX8 "settled" "I" ∈ jAll := jm_3 (List.mem_of_getElem? (i := 186) rfl) rfl
theorem q_668 : Cond.lays RX8 RX8 "fault" "I" ∈ jAll := jm_3 (List.mem_of_getElem? (i := 188) rfl) rfl
theorem q_670 : Cond.superclass RX8 "java/lang/Object" ∈ jAll := jm_3 (List.mem_of_getElem? (i := 190) rfl) rfl
theorem q_671 : Cond.methodLink RL 17 yX8_setRate ∈ jAll := jm_3 (List.mem_of_getElem? (i := 191) rfl) rfl
theorem q_672 : Cond.instanceMethod yX8_setRate ∈ jAll := jm_3 (List.mem_of_getElem? (i := 192) rfl) rfl
theorem q_673 : Cond.selects RX8 yX8_setRate yX8_setRate ∈ jAll := jm_3 (List.mem_of_getElem? (i := 193) rfl) rfl
theorem q_674 : Cond.code yX8_setRate cX8_setRate 7 (some .int) ∈ jAll := jm_3 (List.mem_of_getElem? (i := 194) rfl) rfl
theorem q_675 : Cond.methodLink RX8 38 yX8_in ∈ jAll := jm_3 (List.mem_of_getElem? (i := 195) rfl) rfl
theorem q_676 : Cond.static yX8_in ∈ jAll := jm_3 (List.mem_of_getElem? (i := 196) rfl) rfl
theorem q_677 : Cond.code yX8_in cX8_in 3 (Option.some FieldType.boolean) ∈ jAll := jm_3 (List.mem_of_getElem? (i := 197) rfl) rfl
theorem q_678 : Cond.methodLink RX8 51 yX8_ofBits ∈ jAll := jm_3 (List.mem_of_getElem? (i := 198) rfl) rfl
theorem q_679 : Cond.static yX8_ofBits ∈ jAll := jm_3 (List.mem_of_getElem? (i := 199) rfl) rfl
theorem q_680 : Cond.code yX8_ofBits cX8_ofBits 4 (Option.some FieldType.float) ∈ jAll := jm_3 (List.mem_of_getElem? (i := 200) rfl) rfl
theorem q_681 : Cond.constant RX8 48 (8388607 : Int32) ∈ jAll := jm_3 (List.mem_of_getElem? (i := 201) rfl) rfl
theorem q_682 : Cond.constant RX8 49 (8388608 : Int32) ∈ jAll := jm_3 (List.mem_of_getElem? (i := 202) rfl) rfl
theorem q_683 : Cond.constantFloat RX8 50 (1056964608 : UInt32) ∈ jAll := jm_3 (List.mem_of_getElem? (i := 203) rfl) rfl
theorem q_684 : Cond.constantFloat RX8 78 (3212836864 : UInt32) ∈ jAll := jm_3 (List.mem_of_getElem? (i := 204) rfl) rfl
theorem q_685 : Cond.constantFloat RX8 79 (1036831949 : UInt32) ∈ jAll := jm_3 (List.mem_of_getElem? (i := 205) rfl) rfl
theorem q_686 : Cond.constantFloat RX8 80 (1028443341 : UInt32) ∈ jAll := jm_3 (List.mem_of_getElem? (i := 206) rfl) rfl
theorem q_687 : Cond.methodLink RX8 81 yX8_know ∈ jAll := jm_3 (List.mem_of_getElem? (i := 207) rfl) rfl
theorem q_689 : Cond.instanceMethod yX8_know ∈ jAll := jm_3 (List.mem_of_getElem? (i := 209) rfl) rfl
theorem q_690 : Cond.code yX8_know cX8_know 2 (none : Option FieldType) ∈ jAll := jm_3 (List.mem_of_getElem? (i := 210) rfl) rfl
theorem q_691 : Cond.methodLink RL 21 yX8_setNumber ∈ jAll := jm_3 (List.mem_of_getElem? (i := 211) rfl) rfl
theorem q_692 : Cond.instanceMethod yX8_setNumber ∈ jAll := jm_3 (List.mem_of_getElem? (i := 212) rfl) rfl
theorem q_693 : Cond.selects RX8 yX8_setNumber yX8_setNumber ∈ jAll := jm_3 (List.mem_of_getElem? (i := 213) rfl) rfl
theorem q_694 : Cond.code yX8_setNumber cX8_setNumber 4 (some .int) ∈ jAll := jm_3 (List.mem_of_getElem? (i := 214) rfl) rfl
theorem q_695 : Cond.methodLink RL 26 yX8_addMember ∈ jAll := jm_3 (List.mem_of_getElem? (i := 215) rfl) rfl
theorem q_696 : Cond.instanceMethod yX8_addMember ∈ jAll := jm_3 (List.mem_of_getElem? (i := 216) rfl) rfl
theorem q_697 : Cond.selects RX8 yX8_addMember yX8_addMember ∈ jAll := jm_3 (List.mem_of_getElem? (i := 217) rfl) rfl
theorem q_698 : Cond.code yX8_addMember cX8_addMember 3 (some .int) ∈ jAll := jm_3 (List.mem_of_getElem? (i := 218) rfl) rfl
theorem q_699 : Cond.methodLink RX8 84 yX8_ofMember ∈ jAll := jm_3 (List.mem_of_getElem? (i := 219) rfl) rfl
theorem q_700 : Cond.static yX8_ofMember ∈ jAll := jm_3 (List.mem_of_getElem? (i := 220) rfl) rfl
theorem q_701 : Cond.code yX8_ofMember cX8_ofMember 2 (some .int) ∈ jAll := jm_3 (List.mem_of_getElem? (i := 221) rfl) rfl
theorem q_702 : Cond.methodLink RL 30 yX8_payDues ∈ jAll := jm_3 (List.mem_of_getElem? (i := 222) rfl) rfl
theorem q_703 : Cond.instanceMethod yX8_payDues ∈ jAll := jm_3 (List.mem_of_getElem? (i := 223) rfl) rfl
theorem q_704 : Cond.selects RX8 yX8_payDues yX8_payDues ∈ jAll := jm_3 (List.mem_of_getElem? (i := 224) rfl) rfl
theorem q_705 : Cond.code yX8_payDues cX8_payDues 3 (some .int) ∈ jAll := jm_3 (List.mem_of_getElem? (i := 225) rfl) rfl
theorem q_706 : Cond.methodLink RX8 87 yX8_isMember ∈ jAll := jm_3 (List.mem_of_getElem? (i := 226) rfl) rfl
theorem q_708 : Cond.instanceMethod yX8_isMember ∈ jAll := jm_3 (List.mem_of_getElem? (i := 228) rfl) rfl
theorem q_709 : Cond.code yX8_isMember cX8_isMember 2 (Option.some FieldType.boolean) ∈ jAll := jm_3 (List.mem_of_getElem? (i := 229) rfl) rfl
theorem q_710 : Cond.constant RX8 91 (1000000 : Int32) ∈ jAll := jm_3 (List.mem_of_getElem? (i := 230) rfl) rfl
theorem q_711 : Cond.constant RX8 92 (100000000 : Int32) ∈ jAll := jm_3 (List.mem_of_getElem? (i := 231) rfl) rfl
theorem q_712 : Cond.methodLink RL 35 yX8_addInvoice ∈ jAll := jm_3 (List.mem_of_getElem? (i := 232) rfl) rfl
theorem q_713 : Cond.instanceMethod yX8_addInvoice ∈ jAll := jm_3 (List.mem_of_getElem? (i := 233) rfl) rfl
theorem q_714 : Cond.selects RX8 yX8_addInvoice yX8_addInvoice ∈ jAll := jm_3 (List.mem_of_getElem? (i := 234) rfl) rfl
theorem q_715 : Cond.code yX8_addInvoice cX8_addInvoice 6 (some .int) ∈ jAll := jm_3 (List.mem_of_getElem? (i := 235) rfl) rfl
theorem q_716 : Cond.methodLink RX8 93 yX8_isClient ∈ jAll := jm_3 (List.mem_of_getElem? (i := 236) rfl) rfl
theorem q_717 : Cond.static yX8_isClient ∈ jAll := jm_3 (List.mem_of_getElem? (i := 237) rfl) rfl
theorem q_718 : Cond.code yX8_isClient cX8_isClient 1 (Option.some FieldType.boolean) ∈ jAll := jm_3 (List.mem_of_getElem? (i := 238) rfl) rfl
theorem q_719 : Cond.methodLink RX8 59 yX8_of ∈ jAll := jm_3 (List.mem_of_getElem? (i := 239) rfl) rfl
theorem q_720 : Cond.static yX8_of ∈ jAll := jm_4 (List.mem_of_getElem? (i := 0) rfl) rfl
theorem q_721 : Cond.code yX8_of cX8_of 2 (some .int) ∈ jAll := jm_4 (List.mem_of_getElem? (i := 1) rfl) rfl
theorem q_722 : Cond.methodLink RL 39 yX8_payAhead ∈ jAll := jm_4 (List.mem_of_getElem? (i := 2) rfl) rfl
theorem q_723 : Cond.instanceMethod yX8_payAhead ∈ jAll := jm_4 (List.mem_of_getElem? (i := 3) rfl) rfl
theorem q_724 : Cond.selects RX8 yX8_payAhead yX8_payAhead ∈ jAll := jm_4 (List.mem_of_getElem? (i := 4) rfl) rfl
theorem q_725 : Cond.code yX8_payAhead cX8_payAhead 3 (some .int) ∈ jAll := jm_4 (List.mem_of_getElem? (i := 5) rfl) rfl
theorem q_726 : Cond.methodLink RX8 105 yX8_isInvoice ∈ jAll := jm_4 (List.mem_of_getElem? (i := 6) rfl) rfl
theorem q_728 : Cond.instanceMethod yX8_isInvoice ∈ jAll := jm_4 (List.mem_of_getElem? (i := 8) rfl) rfl
theorem q_729 : Cond.code yX8_isInvoice cX8_isInvoice 2 (Option.some FieldType.boolean) ∈ jAll := jm_4 (List.mem_of_getElem? (i := 9) rfl) rfl
theorem q_730 : Cond.methodLink RX8 108 yX8_mayAhead ∈ jAll := jm_4 (List.mem_of_getElem? (i := 10) rfl) rfl
theorem q_732 : Cond.instanceMethod yX8_mayAhead ∈ jAll := jm_4 (List.mem_of_getElem? (i := 12) rfl) rfl
theorem q_733 : Cond.code yX8_mayAhead cX8_mayAhead 4 (Option.some FieldType.boolean) ∈ jAll := jm_4 (List.mem_of_getElem? (i := 13) rfl) rfl
theorem q_734 : Cond.methodLink RX8 75 yX8_offerBehind ∈ jAll := jm_4 (List.mem_of_getElem? (i := 14) rfl) rfl
theorem q_736 : Cond.instanceMethod yX8_offerBehind ∈ jAll := jm_4 (List.mem_of_getElem? (i := 16) rfl) rfl
theorem q_737 : Cond.code yX8_offerBehind cX8_offerBehind 3 (some .int) ∈ jAll := jm_4 (List.mem_of_getElem? (i := 17) rfl) rfl
theorem q_738 : Cond.methodLink RX8 71 yX8_rateBehind ∈ jAll := jm_4 (List.mem_of_getElem? (i := 18) rfl) rfl
theorem q_740 : Cond.instanceMethod yX8_rateBehind ∈ jAll := jm_4 (List.mem_of_getElem? (i := 20) rfl) rfl
theorem q_741 : Cond.code yX8_rateBehind cX8_rateBehind 5 (Option.some FieldType.float) ∈ jAll := jm_4 (List.mem_of_getElem? (i := 21) rfl) rfl
theorem q_742 : Cond.methodLink RX8 62 yX8_rateOf ∈ jAll := jm_4 (List.mem_of_getElem? (i := 22) rfl) rfl
theorem q_744 : Cond.instanceMethod yX8_rateOf ∈ jAll := jm_4 (List.mem_of_getElem? (i := 24) rfl) rfl
theorem q_745 : Cond.code yX8_rateOf cX8_rateOf 2 (Option.some FieldType.float) ∈ jAll := jm_4 (List.mem_of_getElem? (i := 25) rfl) rfl
theorem q_746 : Cond.methodLink RX8 65 yX8_late ∈ jAll := jm_4 (List.mem_of_getElem? (i := 26) rfl) rfl
theorem q_748 : Cond.instanceMethod yX8_late ∈ jAll := jm_4 (List.mem_of_getElem? (i := 28) rfl) rfl
theorem q_749 : Cond.code yX8_late cX8_late 4 (some .int) ∈ jAll := jm_4 (List.mem_of_getElem? (i := 29) rfl) rfl
theorem q_750 : Cond.methodLink RX8 68 yX8_riskOf ∈ jAll := jm_4 (List.mem_of_getElem? (i := 30) rfl) rfl
theorem q_752 : Cond.instanceMethod yX8_riskOf ∈ jAll := jm_4 (List.mem_of_getElem? (i := 32) rfl) rfl
theorem q_753 : Cond.code yX8_riskOf cX8_riskOf 3 (Option.some FieldType.float) ∈ jAll := jm_4 (List.mem_of_getElem? (i := 33) rfl) rfl
theorem q_754 : Cond.methodLink RX8 55 yX8_ofClient ∈ jAll := jm_4 (List.mem_of_getElem? (i := 34) rfl) rfl
theorem q_755 : Cond.static yX8_ofClient ∈ jAll := jm_4 (List.mem_of_getElem? (i := 35) rfl) rfl
theorem q_756 : Cond.code yX8_ofClient cX8_ofClient 2 (some .int) ∈ jAll := jm_4 (List.mem_of_getElem? (i := 36) rfl) rfl
theorem q_757 : Cond.methodLink RX8 102 yX8_reserve ∈ jAll := jm_4 (List.mem_of_getElem? (i := 37) rfl) rfl
theorem q_759 : Cond.instanceMethod yX8_reserve ∈ jAll := jm_4 (List.mem_of_getElem? (i := 39) rfl) rfl
theorem q_760 : Cond.code yX8_reserve cX8_reserve 1 (some .int) ∈ jAll := jm_4 (List.mem_of_getElem? (i := 40) rfl) rfl
theorem q_761 : Cond.methodLink RX8 96 yX8_allDues ∈ jAll := jm_4 (List.mem_of_getElem? (i := 41) rfl) rfl
theorem q_763 : Cond.instanceMethod yX8_allDues ∈ jAll := jm_4 (List.mem_of_getElem? (i := 43) rfl) rfl
theorem q_764 : Cond.code yX8_allDues cX8_allDues 3 (some .int) ∈ jAll := jm_4 (List.mem_of_getElem? (i := 44) rfl) rfl
theorem q_765 : Cond.constantLong RX8 100 (100 : Int64) ∈ jAll := jm_4 (List.mem_of_getElem? (i := 45) rfl) rfl
theorem q_766 : Cond.methodLink RL 43 yX8_pay ∈ jAll := jm_4 (List.mem_of_getElem? (i := 46) rfl) rfl
theorem q_767 : Cond.instanceMethod yX8_pay ∈ jAll := jm_4 (List.mem_of_getElem? (i := 47) rfl) rfl
theorem q_768 : Cond.selects RX8 yX8_pay yX8_pay ∈ jAll := jm_4 (List.mem_of_getElem? (i := 48) rfl) rfl
theorem q_769 : Cond.code yX8_pay cX8_pay 4 (some .int) ∈ jAll := jm_4 (List.mem_of_getElem? (i := 49) rfl) rfl
theorem q_770 : Cond.methodLink RX8 111 yX8_payFault ∈ jAll := jm_4 (List.mem_of_getElem? (i := 50) rfl) rfl
theorem q_772 : Cond.instanceMethod yX8_payFault ∈ jAll := jm_4 (List.mem_of_getElem? (i := 52) rfl) rfl
theorem q_773 : Cond.code yX8_payFault cX8_payFault 3 (some .int) ∈ jAll := jm_4 (List.mem_of_getElem? (i := 53) rfl) rfl
theorem q_774 : Cond.methodLink RX8 114 yX8_pays ∈ jAll := jm_4 (List.mem_of_getElem? (i := 54) rfl) rfl
theorem q_776 : Cond.instanceMethod yX8_pays ∈ jAll := jm_4 (List.mem_of_getElem? (i := 56) rfl) rfl
theorem q_777 : Cond.code yX8_pays cX8_pays 9 (some .int) ∈ jAll := jm_4 (List.mem_of_getElem? (i := 57) rfl) rfl
theorem q_778 : Cond.methodLink RL 47 yX8_giveUp ∈ jAll := jm_4 (List.mem_of_getElem? (i := 58) rfl) rfl
theorem q_779 : Cond.instanceMethod yX8_giveUp ∈ jAll := jm_4 (List.mem_of_getElem? (i := 59) rfl) rfl
theorem q_780 : Cond.selects RX8 yX8_giveUp yX8_giveUp ∈ jAll := jm_4 (List.mem_of_getElem? (i := 60) rfl) rfl
theorem q_781 : Cond.code yX8_giveUp cX8_giveUp 3 (some .int) ∈ jAll := jm_4 (List.mem_of_getElem? (i := 61) rfl) rfl
theorem q_782 : Cond.methodLink RX8 117 yX8_mayGiveUp ∈ jAll := jm_4 (List.mem_of_getElem? (i := 62) rfl) rfl
theorem q_784 : Cond.instanceMethod yX8_mayGiveUp ∈ jAll := jm_4 (List.mem_of_getElem? (i := 64) rfl) rfl
theorem q_785 : Cond.code yX8_mayGiveUp cX8_mayGiveUp 2 (Option.some FieldType.boolean) ∈ jAll := jm_4 (List.mem_of_getElem? (i := 65) rfl) rfl
theorem q_786 : Cond.methodLink RX8 120 yX8_share ∈ jAll := jm_4 (List.mem_of_getElem? (i := 66) rfl) rfl
theorem q_788 : Cond.instanceMethod yX8_share ∈ jAll := jm_4 (List.mem_of_getElem? (i := 68) rfl) rfl
theorem q_789 : Cond.code yX8_share cX8_share 7 (none : Option FieldType) ∈ jAll := jm_4 (List.mem_of_getElem? (i := 69) rfl) rfl
theorem q_790 : Cond.methodLink RL 52 yX8_readPayments ∈ jAll := jm_4 (List.mem_of_getElem? (i := 70) rfl) rfl
theorem q_791 : Cond.instanceMethod yX8_readPayments ∈ jAll := jm_4 (List.mem_of_getElem? (i := 71) rfl) rfl
theorem q_792 : Cond.selects RX8 yX8_readPayments yX8_readPayments ∈ jAll := jm_4 (List.mem_of_getElem? (i := 72) rfl) rfl
theorem q_793 : Cond.code yX8_readPayments cX8_readPayments 3 (some .int) ∈ jAll := jm_4 (List.mem_of_getElem? (i := 73) rfl) rfl
theorem q_794 : Cond.methodLink RX8 146 yX8_go ∈ jAll := jm_4 (List.mem_of_getElem? (i := 74) rfl) rfl
theorem q_796 : Cond.instanceMethod yX8_go ∈ jAll := jm_4 (List.mem_of_getElem? (i := 76) rfl) rfl
theorem q_797 : Cond.code yX8_go cX8_go 8 (some .int) ∈ jAll := jm_4 (List.mem_of_getElem? (i := 77) rfl) rfl
theorem q_798 : Cond.methodLink RX8 143 yX8_number ∈ jAll := jm_4 (List.mem_of_getElem? (i := 78) rfl) rfl
theorem q_800 : Cond.instanceMethod yX8_number ∈ jAll := jm_4 (List.mem_of_getElem? (i := 80) rfl) rfl
theorem q_801 : Cond.code yX8_number cX8_number 5 (some .int) ∈ jAll := jm_4 (List.mem_of_getElem? (i := 81) rfl) rfl
theorem q_802 : Cond.methodLink RX8 134 yX8_sign ∈ jAll := jm_4 (List.mem_of_getElem? (i := 82) rfl) rfl
theorem q_804 : Cond.instanceMethod yX8_sign ∈ jAll := jm_4 (List.mem_of_getElem? (i := 84) rfl) rfl
theorem q_805 : Cond.code yX8_sign cX8_sign 4 (some .int) ∈ jAll := jm_4 (List.mem_of_getElem? (i := 85) rfl) rfl
theorem q_806 : Cond.methodLink RX8 150 yX8_swap ∈ jAll := jm_4 (List.mem_of_getElem? (i := 86) rfl) rfl
theorem q_808 : Cond.instanceMethod yX8_swap ∈ jAll := jm_4 (List.mem_of_getElem? (i := 88) rfl) rfl
theorem q_809 : Cond.code yX8_swap cX8_swap 3 (none : Option FieldType) ∈ jAll := jm_4 (List.mem_of_getElem? (i := 89) rfl) rfl
theorem q_810 : Cond.methodLink RL 56 yX8_refusal ∈ jAll := jm_4 (List.mem_of_getElem? (i := 90) rfl) rfl
theorem q_811 : Cond.instanceMethod yX8_refusal ∈ jAll := jm_4 (List.mem_of_getElem? (i := 91) rfl) rfl
theorem q_812 : Cond.selects RX8 yX8_refusal yX8_refusal ∈ jAll := jm_4 (List.mem_of_getElem? (i := 92) rfl) rfl
theorem q_813 : Cond.code yX8_refusal cX8_refusal 2 (some .int) ∈ jAll := jm_4 (List.mem_of_getElem? (i := 93) rfl) rfl
theorem q_814 : Cond.methodLink RL 60 yX8_pass ∈ jAll := jm_4 (List.mem_of_getElem? (i := 94) rfl) rfl
theorem q_815 : Cond.instanceMethod yX8_pass ∈ jAll := jm_4 (List.mem_of_getElem? (i := 95) rfl) rfl
theorem q_816 : Cond.selects RX8 yX8_pass yX8_pass ∈ jAll := jm_4 (List.mem_of_getElem? (i := 96) rfl) rfl
theorem q_817 : Cond.code yX8_pass cX8_pass 2 (some .int) ∈ jAll := jm_4 (List.mem_of_getElem? (i := 97) rfl) rfl
theorem q_818 : Cond.constant RX8 153 (99999 : Int32) ∈ jAll := jm_4 (List.mem_of_getElem? (i := 98) rfl) rfl
theorem q_819 : Cond.methodLink RL 65 yX8_type ∈ jAll := jm_4 (List.mem_of_getElem? (i := 99) rfl) rfl
theorem q_820 : Cond.instanceMethod yX8_type ∈ jAll := jm_4 (List.mem_of_getElem? (i := 100) rfl) rfl
theorem q_821 : Cond.selects RX8 yX8_type yX8_type ∈ jAll := jm_4 (List.mem_of_getElem? (i := 101) rfl) rfl
theorem q_822 : Cond.code yX8_type cX8_type 2 (some .int) ∈ jAll := jm_4 (List.mem_of_getElem? (i := 102) rfl) rfl
theorem q_823 : Cond.methodLink RL 69 yX8_clearText ∈ jAll := jm_4 (List.mem_of_getElem? (i := 103) rfl) rfl
theorem q_824 : Cond.instanceMethod yX8_clearText ∈ jAll := jm_4 (List.mem_of_getElem? (i := 104) rfl) rfl
theorem q_825 : Cond.selects RX8 yX8_clearText yX8_clearText ∈ jAll := jm_4 (List.mem_of_getElem? (i := 105) rfl) rfl
theorem q_826 : Cond.code yX8_clearText cX8_clearText 2 (some .int) ∈ jAll := jm_4 (List.mem_of_getElem? (i := 106) rfl) rfl
theorem q_827 : Cond.methodLink RL 73 yX8_undo ∈ jAll := jm_4 (List.mem_of_getElem? (i := 107) rfl) rfl
theorem q_828 : Cond.instanceMethod yX8_undo ∈ jAll := jm_4 (List.mem_of_getElem? (i := 108) rfl) rfl
theorem q_829 : Cond.selects RX8 yX8_undo yX8_undo ∈ jAll := jm_4 (List.mem_of_getElem? (i := 109) rfl) rfl
theorem q_830 : Cond.code yX8_undo cX8_undo 2 (some .int) ∈ jAll := jm_4 (List.mem_of_getElem? (i := 110) rfl) rfl
theorem q_831 : Cond.methodLink RL 77 yX8_keep ∈ jAll := jm_4 (List.mem_of_getElem? (i := 111) rfl) rfl
theorem q_832 : Cond.instanceMethod yX8_keep ∈ jAll := jm_4 (List.mem_of_getElem? (i := 112) rfl) rfl
theorem q_833 : Cond.selects RX8 yX8_keep yX8_keep ∈ jAll := jm_4 (List.mem_of_getElem? (i := 113) rfl) rfl
theorem q_834 : Cond.code yX8_keep cX8_keep 2 (some .int) ∈ jAll := jm_4 (List.mem_of_getElem? (i := 114) rfl) rfl
theorem q_835 : Cond.methodLink RL 81 yX8_restore ∈ jAll := jm_4 (List.mem_of_getElem? (i := 115) rfl) rfl
theorem q_836 : Cond.instanceMethod yX8_restore ∈ jAll := jm_4 (List.mem_of_getElem? (i := 116) rfl) rfl
theorem q_837 : Cond.selects RX8 yX8_restore yX8_restore ∈ jAll := jm_4 (List.mem_of_getElem? (i := 117) rfl) rfl
theorem q_838 : Cond.code yX8_restore cX8_restore 2 (some .int) ∈ jAll := jm_4 (List.mem_of_getElem? (i := 118) rfl) rfl
theorem q_839 : Cond.methodLink RL 86 yX8_rate ∈ jAll := jm_4 (List.mem_of_getElem? (i := 119) rfl) rfl
theorem q_840 : Cond.instanceMethod yX8_rate ∈ jAll := jm_4 (List.mem_of_getElem? (i := 120) rfl) rfl
theorem q_841 : Cond.selects RX8 yX8_rate yX8_rate ∈ jAll := jm_4 (List.mem_of_getElem? (i := 121) rfl) rfl
theorem q_842 : Cond.code yX8_rate cX8_rate 2 (Option.some FieldType.float) ∈ jAll := jm_4 (List.mem_of_getElem? (i := 122) rfl) rfl
theorem q_843 : Cond.methodLink RX8 157 yX8_nan ∈ jAll := jm_4 (List.mem_of_getElem? (i := 123) rfl) rfl
theorem q_844 : Cond.static yX8_nan ∈ jAll := jm_4 (List.mem_of_getElem? (i := 124) rfl) rfl
theorem q_845 : Cond.code yX8_nan cX8_nan 0 (Option.some FieldType.float) ∈ jAll := jm_4 (List.mem_of_getElem? (i := 125) rfl) rfl
theorem q_846 : Cond.constantFloat RX8 47 (2143289344 : UInt32) ∈ jAll := jm_4 (List.mem_of_getElem? (i := 126) rfl) rfl
theorem q_847 : Cond.methodLink RL 90 yX8_number_ ∈ jAll := jm_4 (List.mem_of_getElem? (i := 127) rfl) rfl
theorem q_848 : Cond.instanceMethod yX8_number_ ∈ jAll := jm_4 (List.mem_of_getElem? (i := 128) rfl) rfl
theorem q_849 : Cond.selects RX8 yX8_number_ yX8_number_ ∈ jAll := jm_4 (List.mem_of_getElem? (i := 129) rfl) rfl
theorem q_850 : Cond.code yX8_number_ cX8_number_ 2 (some .int) ∈ jAll := jm_4 (List.mem_of_getElem? (i := 130) rfl) rfl
theorem q_851 : Cond.methodLink RL 94 yX8_member ∈ jAll := jm_4 (List.mem_of_getElem? (i := 131) rfl) rfl
theorem q_852 : Cond.instanceMethod yX8_member ∈ jAll := jm_4 (List.mem_of_getElem? (i := 132) rfl) rfl
theorem q_853 : Cond.selects RX8 yX8_member yX8_member ∈ jAll := jm_4 (List.mem_of_getElem? (i := 133) rfl) rfl
theorem q_854 : Cond.code yX8_member cX8_member 3 (some .int) ∈ jAll := jm_4 (List.mem_of_getElem? (i := 134) rfl) rfl
theorem q_855 : Cond.constant RX8 161 (1000000000 : Int32) ∈ jAll := jm_4 (List.mem_of_getElem? (i := 135) rfl) rfl
theorem q_856 : Cond.methodLink RX8 162 yX8_invoices ∈ jAll := jm_4 (List.mem_of_getElem? (i := 136) rfl) rfl
theorem q_858 : Cond.instanceMethod yX8_invoices ∈ jAll := jm_4 (List.mem_of_getElem? (i := 138) rfl) rfl
theorem q_859 : Cond.code yX8_invoices cX8_invoices 7 (some .int) ∈ jAll := jm_4 (List.mem_of_getElem? (i := 139) rfl) rfl
theorem q_860 : Cond.methodLink RL 98 yX8_client ∈ jAll := jm_4 (List.mem_of_getElem? (i := 140) rfl) rfl
theorem q_861 : Cond.instanceMethod yX8_client ∈ jAll := jm_4 (List.mem_of_getElem? (i := 141) rfl) rfl
theorem q_862 : Cond.selects RX8 yX8_client yX8_client ∈ jAll := jm_4 (List.mem_of_getElem? (i := 142) rfl) rfl
theorem q_863 : Cond.code yX8_client cX8_client 3 (some .int) ∈ jAll := jm_4 (List.mem_of_getElem? (i := 143) rfl) rfl
theorem q_864 : Cond.methodLink RL 102 yX8_risk ∈ jAll := jm_4 (List.mem_of_getElem? (i := 144) rfl) rfl
theorem q_865 : Cond.instanceMethod yX8_risk ∈ jAll := jm_4 (List.mem_of_getElem? (i := 145) rfl) rfl
theorem q_866 : Cond.selects RX8 yX8_risk yX8_risk ∈ jAll := jm_4 (List.mem_of_getElem? (i := 146) rfl) rfl
theorem q_867 : Cond.code yX8_risk cX8_risk 2 (Option.some FieldType.float) ∈ jAll := jm_4 (List.mem_of_getElem? (i := 147) rfl) rfl
theorem q_868 : Cond.methodLink RL 106 yX8_lateness ∈ jAll := jm_4 (List.mem_of_getElem? (i := 148) rfl) rfl
theorem q_869 : Cond.instanceMethod yX8_lateness ∈ jAll := jm_4 (List.mem_of_getElem? (i := 149) rfl) rfl
theorem q_870 : Cond.selects RX8 yX8_lateness yX8_lateness ∈ jAll := jm_4 (List.mem_of_getElem? (i := 150) rfl) rfl
theorem q_871 : Cond.code yX8_lateness cX8_lateness 3 (Option.some FieldType.float) ∈ jAll := jm_4 (List.mem_of_getElem? (i := 151) rfl) rfl
theorem q_872 : Cond.methodLink RL 110 yX8_invoice ∈ jAll := jm_4 (List.mem_of_getElem? (i := 152) rfl) rfl
theorem q_873 : Cond.instanceMethod yX8_invoice ∈ jAll := jm_4 (List.mem_of_getElem? (i := 153) rfl) rfl
theorem q_874 : Cond.selects RX8 yX8_invoice yX8_invoice ∈ jAll := jm_4 (List.mem_of_getElem? (i := 154) rfl) rfl
theorem q_875 : Cond.code yX8_invoice cX8_invoice 3 (some .int) ∈ jAll := jm_4 (List.mem_of_getElem? (i := 155) rfl) rfl
theorem q_876 : Cond.constant RX8 166 (100000 : Int32) ∈ jAll := jm_4 (List.mem_of_getElem? (i := 156) rfl) rfl
theorem q_877 : Cond.methodLink RL 115 yX8_rateIn ∈ jAll := jm_4 (List.mem_of_getElem? (i := 157) rfl) rfl
theorem q_878 : Cond.instanceMethod yX8_rateIn ∈ jAll := jm_4 (List.mem_of_getElem? (i := 158) rfl) rfl
theorem q_879 : Cond.selects RX8 yX8_rateIn yX8_rateIn ∈ jAll := jm_4 (List.mem_of_getElem? (i := 159) rfl) rfl
theorem q_880 : Cond.code yX8_rateIn cX8_rateIn 3 (Option.some FieldType.float) ∈ jAll := jm_4 (List.mem_of_getElem? (i := 160) rfl) rfl
theorem q_881 : Cond.methodLink RL 119 yX8_worth ∈ jAll := jm_4 (List.mem_of_getElem? (i := 161) rfl) rfl
theorem q_882 : Cond.instanceMethod yX8_worth ∈ jAll := jm_4 (List.mem_of_getElem? (i := 162) rfl) rfl
theorem q_883 : Cond.selects RX8 yX8_worth yX8_worth ∈ jAll := jm_4 (List.mem_of_getElem? (i := 163) rfl) rfl
theorem q_884 : Cond.code yX8_worth cX8_worth 2 (Option.some FieldType.float) ∈ jAll := jm_4 (List.mem_of_getElem? (i := 164) rfl) rfl
theorem q_885 : Cond.methodLink RX8 167 yX8_worthOf ∈ jAll := jm_4 (List.mem_of_getElem? (i := 165) rfl) rfl
theorem q_887 : Cond.instanceMethod yX8_worthOf ∈ jAll := jm_4 (List.mem_of_getElem? (i := 167) rfl) rfl
theorem q_888 : Cond.code yX8_worthOf cX8_worthOf 5 (Option.some FieldType.float) ∈ jAll := jm_4 (List.mem_of_getElem? (i := 168) rfl) rfl
theorem q_889 : Cond.methodLink RL 123 yX8_best ∈ jAll := jm_4 (List.mem_of_getElem? (i := 169) rfl) rfl
theorem q_890 : Cond.instanceMethod yX8_best ∈ jAll := jm_4 (List.mem_of_getElem? (i := 170) rfl) rfl
theorem q_891 : Cond.selects RX8 yX8_best yX8_best ∈ jAll := jm_4 (List.mem_of_getElem? (i := 171) rfl) rfl
theorem q_892 : Cond.code yX8_best cX8_best 5 (some .int) ∈ jAll := jm_4 (List.mem_of_getElem? (i := 172) rfl) rfl
theorem q_893 : Cond.methodLink RL 127 yX8_worthlessIn ∈ jAll := jm_4 (List.mem_of_getElem? (i := 173) rfl) rfl
theorem q_894 : Cond.instanceMethod yX8_worthlessIn ∈ jAll := jm_4 (List.mem_of_getElem? (i := 174) rfl) rfl
theorem q_895 : Cond.selects RX8 yX8_worthlessIn yX8_worthlessIn ∈ jAll := jm_4 (List.mem_of_getElem? (i := 175) rfl) rfl
theorem q_896 : Cond.code yX8_worthlessIn cX8_worthlessIn 3 (some .int) ∈ jAll := jm_4 (List.mem_of_getElem? (i := 176) rfl) rfl
theorem q_897 : Cond.methodLink RL 132 yX8_exposure ∈ jAll := jm_4 (List.mem_of_getElem? (i := 177) rfl) rfl
theorem q_898 : Cond.instanceMethod yX8_exposure ∈ jAll := jm_4 (List.mem_of_getElem? (i := 178) rfl) rfl
theorem q_899 : Cond.selects RX8 yX8_exposure yX8_exposure ∈ jAll := jm_4 (List.mem_of_getElem? (i := 179) rfl) rfl
theorem q_900 : Cond.code yX8_exposure cX8_exposure 3 (Option.some FieldType.float) ∈ jAll := jm_4 (List.mem_of_getElem? (i := 180) rfl) rfl
theorem q_901 : Cond.methodLink RL 136 yX8_count ∈ jAll := jm_4 (List.mem_of_getElem? (i := 181) rfl) rfl
theorem q_902 : Cond.instanceMethod yX8_count ∈ jAll := jm_4 (List.mem_of_getElem? (i := 182) rfl) rfl
theorem q_903 : Cond.selects RX8 yX8_count yX8_count ∈ jAll := jm_4 (List.mem_of_getElem? (i := 183) rfl) rfl
theorem q_904 : Cond.code yX8_count cX8_count 2 (some .int) ∈ jAll := jm_4 (List.mem_of_getElem? (i := 184) rfl) rfl
theorem q_p0 : Cond.selects RX2 yX2_stateAt yX2_stateAt ∈ jAll := jm_p (List.mem_of_getElem? (i := 0) rfl) rfl
theorem q_p1 : Cond.selects RX6 yX6_readNumbers yX6_readNumbers ∈ jAll := jm_p (List.mem_of_getElem? (i := 1) rfl) rfl
theorem q_p2 : Cond.selects RX8 yX8_know yX8_know ∈ jAll := jm_p (List.mem_of_getElem? (i := 2) rfl) rfl
theorem q_p3 : Cond.selects RX8 yX8_isMember yX8_isMember ∈ jAll := jm_p (List.mem_of_getElem? (i := 3) rfl) rfl
theorem q_p4 : Cond.selects RX8 yX8_isInvoice yX8_isInvoice ∈ jAll := jm_p (List.mem_of_getElem? (i := 4) rfl) rfl
theorem q_p5 : Cond.selects RX8 yX8_mayAhead yX8_mayAhead ∈ jAll := jm_p (List.mem_of_getElem? (i := 5) rfl) rfl
theorem q_p6 : Cond.selects RX8 yX8_offerBehind yX8_offerBehind ∈ jAll := jm_p (List.mem_of_getElem? (i := 6) rfl) rfl
theorem q_p7 : Cond.selects RX8 yX8_rateBehind yX8_rateBehind ∈ jAll := jm_p (List.mem_of_getElem? (i := 7) rfl) rfl
theorem q_p8 : Cond.selects RX8 yX8_rateOf yX8_rateOf ∈ jAll := jm_p (List.mem_of_getElem? (i := 8) rfl) rfl
theorem q_p9 : Cond.selects RX8 yX8_late yX8_late ∈ jAll := jm_p (List.mem_of_getElem? (i := 9) rfl) rfl
theorem q_p10 : Cond.selects RX8 yX8_riskOf yX8_riskOf ∈ jAll := jm_p (List.mem_of_getElem? (i := 10) rfl) rfl
theorem q_p11 : Cond.selects RX8 yX8_reserve yX8_reserve ∈ jAll := jm_p (List.mem_of_getElem? (i := 11) rfl) rfl
theorem q_p12 : Cond.selects RX8 yX8_allDues yX8_allDues ∈ jAll := jm_p (List.mem_of_getElem? (i := 12) rfl) rfl
theorem q_p13 : Cond.selects RX8 yX8_payFault yX8_payFault ∈ jAll := jm_p (List.mem_of_getElem? (i := 13) rfl) rfl
theorem q_p14 : Cond.selects RX8 yX8_pays yX8_pays ∈ jAll := jm_p (List.mem_of_getElem? (i := 14) rfl) rfl
theorem q_p15 : Cond.selects RX8 yX8_mayGiveUp yX8_mayGiveUp ∈ jAll := jm_p (List.mem_of_getElem? (i := 15) rfl) rfl
theorem q_p16 : Cond.selects RX8 yX8_share yX8_share ∈ jAll := jm_p (List.mem_of_getElem? (i := 16) rfl) rfl
theorem q_p17 : Cond.selects RX8 yX8_go yX8_go ∈ jAll := jm_p (List.mem_of_getElem? (i := 17) rfl) rfl
theorem q_p18 : Cond.selects RX8 yX8_number yX8_number ∈ jAll := jm_p (List.mem_of_getElem? (i := 18) rfl) rfl
theorem q_p19 : Cond.selects RX8 yX8_sign yX8_sign ∈ jAll := jm_p (List.mem_of_getElem? (i := 19) rfl) rfl
theorem q_p20 : Cond.selects RX8 yX8_swap yX8_swap ∈ jAll := jm_p (List.mem_of_getElem? (i := 20) rfl) rfl
theorem q_p21 : Cond.selects RX8 yX8_invoices yX8_invoices ∈ jAll := jm_p (List.mem_of_getElem? (i := 21) rfl) rfl
theorem q_p22 : Cond.selects RX8 yX8_worthOf yX8_worthOf ∈ jAll := jm_p (List.mem_of_getElem? (i := 22) rfl) rfl
def jNest : List Cond := [Cond.methodLinkNest RX0 11 yX4_init RX7, Cond.methodLinkNest RX0 20 yX1_init RX7, Cond.methodLinkNest RX0 27 yX3_init RX7, Cond.methodLinkNest RX7 31 yX6_init RX7, Cond.methodLinkNest RX7 38 yX5_init RX7, Cond.methodLinkNest RX4 32 yX7_copyRow RX7, Cond.methodLinkNest RX1 29 yX7_copyRow RX7, Cond.methodLinkNest RX3 44 yX7_copyRow RX7, Cond.methodLinkNest RX0 162 yX7_copyRow RX7, Cond.methodLinkNest RX0 64 yX7_noNumber RX7, Cond.methodLinkNest RX1 25 yX7_noNumber RX7]
