def jAll : List Cond := lw_tbl.filter goodWord
theorem jm_1 {w : Cond} (h : w ∈ tables_1_1) (hg : goodWord w = true) : w ∈ jAll := List.mem_filter.mpr ⟨List.mem_append_right _ (List.mem_append_left _ h), hg⟩
theorem jm_2 {w : Cond} (h : w ∈ tables_1_2) (hg : goodWord w = true) : w ∈ jAll := List.mem_filter.mpr ⟨List.mem_append_right _ (List.mem_append_right _ (List.mem_append_left _ h)), hg⟩
theorem jm_3 {w : Cond} (h : w ∈ tables_1_3) (hg : goodWord w = true) : w ∈ jAll := List.mem_filter.mpr ⟨List.mem_append_right _ (List.mem_append_right _ (List.mem_append_right _ h)), hg⟩
theorem jm_p {w : Cond} (h : w ∈ k2_sels lw_privs) (hg : goodWord w = true) : w ∈ jAll := List.mem_filter.mpr ⟨List.mem_append_left _ h, hg⟩
theorem jgood {ws : List Cond} (h : ∀ w ∈ ws, w ∈ jAll) : GoodIn jAll ws := fun w hw => ⟨h w hw, good_of_word (List.mem_filter.mp (h w hw)).2⟩
theorem q_0 : Cond.initialized RL ∈ jAll := jm_1 (List.mem_of_getElem? (i := 0) rfl) rfl
theorem q_1 : Cond.initialized RX7 ∈ jAll := jm_1 (List.mem_of_getElem? (i := 1) rfl) rfl
theorem q_2 : Cond.initialized RX0 ∈ jAll := jm_1 (List.mem_of_getElem? (i := 2) rfl) rfl
theorem q_3 : Cond.initialized RX4 ∈ jAll := jm_1 (List.mem_of_getElem? (i := 3) rfl) rfl
theorem q_4 : Cond.initialized RX1 ∈ jAll := jm_1 (List.mem_of_getElem? (i := 4) rfl) rfl
theorem q_5 : Cond.initialized RX3 ∈ jAll := jm_1 (List.mem_of_getElem? (i := 5) rfl) rfl
theorem q_6 : Cond.initialized RX2 ∈ jAll := jm_1 (List.mem_of_getElem? (i := 6) rfl) rfl
theorem q_7 : Cond.initialized RX6 ∈ jAll := jm_1 (List.mem_of_getElem? (i := 7) rfl) rfl
theorem q_8 : Cond.initialized RX5 ∈ jAll := jm_1 (List.mem_of_getElem? (i := 8) rfl) rfl
theorem q_9 : Cond.classLink RL 9 RX7 ∈ jAll := jm_1 (List.mem_of_getElem? (i := 9) rfl) rfl
theorem q_10 : Cond.instantiable RX7 9 ∈ jAll := jm_1 (List.mem_of_getElem? (i := 10) rfl) rfl
theorem q_11 : Cond.methodLink RL 73 yX7_init ∈ jAll := jm_1 (List.mem_of_getElem? (i := 11) rfl) rfl
theorem q_12 : Cond.instanceMethod yX7_init ∈ jAll := jm_1 (List.mem_of_getElem? (i := 12) rfl) rfl
theorem q_13 : Cond.code yX7_init cX7_init 1 (none : Option FieldType) ∈ jAll := jm_1 (List.mem_of_getElem? (i := 13) rfl) rfl
theorem q_14 : Cond.methodLink RX7 1 objectInit ∈ jAll := jm_1 (List.mem_of_getElem? (i := 14) rfl) rfl
theorem q_15 : Cond.instanceMethod objectInit ∈ jAll := jm_1 (List.mem_of_getElem? (i := 15) rfl) rfl
theorem q_16 : Cond.code objectInit object_method_1_code 1 (none : Option FieldType) ∈ jAll := jm_1 (List.mem_of_getElem? (i := 16) rfl) rfl
theorem q_17 : Cond.classLink RX7 7 RX0 ∈ jAll := jm_1 (List.mem_of_getElem? (i := 17) rfl) rfl
theorem q_18 : Cond.instantiable RX0 11 ∈ jAll := jm_1 (List.mem_of_getElem? (i := 18) rfl) rfl
theorem q_19 : Cond.methodLink RX7 9 yX0_init ∈ jAll := jm_1 (List.mem_of_getElem? (i := 19) rfl) rfl
theorem q_20 : Cond.instanceMethod yX0_init ∈ jAll := jm_1 (List.mem_of_getElem? (i := 20) rfl) rfl
theorem q_21 : Cond.code yX0_init cX0_init 1 (none : Option FieldType) ∈ jAll := jm_1 (List.mem_of_getElem? (i := 21) rfl) rfl
theorem q_22 : Cond.methodLink RX0 3 objectInit ∈ jAll := jm_1 (List.mem_of_getElem? (i := 22) rfl) rfl
theorem q_23 : Cond.classLink RX0 9 RX4 ∈ jAll := jm_1 (List.mem_of_getElem? (i := 23) rfl) rfl
theorem q_24 : Cond.instantiable RX4 5 ∈ jAll := jm_1 (List.mem_of_getElem? (i := 24) rfl) rfl
theorem q_26 : Cond.instanceMethod yX4_init ∈ jAll := jm_1 (List.mem_of_getElem? (i := 26) rfl) rfl
theorem q_27 : Cond.code yX4_init cX4_init 1 (none : Option FieldType) ∈ jAll := jm_1 (List.mem_of_getElem? (i := 27) rfl) rfl
theorem q_28 : Cond.methodLink RX4 3 objectInit ∈ jAll := jm_1 (List.mem_of_getElem? (i := 28) rfl) rfl
theorem q_29 : Cond.fieldLink RX4 9 RX4 "weight" "[I" ∈ jAll := jm_1 (List.mem_of_getElem? (i := 29) rfl) rfl
theorem q_30 : Cond.fieldLink RX0 143 RX4 "weight" "[I" ∈ jAll := jm_1 (List.mem_of_getElem? (i := 30) rfl) rfl
theorem q_31 : Cond.fieldLink RX7 178 RX4 "weight" "[I" ∈ jAll := jm_1 (List.mem_of_getElem? (i := 31) rfl) rfl
theorem q_32 : Cond.fieldLink RX4 15 RX4 "dues" "[I" ∈ jAll := jm_1 (List.mem_of_getElem? (i := 32) rfl) rfl
theorem q_33 : Cond.fieldLink RX7 93 RX4 "dues" "[I" ∈ jAll := jm_1 (List.mem_of_getElem? (i := 33) rfl) rfl
theorem q_34 : Cond.fieldLink RX4 18 RX4 "purse" "[I" ∈ jAll := jm_1 (List.mem_of_getElem? (i := 34) rfl) rfl
theorem q_35 : Cond.fieldLink RX7 181 RX4 "purse" "[I" ∈ jAll := jm_1 (List.mem_of_getElem? (i := 35) rfl) rfl
theorem q_36 : Cond.fieldLink RX4 21 RX4 "borne" "[I" ∈ jAll := jm_1 (List.mem_of_getElem? (i := 36) rfl) rfl
theorem q_37 : Cond.fieldLink RX7 191 RX4 "borne" "[I" ∈ jAll := jm_1 (List.mem_of_getElem? (i := 37) rfl) rfl
theorem q_38 : Cond.fieldLink RX4 24 RX4 "size" "I" ∈ jAll := jm_1 (List.mem_of_getElem? (i := 38) rfl) rfl
theorem q_39 : Cond.fieldLink RX7 79 RX4 "size" "I" ∈ jAll := jm_1 (List.mem_of_getElem? (i := 39) rfl) rfl
theorem q_40 : Cond.laysFinal RX4 RX4 "weight" "[I" ∈ jAll := jm_1 (List.mem_of_getElem? (i := 40) rfl) rfl
theorem q_42 : Cond.laysFinal RX4 RX4 "dues" "[I" ∈ jAll := jm_1 (List.mem_of_getElem? (i := 42) rfl) rfl
theorem q_44 : Cond.laysFinal RX4 RX4 "purse" "[I" ∈ jAll := jm_1 (List.mem_of_getElem? (i := 44) rfl) rfl
theorem q_46 : Cond.laysFinal RX4 RX4 "borne" "[I" ∈ jAll := jm_1 (List.mem_of_getElem? (i := 46) rfl) rfl
theorem q_48 : Cond.lays RX4 RX4 "size" "I" ∈ jAll := jm_1 (List.mem_of_getElem? (i := 48) rfl) rfl
theorem q_50 : Cond.superclass RX4 "java/lang/Object" ∈ jAll := jm_1 (List.mem_of_getElem? (i := 50) rfl) rfl
theorem q_51 : Cond.arrayClass FieldType.int ∈ jAll := jm_1 (List.mem_of_getElem? (i := 51) rfl) rfl
theorem q_52 : Cond.classLink RX0 18 RX1 ∈ jAll := jm_1 (List.mem_of_getElem? (i := 52) rfl) rfl
theorem q_53 : Cond.instantiable RX1 3 ∈ jAll := jm_1 (List.mem_of_getElem? (i := 53) rfl) rfl
theorem q_55 : Cond.instanceMethod yX1_init ∈ jAll := jm_1 (List.mem_of_getElem? (i := 55) rfl) rfl
theorem q_56 : Cond.code yX1_init cX1_init 1 (none : Option FieldType) ∈ jAll := jm_1 (List.mem_of_getElem? (i := 56) rfl) rfl
theorem q_57 : Cond.methodLink RX1 3 objectInit ∈ jAll := jm_1 (List.mem_of_getElem? (i := 57) rfl) rfl
theorem q_58 : Cond.fieldLink RX1 9 RX1 "settled" "[I" ∈ jAll := jm_1 (List.mem_of_getElem? (i := 58) rfl) rfl
theorem q_59 : Cond.fieldLink RX7 194 RX1 "settled" "[I" ∈ jAll := jm_1 (List.mem_of_getElem? (i := 59) rfl) rfl
theorem q_60 : Cond.fieldLink RX1 15 RX1 "lost" "[I" ∈ jAll := jm_1 (List.mem_of_getElem? (i := 60) rfl) rfl
theorem q_61 : Cond.fieldLink RX7 197 RX1 "lost" "[I" ∈ jAll := jm_1 (List.mem_of_getElem? (i := 61) rfl) rfl
theorem q_62 : Cond.fieldLink RX1 18 RX1 "daysLate" "[I" ∈ jAll := jm_1 (List.mem_of_getElem? (i := 62) rfl) rfl
theorem q_63 : Cond.fieldLink RX7 200 RX1 "daysLate" "[I" ∈ jAll := jm_1 (List.mem_of_getElem? (i := 63) rfl) rfl
theorem q_64 : Cond.laysFinal RX1 RX1 "settled" "[I" ∈ jAll := jm_1 (List.mem_of_getElem? (i := 64) rfl) rfl
theorem q_66 : Cond.laysFinal RX1 RX1 "lost" "[I" ∈ jAll := jm_1 (List.mem_of_getElem? (i := 66) rfl) rfl
theorem q_68 : Cond.laysFinal RX1 RX1 "daysLate" "[I" ∈ jAll := jm_1 (List.mem_of_getElem? (i := 68) rfl) rfl
theorem q_70 : Cond.superclass RX1 "java/lang/Object" ∈ jAll := jm_1 (List.mem_of_getElem? (i := 70) rfl) rfl
theorem q_71 : Cond.classLink RX0 25 RX3 ∈ jAll := jm_1 (List.mem_of_getElem? (i := 71) rfl) rfl
theorem q_72 : Cond.instantiable RX3 8 ∈ jAll := jm_1 (List.mem_of_getElem? (i := 72) rfl) rfl
theorem q_74 : Cond.instanceMethod yX3_init ∈ jAll := jm_1 (List.mem_of_getElem? (i := 74) rfl) rfl
theorem q_75 : Cond.code yX3_init cX3_init 1 (none : Option FieldType) ∈ jAll := jm_1 (List.mem_of_getElem? (i := 75) rfl) rfl
theorem q_76 : Cond.methodLink RX3 3 objectInit ∈ jAll := jm_1 (List.mem_of_getElem? (i := 76) rfl) rfl
theorem q_77 : Cond.fieldLink RX3 9 RX3 "member" "[I" ∈ jAll := jm_1 (List.mem_of_getElem? (i := 77) rfl) rfl
theorem q_78 : Cond.fieldLink RX0 107 RX3 "member" "[I" ∈ jAll := jm_1 (List.mem_of_getElem? (i := 78) rfl) rfl
theorem q_79 : Cond.fieldLink RX7 212 RX3 "member" "[I" ∈ jAll := jm_1 (List.mem_of_getElem? (i := 79) rfl) rfl
theorem q_80 : Cond.fieldLink RX3 15 RX3 "client" "[I" ∈ jAll := jm_1 (List.mem_of_getElem? (i := 80) rfl) rfl
theorem q_81 : Cond.fieldLink RX0 72 RX3 "client" "[I" ∈ jAll := jm_1 (List.mem_of_getElem? (i := 81) rfl) rfl
theorem q_82 : Cond.fieldLink RX7 215 RX3 "client" "[I" ∈ jAll := jm_1 (List.mem_of_getElem? (i := 82) rfl) rfl
theorem q_83 : Cond.fieldLink RX3 18 RX3 "amount" "[I" ∈ jAll := jm_1 (List.mem_of_getElem? (i := 83) rfl) rfl
theorem q_84 : Cond.fieldLink RX0 79 RX3 "amount" "[I" ∈ jAll := jm_1 (List.mem_of_getElem? (i := 84) rfl) rfl
theorem q_85 : Cond.fieldLink RX7 218 RX3 "amount" "[I" ∈ jAll := jm_1 (List.mem_of_getElem? (i := 85) rfl) rfl
theorem q_86 : Cond.fieldLink RX3 21 RX3 "due" "[I" ∈ jAll := jm_1 (List.mem_of_getElem? (i := 86) rfl) rfl
theorem q_87 : Cond.fieldLink RX0 57 RX3 "due" "[I" ∈ jAll := jm_1 (List.mem_of_getElem? (i := 87) rfl) rfl
theorem q_88 : Cond.fieldLink RX7 221 RX3 "due" "[I" ∈ jAll := jm_1 (List.mem_of_getElem? (i := 88) rfl) rfl
theorem q_89 : Cond.fieldLink RX3 24 RX3 "state" "[I" ∈ jAll := jm_1 (List.mem_of_getElem? (i := 89) rfl) rfl
theorem q_90 : Cond.fieldLink RX0 89 RX3 "state" "[I" ∈ jAll := jm_1 (List.mem_of_getElem? (i := 90) rfl) rfl
theorem q_91 : Cond.fieldLink RX7 224 RX3 "state" "[I" ∈ jAll := jm_1 (List.mem_of_getElem? (i := 91) rfl) rfl
theorem q_92 : Cond.fieldLink RX3 27 RX3 "paid" "[I" ∈ jAll := jm_1 (List.mem_of_getElem? (i := 92) rfl) rfl
theorem q_93 : Cond.fieldLink RX0 92 RX3 "paid" "[I" ∈ jAll := jm_1 (List.mem_of_getElem? (i := 93) rfl) rfl
theorem q_94 : Cond.fieldLink RX7 227 RX3 "paid" "[I" ∈ jAll := jm_1 (List.mem_of_getElem? (i := 94) rfl) rfl
theorem q_95 : Cond.fieldLink RX3 30 RX3 "advance" "[I" ∈ jAll := jm_1 (List.mem_of_getElem? (i := 95) rfl) rfl
theorem q_96 : Cond.fieldLink RX0 104 RX3 "advance" "[I" ∈ jAll := jm_1 (List.mem_of_getElem? (i := 96) rfl) rfl
theorem q_97 : Cond.fieldLink RX7 230 RX3 "advance" "[I" ∈ jAll := jm_1 (List.mem_of_getElem? (i := 97) rfl) rfl
theorem q_98 : Cond.fieldLink RX3 33 RX3 "size" "I" ∈ jAll := jm_1 (List.mem_of_getElem? (i := 98) rfl) rfl
theorem q_99 : Cond.fieldLink RX7 111 RX3 "size" "I" ∈ jAll := jm_1 (List.mem_of_getElem? (i := 99) rfl) rfl
theorem q_100 : Cond.laysFinal RX3 RX3 "member" "[I" ∈ jAll := jm_1 (List.mem_of_getElem? (i := 100) rfl) rfl
theorem q_102 : Cond.laysFinal RX3 RX3 "client" "[I" ∈ jAll := jm_1 (List.mem_of_getElem? (i := 102) rfl) rfl
theorem q_104 : Cond.laysFinal RX3 RX3 "amount" "[I" ∈ jAll := jm_1 (List.mem_of_getElem? (i := 104) rfl) rfl
theorem q_106 : Cond.laysFinal RX3 RX3 "due" "[I" ∈ jAll := jm_1 (List.mem_of_getElem? (i := 106) rfl) rfl
theorem q_108 : Cond.laysFinal RX3 RX3 "state" "[I" ∈ jAll := jm_1 (List.mem_of_getElem? (i := 108) rfl) rfl
theorem q_110 : Cond.laysFinal RX3 RX3 "paid" "[I" ∈ jAll := jm_1 (List.mem_of_getElem? (i := 110) rfl) rfl
theorem q_112 : Cond.laysFinal RX3 RX3 "advance" "[I" ∈ jAll := jm_1 (List.mem_of_getElem? (i := 112) rfl) rfl
theorem q_114 : Cond.lays RX3 RX3 "size" "I" ∈ jAll := jm_1 (List.mem_of_getElem? (i := 114) rfl) rfl
theorem q_116 : Cond.superclass RX3 "java/lang/Object" ∈ jAll := jm_1 (List.mem_of_getElem? (i := 116) rfl) rfl
theorem q_117 : Cond.constantFloat RX0 40 (1063675494 : UInt32) ∈ jAll := jm_1 (List.mem_of_getElem? (i := 117) rfl) rfl
theorem q_118 : Cond.constantFloat RX0 41 (1000593162 : UInt32) ∈ jAll := jm_1 (List.mem_of_getElem? (i := 118) rfl) rfl
theorem q_119 : Cond.constantFloat RX0 42 (1036831949 : UInt32) ∈ jAll := jm_1 (List.mem_of_getElem? (i := 119) rfl) rfl
theorem q_120 : Cond.fieldLink RX0 12 RX0 "members" "LGuildFund$Members;" ∈ jAll := jm_1 (List.mem_of_getElem? (i := 120) rfl) rfl
theorem q_121 : Cond.fieldLink RX7 75 RX0 "members" "LGuildFund$Members;" ∈ jAll := jm_1 (List.mem_of_getElem? (i := 121) rfl) rfl
theorem q_122 : Cond.fieldLink RX0 21 RX0 "clients" "LGuildFund$Clients;" ∈ jAll := jm_1 (List.mem_of_getElem? (i := 122) rfl) rfl
theorem q_123 : Cond.fieldLink RX7 100 RX0 "clients" "LGuildFund$Clients;" ∈ jAll := jm_1 (List.mem_of_getElem? (i := 123) rfl) rfl
theorem q_124 : Cond.fieldLink RX0 28 RX0 "invoices" "LGuildFund$Invoices;" ∈ jAll := jm_1 (List.mem_of_getElem? (i := 124) rfl) rfl
theorem q_125 : Cond.fieldLink RX7 107 RX0 "invoices" "LGuildFund$Invoices;" ∈ jAll := jm_1 (List.mem_of_getElem? (i := 125) rfl) rfl
theorem q_126 : Cond.fieldLink RX0 32 RX0 "rates" "[F" ∈ jAll := jm_1 (List.mem_of_getElem? (i := 126) rfl) rfl
theorem q_127 : Cond.fieldLink RX7 58 RX0 "rates" "[F" ∈ jAll := jm_1 (List.mem_of_getElem? (i := 127) rfl) rfl
theorem q_128 : Cond.fieldLink RX0 36 RX0 "numbers" "[I" ∈ jAll := jm_1 (List.mem_of_getElem? (i := 128) rfl) rfl
theorem q_129 : Cond.fieldLink RX7 72 RX0 "numbers" "[I" ∈ jAll := jm_1 (List.mem_of_getElem? (i := 129) rfl) rfl
theorem q_130 : Cond.fieldLink RX0 53 RX0 "day" "I" ∈ jAll := jm_1 (List.mem_of_getElem? (i := 130) rfl) rfl
theorem q_131 : Cond.fieldLink RX7 156 RX0 "day" "I" ∈ jAll := jm_1 (List.mem_of_getElem? (i := 131) rfl) rfl
theorem q_132 : Cond.fieldLink RX7 97 RX0 "balance" "I" ∈ jAll := jm_1 (List.mem_of_getElem? (i := 132) rfl) rfl
theorem q_133 : Cond.fieldLink RX0 95 RX0 "balance" "I" ∈ jAll := jm_1 (List.mem_of_getElem? (i := 133) rfl) rfl
theorem q_134 : Cond.fieldLink RX0 114 RX0 "advanced" "I" ∈ jAll := jm_1 (List.mem_of_getElem? (i := 134) rfl) rfl
theorem q_135 : Cond.fieldLink RX7 266 RX0 "advanced" "I" ∈ jAll := jm_1 (List.mem_of_getElem? (i := 135) rfl) rfl
theorem q_136 : Cond.fieldLink RX0 117 RX0 "collected" "I" ∈ jAll := jm_1 (List.mem_of_getElem? (i := 136) rfl) rfl
theorem q_137 : Cond.fieldLink RX7 269 RX0 "collected" "I" ∈ jAll := jm_1 (List.mem_of_getElem? (i := 137) rfl) rfl
theorem q_138 : Cond.fieldLink RX0 130 RX0 "passedOn" "I" ∈ jAll := jm_1 (List.mem_of_getElem? (i := 138) rfl) rfl
theorem q_139 : Cond.fieldLink RX7 272 RX0 "passedOn" "I" ∈ jAll := jm_1 (List.mem_of_getElem? (i := 139) rfl) rfl
theorem q_140 : Cond.fieldLink RX0 149 RX0 "shared" "I" ∈ jAll := jm_1 (List.mem_of_getElem? (i := 140) rfl) rfl
theorem q_141 : Cond.fieldLink RX7 275 RX0 "shared" "I" ∈ jAll := jm_1 (List.mem_of_getElem? (i := 141) rfl) rfl
theorem q_142 : Cond.laysFinal RX0 RX0 "members" "LGuildFund$Members;" ∈ jAll := jm_1 (List.mem_of_getElem? (i := 142) rfl) rfl
theorem q_144 : Cond.laysFinal RX0 RX0 "clients" "LGuildFund$Clients;" ∈ jAll := jm_1 (List.mem_of_getElem? (i := 144) rfl) rfl
theorem q_146 : Cond.laysFinal RX0 RX0 "invoices" "LGuildFund$Invoices;" ∈ jAll := jm_1 (List.mem_of_getElem? (i := 146) rfl) rfl
theorem q_148 : Cond.laysFinal RX0 RX0 "rates" "[F" ∈ jAll := jm_1 (List.mem_of_getElem? (i := 148) rfl) rfl
theorem q_150 : Cond.laysFinal RX0 RX0 "numbers" "[I" ∈ jAll := jm_1 (List.mem_of_getElem? (i := 150) rfl) rfl
theorem q_152 : Cond.lays RX0 RX0 "day" "I" ∈ jAll := jm_1 (List.mem_of_getElem? (i := 152) rfl) rfl
theorem q_154 : Cond.lays RX0 RX0 "balance" "I" ∈ jAll := jm_1 (List.mem_of_getElem? (i := 154) rfl) rfl
theorem q_156 : Cond.lays RX0 RX0 "advanced" "I" ∈ jAll := jm_1 (List.mem_of_getElem? (i := 156) rfl) rfl
theorem q_158 : Cond.lays RX0 RX0 "collected" "I" ∈ jAll := jm_1 (List.mem_of_getElem? (i := 158) rfl) rfl
theorem q_160 : Cond.lays RX0 RX0 "passedOn" "I" ∈ jAll := jm_1 (List.mem_of_getElem? (i := 160) rfl) rfl
theorem q_162 : Cond.lays RX0 RX0 "shared" "I" ∈ jAll := jm_1 (List.mem_of_getElem? (i := 162) rfl) rfl
theorem q_164 : Cond.superclass RX0 "java/lang/Object" ∈ jAll := jm_1 (List.mem_of_getElem? (i := 164) rfl) rfl
theorem q_165 : Cond.arrayClass FieldType.float ∈ jAll := jm_1 (List.mem_of_getElem? (i := 165) rfl) rfl
theorem q_166 : Cond.classLink RX7 22 RX2 ∈ jAll := jm_1 (List.mem_of_getElem? (i := 166) rfl) rfl
theorem q_167 : Cond.instantiable RX2 3 ∈ jAll := jm_1 (List.mem_of_getElem? (i := 167) rfl) rfl
theorem q_168 : Cond.methodLink RX7 24 yX2_init ∈ jAll := jm_1 (List.mem_of_getElem? (i := 168) rfl) rfl
theorem q_169 : Cond.instanceMethod yX2_init ∈ jAll := jm_1 (List.mem_of_getElem? (i := 169) rfl) rfl
theorem q_170 : Cond.code yX2_init cX2_init 2 (none : Option FieldType) ∈ jAll := jm_1 (List.mem_of_getElem? (i := 170) rfl) rfl
theorem q_171 : Cond.methodLink RX2 3 objectInit ∈ jAll := jm_1 (List.mem_of_getElem? (i := 171) rfl) rfl
theorem q_172 : Cond.classLink RX2 9 RX0 ∈ jAll := jm_1 (List.mem_of_getElem? (i := 172) rfl) rfl
theorem q_174 : Cond.methodLink RX2 17 yX0_init ∈ jAll := jm_1 (List.mem_of_getElem? (i := 174) rfl) rfl
theorem q_175 : Cond.fieldLink RX2 11 RX2 "states" "[LGuildFund$Book;" ∈ jAll := jm_1 (List.mem_of_getElem? (i := 175) rfl) rfl
theorem q_176 : Cond.fieldLink RX2 18 RX2 "next" "I" ∈ jAll := jm_1 (List.mem_of_getElem? (i := 176) rfl) rfl
theorem q_177 : Cond.fieldLink RX2 30 RX2 "size" "I" ∈ jAll := jm_1 (List.mem_of_getElem? (i := 177) rfl) rfl
theorem q_178 : Cond.fieldLink RX7 166 RX2 "size" "I" ∈ jAll := jm_1 (List.mem_of_getElem? (i := 178) rfl) rfl
theorem q_179 : Cond.laysFinal RX2 RX2 "states" "[LGuildFund$Book;" ∈ jAll := jm_1 (List.mem_of_getElem? (i := 179) rfl) rfl
theorem q_181 : Cond.lays RX2 RX2 "next" "I" ∈ jAll := jm_1 (List.mem_of_getElem? (i := 181) rfl) rfl
theorem q_183 : Cond.lays RX2 RX2 "size" "I" ∈ jAll := jm_1 (List.mem_of_getElem? (i := 183) rfl) rfl
theorem q_185 : Cond.superclass RX2 "java/lang/Object" ∈ jAll := jm_1 (List.mem_of_getElem? (i := 185) rfl) rfl
theorem q_186 : Cond.classLink RX7 29 RX6 ∈ jAll := jm_1 (List.mem_of_getElem? (i := 186) rfl) rfl
theorem q_187 : Cond.instantiable RX6 5 ∈ jAll := jm_1 (List.mem_of_getElem? (i := 187) rfl) rfl
theorem q_189 : Cond.instanceMethod yX6_init ∈ jAll := jm_1 (List.mem_of_getElem? (i := 189) rfl) rfl
theorem q_190 : Cond.code yX6_init cX6_init 1 (none : Option FieldType) ∈ jAll := jm_1 (List.mem_of_getElem? (i := 190) rfl) rfl
theorem q_191 : Cond.methodLink RX6 3 objectInit ∈ jAll := jm_1 (List.mem_of_getElem? (i := 191) rfl) rfl
theorem q_192 : Cond.fieldLink RX6 9 RX6 "signs" "[C" ∈ jAll := jm_1 (List.mem_of_getElem? (i := 192) rfl) rfl
theorem q_193 : Cond.fieldLink RX6 15 RX6 "invoices" "[I" ∈ jAll := jm_1 (List.mem_of_getElem? (i := 193) rfl) rfl
theorem q_194 : Cond.fieldLink RX6 19 RX6 "cents" "[I" ∈ jAll := jm_1 (List.mem_of_getElem? (i := 194) rfl) rfl
theorem q_195 : Cond.fieldLink RX7 163 RX6 "length" "I" ∈ jAll := jm_1 (List.mem_of_getElem? (i := 195) rfl) rfl
theorem q_196 : Cond.laysFinal RX6 RX6 "signs" "[C" ∈ jAll := jm_1 (List.mem_of_getElem? (i := 196) rfl) rfl
theorem q_198 : Cond.laysFinal RX6 RX6 "invoices" "[I" ∈ jAll := jm_1 (List.mem_of_getElem? (i := 198) rfl) rfl
theorem q_200 : Cond.laysFinal RX6 RX6 "cents" "[I" ∈ jAll := jm_1 (List.mem_of_getElem? (i := 200) rfl) rfl
theorem q_202 : Cond.lays RX6 RX6 "length" "I" ∈ jAll := jm_1 (List.mem_of_getElem? (i := 202) rfl) rfl
theorem q_204 : Cond.lays RX6 RX6 "payments" "I" ∈ jAll := jm_1 (List.mem_of_getElem? (i := 204) rfl) rfl
theorem q_206 : Cond.superclass RX6 "java/lang/Object" ∈ jAll := jm_1 (List.mem_of_getElem? (i := 206) rfl) rfl
theorem q_207 : Cond.arrayClass FieldType.char ∈ jAll := jm_1 (List.mem_of_getElem? (i := 207) rfl) rfl
theorem q_208 : Cond.classLink RX7 36 RX5 ∈ jAll := jm_1 (List.mem_of_getElem? (i := 208) rfl) rfl
theorem q_209 : Cond.instantiable RX5 3 ∈ jAll := jm_1 (List.mem_of_getElem? (i := 209) rfl) rfl
theorem q_211 : Cond.instanceMethod yX5_init ∈ jAll := jm_1 (List.mem_of_getElem? (i := 211) rfl) rfl
theorem q_212 : Cond.code yX5_init cX5_init 1 (none : Option FieldType) ∈ jAll := jm_1 (List.mem_of_getElem? (i := 212) rfl) rfl
theorem q_213 : Cond.methodLink RX5 3 objectInit ∈ jAll := jm_1 (List.mem_of_getElem? (i := 213) rfl) rfl
theorem q_214 : Cond.fieldLink RX5 9 RX5 "invoices" "[I" ∈ jAll := jm_1 (List.mem_of_getElem? (i := 214) rfl) rfl
theorem q_215 : Cond.fieldLink RX5 15 RX5 "worths" "[F" ∈ jAll := jm_1 (List.mem_of_getElem? (i := 215) rfl) rfl
theorem q_216 : Cond.fieldLink RX5 19 RX5 "size" "I" ∈ jAll := jm_1 (List.mem_of_getElem? (i := 216) rfl) rfl
theorem q_217 : Cond.fieldLink RX7 246 RX5 "size" "I" ∈ jAll := jm_1 (List.mem_of_getElem? (i := 217) rfl) rfl
theorem q_218 : Cond.laysFinal RX5 RX5 "invoices" "[I" ∈ jAll := jm_1 (List.mem_of_getElem? (i := 218) rfl) rfl
theorem q_220 : Cond.laysFinal RX5 RX5 "worths" "[F" ∈ jAll := jm_1 (List.mem_of_getElem? (i := 220) rfl) rfl
theorem q_222 : Cond.lays RX5 RX5 "size" "I" ∈ jAll := jm_1 (List.mem_of_getElem? (i := 222) rfl) rfl
theorem q_224 : Cond.superclass RX5 "java/lang/Object" ∈ jAll := jm_1 (List.mem_of_getElem? (i := 224) rfl) rfl
theorem q_225 : Cond.fieldLink RX7 10 RX7 "now" "LGuildFund$Book;" ∈ jAll := jm_1 (List.mem_of_getElem? (i := 225) rfl) rfl
theorem q_226 : Cond.fieldLink RX7 16 RX7 "before" "LGuildFund$Book;" ∈ jAll := jm_1 (List.mem_of_getElem? (i := 226) rfl) rfl
theorem q_227 : Cond.fieldLink RX7 19 RX7 "snapshot" "LGuildFund$Book;" ∈ jAll := jm_1 (List.mem_of_getElem? (i := 227) rfl) rfl
theorem q_228 : Cond.fieldLink RX7 25 RX7 "history" "LGuildFund$History;" ∈ jAll := jm_1 (List.mem_of_getElem? (i := 228) rfl) rfl
theorem q_229 : Cond.fieldLink RX7 32 RX7 "text" "LGuildFund$Text;" ∈ jAll := jm_1 (List.mem_of_getElem? (i := 229) rfl) rfl
theorem q_230 : Cond.fieldLink RX7 39 RX7 "ranking" "LGuildFund$Ranking;" ∈ jAll := jm_1 (List.mem_of_getElem? (i := 230) rfl) rfl
theorem q_231 : Cond.fieldLink RX7 43 RX7 "refusedError" "I" ∈ jAll := jm_1 (List.mem_of_getElem? (i := 231) rfl) rfl
theorem q_232 : Cond.laysFinal RX7 RX7 "now" "LGuildFund$Book;" ∈ jAll := jm_1 (List.mem_of_getElem? (i := 232) rfl) rfl
theorem q_234 : Cond.laysFinal RX7 RX7 "before" "LGuildFund$Book;" ∈ jAll := jm_1 (List.mem_of_getElem? (i := 234) rfl) rfl
theorem q_236 : Cond.laysFinal RX7 RX7 "snapshot" "LGuildFund$Book;" ∈ jAll := jm_1 (List.mem_of_getElem? (i := 236) rfl) rfl
theorem q_238 : Cond.laysFinal RX7 RX7 "history" "LGuildFund$History;" ∈ jAll := jm_1 (List.mem_of_getElem? (i := 238) rfl) rfl
theorem q_240 : Cond.laysFinal RX7 RX7 "text" "LGuildFund$Text;" ∈ jAll := jm_2 (List.mem_of_getElem? (i := 0) rfl) rfl
theorem q_242 : Cond.laysFinal RX7 RX7 "ranking" "LGuildFund$Ranking;" ∈ jAll := jm_2 (List.mem_of_getElem? (i := 2) rfl) rfl
theorem q_244 : Cond.lays RX7 RX7 "kept" "Z" ∈ jAll := jm_2 (List.mem_of_getElem? (i := 4) rfl) rfl
theorem q_246 : Cond.lays RX7 RX7 "refusedPayment" "I" ∈ jAll := jm_2 (List.mem_of_getElem? (i := 6) rfl) rfl
theorem q_248 : Cond.lays RX7 RX7 "refusedError" "I" ∈ jAll := jm_2 (List.mem_of_getElem? (i := 8) rfl) rfl
theorem q_250 : Cond.superclass RX7 "java/lang/Object" ∈ jAll := jm_2 (List.mem_of_getElem? (i := 10) rfl) rfl
theorem q_251 : Cond.methodLink RL 20 yX7_addMember ∈ jAll := jm_2 (List.mem_of_getElem? (i := 11) rfl) rfl
theorem q_252 : Cond.instanceMethod yX7_addMember ∈ jAll := jm_2 (List.mem_of_getElem? (i := 12) rfl) rfl
theorem q_253 : Cond.selects RX7 yX7_addMember yX7_addMember ∈ jAll := jm_2 (List.mem_of_getElem? (i := 13) rfl) rfl
theorem q_254 : Cond.code yX7_addMember cX7_addMember 2 (some .int) ∈ jAll := jm_2 (List.mem_of_getElem? (i := 14) rfl) rfl
theorem q_255 : Cond.methodLink RX7 62 yX2_push ∈ jAll := jm_2 (List.mem_of_getElem? (i := 15) rfl) rfl
theorem q_256 : Cond.instanceMethod yX2_push ∈ jAll := jm_2 (List.mem_of_getElem? (i := 16) rfl) rfl
theorem q_257 : Cond.selects RX2 yX2_push yX2_push ∈ jAll := jm_2 (List.mem_of_getElem? (i := 17) rfl) rfl
theorem q_258 : Cond.code yX2_push cX2_push 2 (none : Option FieldType) ∈ jAll := jm_2 (List.mem_of_getElem? (i := 18) rfl) rfl
theorem q_259 : Cond.methodLink RX2 22 yX2_stateAt ∈ jAll := jm_2 (List.mem_of_getElem? (i := 19) rfl) rfl
theorem q_261 : Cond.instanceMethod yX2_stateAt ∈ jAll := jm_2 (List.mem_of_getElem? (i := 21) rfl) rfl
theorem q_262 : Cond.code yX2_stateAt cX2_stateAt 2 (Option.some (FieldType.object RX0)) ∈ jAll := jm_2 (List.mem_of_getElem? (i := 22) rfl) rfl
theorem q_263 : Cond.methodLink RX2 26 yX2_copy ∈ jAll := jm_2 (List.mem_of_getElem? (i := 23) rfl) rfl
theorem q_264 : Cond.static yX2_copy ∈ jAll := jm_2 (List.mem_of_getElem? (i := 24) rfl) rfl
theorem q_265 : Cond.code yX2_copy cX2_copy 2 (none : Option FieldType) ∈ jAll := jm_2 (List.mem_of_getElem? (i := 25) rfl) rfl
theorem q_266 : Cond.methodLink RX2 33 yX0_copyFrom ∈ jAll := jm_2 (List.mem_of_getElem? (i := 26) rfl) rfl
theorem q_267 : Cond.instanceMethod yX0_copyFrom ∈ jAll := jm_2 (List.mem_of_getElem? (i := 27) rfl) rfl
theorem q_268 : Cond.selects RX0 yX0_copyFrom yX0_copyFrom ∈ jAll := jm_2 (List.mem_of_getElem? (i := 28) rfl) rfl
theorem q_269 : Cond.code yX0_copyFrom cX0_copyFrom 3 (none : Option FieldType) ∈ jAll := jm_2 (List.mem_of_getElem? (i := 29) rfl) rfl
theorem q_270 : Cond.methodLink RX0 152 yX4_copyFrom ∈ jAll := jm_2 (List.mem_of_getElem? (i := 30) rfl) rfl
theorem q_271 : Cond.instanceMethod yX4_copyFrom ∈ jAll := jm_2 (List.mem_of_getElem? (i := 31) rfl) rfl
theorem q_272 : Cond.selects RX4 yX4_copyFrom yX4_copyFrom ∈ jAll := jm_2 (List.mem_of_getElem? (i := 32) rfl) rfl
theorem q_273 : Cond.code yX4_copyFrom cX4_copyFrom 2 (none : Option FieldType) ∈ jAll := jm_2 (List.mem_of_getElem? (i := 33) rfl) rfl
theorem q_275 : Cond.static yX7_copyRow ∈ jAll := jm_2 (List.mem_of_getElem? (i := 35) rfl) rfl
theorem q_276 : Cond.code yX7_copyRow cX7_copyRow 3 (none : Option FieldType) ∈ jAll := jm_2 (List.mem_of_getElem? (i := 36) rfl) rfl
theorem q_277 : Cond.methodLink RX0 156 yX1_copyFrom ∈ jAll := jm_2 (List.mem_of_getElem? (i := 37) rfl) rfl
theorem q_278 : Cond.instanceMethod yX1_copyFrom ∈ jAll := jm_2 (List.mem_of_getElem? (i := 38) rfl) rfl
theorem q_279 : Cond.selects RX1 yX1_copyFrom yX1_copyFrom ∈ jAll := jm_2 (List.mem_of_getElem? (i := 39) rfl) rfl
theorem q_280 : Cond.code yX1_copyFrom cX1_copyFrom 2 (none : Option FieldType) ∈ jAll := jm_2 (List.mem_of_getElem? (i := 40) rfl) rfl
theorem q_282 : Cond.methodLink RX0 159 yX3_copyFrom ∈ jAll := jm_2 (List.mem_of_getElem? (i := 42) rfl) rfl
theorem q_283 : Cond.instanceMethod yX3_copyFrom ∈ jAll := jm_2 (List.mem_of_getElem? (i := 43) rfl) rfl
theorem q_284 : Cond.selects RX3 yX3_copyFrom yX3_copyFrom ∈ jAll := jm_2 (List.mem_of_getElem? (i := 44) rfl) rfl
theorem q_285 : Cond.code yX3_copyFrom cX3_copyFrom 2 (none : Option FieldType) ∈ jAll := jm_2 (List.mem_of_getElem? (i := 45) rfl) rfl
theorem q_288 : Cond.methodLink RX7 84 yX4_append ∈ jAll := jm_2 (List.mem_of_getElem? (i := 48) rfl) rfl
theorem q_289 : Cond.instanceMethod yX4_append ∈ jAll := jm_2 (List.mem_of_getElem? (i := 49) rfl) rfl
theorem q_290 : Cond.selects RX4 yX4_append yX4_append ∈ jAll := jm_2 (List.mem_of_getElem? (i := 50) rfl) rfl
theorem q_291 : Cond.code yX4_append cX4_append 2 (some .int) ∈ jAll := jm_2 (List.mem_of_getElem? (i := 51) rfl) rfl
theorem q_292 : Cond.methodLink RL 35 yX7_invoice ∈ jAll := jm_2 (List.mem_of_getElem? (i := 52) rfl) rfl
theorem q_293 : Cond.instanceMethod yX7_invoice ∈ jAll := jm_2 (List.mem_of_getElem? (i := 53) rfl) rfl
theorem q_294 : Cond.selects RX7 yX7_invoice yX7_invoice ∈ jAll := jm_2 (List.mem_of_getElem? (i := 54) rfl) rfl
theorem q_295 : Cond.code yX7_invoice cX7_invoice 4 (some .int) ∈ jAll := jm_2 (List.mem_of_getElem? (i := 55) rfl) rfl
theorem q_296 : Cond.methodLink RX7 117 yX3_has ∈ jAll := jm_2 (List.mem_of_getElem? (i := 56) rfl) rfl
theorem q_297 : Cond.instanceMethod yX3_has ∈ jAll := jm_2 (List.mem_of_getElem? (i := 57) rfl) rfl
theorem q_298 : Cond.selects RX3 yX3_has yX3_has ∈ jAll := jm_2 (List.mem_of_getElem? (i := 58) rfl) rfl
theorem q_299 : Cond.code yX3_has cX3_has 2 (Option.some FieldType.boolean) ∈ jAll := jm_2 (List.mem_of_getElem? (i := 59) rfl) rfl
theorem q_300 : Cond.methodLink RX7 232 yX0_ageOf ∈ jAll := jm_2 (List.mem_of_getElem? (i := 60) rfl) rfl
theorem q_301 : Cond.instanceMethod yX0_ageOf ∈ jAll := jm_2 (List.mem_of_getElem? (i := 61) rfl) rfl
theorem q_302 : Cond.selects RX0 yX0_ageOf yX0_ageOf ∈ jAll := jm_2 (List.mem_of_getElem? (i := 62) rfl) rfl
theorem q_303 : Cond.code yX0_ageOf cX0_ageOf 2 (some .int) ∈ jAll := jm_2 (List.mem_of_getElem? (i := 63) rfl) rfl
theorem q_304 : Cond.methodLink RX0 49 yX3_has ∈ jAll := jm_2 (List.mem_of_getElem? (i := 64) rfl) rfl
theorem q_305 : Cond.constant RX7 235 (100000 : Int32) ∈ jAll := jm_2 (List.mem_of_getElem? (i := 65) rfl) rfl
theorem q_306 : Cond.methodLink RX7 236 yX0_offerAfter ∈ jAll := jm_2 (List.mem_of_getElem? (i := 66) rfl) rfl
theorem q_307 : Cond.instanceMethod yX0_offerAfter ∈ jAll := jm_2 (List.mem_of_getElem? (i := 67) rfl) rfl
theorem q_308 : Cond.selects RX0 yX0_offerAfter yX0_offerAfter ∈ jAll := jm_2 (List.mem_of_getElem? (i := 68) rfl) rfl
theorem q_309 : Cond.code yX0_offerAfter cX0_offerAfter 3 (some .int) ∈ jAll := jm_2 (List.mem_of_getElem? (i := 69) rfl) rfl
theorem q_310 : Cond.methodLink RX0 82 yX0_rateAfter ∈ jAll := jm_2 (List.mem_of_getElem? (i := 70) rfl) rfl
theorem q_311 : Cond.instanceMethod yX0_rateAfter ∈ jAll := jm_2 (List.mem_of_getElem? (i := 71) rfl) rfl
theorem q_312 : Cond.selects RX0 yX0_rateAfter yX0_rateAfter ∈ jAll := jm_2 (List.mem_of_getElem? (i := 72) rfl) rfl
theorem q_313 : Cond.code yX0_rateAfter cX0_rateAfter 5 (Option.some FieldType.float) ∈ jAll := jm_2 (List.mem_of_getElem? (i := 73) rfl) rfl
theorem q_315 : Cond.static yX7_noNumber ∈ jAll := jm_2 (List.mem_of_getElem? (i := 75) rfl) rfl
theorem q_316 : Cond.code yX7_noNumber cX7_noNumber 0 (Option.some FieldType.float) ∈ jAll := jm_2 (List.mem_of_getElem? (i := 76) rfl) rfl
theorem q_317 : Cond.constantFloat RX7 278 (2143289344 : UInt32) ∈ jAll := jm_2 (List.mem_of_getElem? (i := 77) rfl) rfl
theorem q_318 : Cond.methodLink RX0 68 yX0_lateAfter ∈ jAll := jm_2 (List.mem_of_getElem? (i := 78) rfl) rfl
theorem q_319 : Cond.instanceMethod yX0_lateAfter ∈ jAll := jm_2 (List.mem_of_getElem? (i := 79) rfl) rfl
theorem q_320 : Cond.selects RX0 yX0_lateAfter yX0_lateAfter ∈ jAll := jm_2 (List.mem_of_getElem? (i := 80) rfl) rfl
theorem q_321 : Cond.code yX0_lateAfter cX0_lateAfter 4 (some .int) ∈ jAll := jm_2 (List.mem_of_getElem? (i := 81) rfl) rfl
theorem q_322 : Cond.methodLink RX0 60 yX0_ageOf ∈ jAll := jm_2 (List.mem_of_getElem? (i := 82) rfl) rfl
theorem q_323 : Cond.methodLink RX0 75 yX1_riskOf ∈ jAll := jm_2 (List.mem_of_getElem? (i := 83) rfl) rfl
theorem q_324 : Cond.instanceMethod yX1_riskOf ∈ jAll := jm_2 (List.mem_of_getElem? (i := 84) rfl) rfl
theorem q_325 : Cond.selects RX1 yX1_riskOf yX1_riskOf ∈ jAll := jm_2 (List.mem_of_getElem? (i := 85) rfl) rfl
theorem q_326 : Cond.code yX1_riskOf cX1_riskOf 2 (Option.some FieldType.float) ∈ jAll := jm_2 (List.mem_of_getElem? (i := 86) rfl) rfl
theorem q_327 : Cond.methodLink RX1 21 yX1_has ∈ jAll := jm_2 (List.mem_of_getElem? (i := 87) rfl) rfl
theorem q_328 : Cond.instanceMethod yX1_has ∈ jAll := jm_2 (List.mem_of_getElem? (i := 88) rfl) rfl
theorem q_329 : Cond.selects RX1 yX1_has yX1_has ∈ jAll := jm_2 (List.mem_of_getElem? (i := 89) rfl) rfl
theorem q_330 : Cond.code yX1_has cX1_has 2 (Option.some FieldType.boolean) ∈ jAll := jm_2 (List.mem_of_getElem? (i := 90) rfl) rfl
theorem q_332 : Cond.methodLink RX7 118 yX0_canPayAhead ∈ jAll := jm_2 (List.mem_of_getElem? (i := 92) rfl) rfl
theorem q_333 : Cond.instanceMethod yX0_canPayAhead ∈ jAll := jm_2 (List.mem_of_getElem? (i := 93) rfl) rfl
theorem q_334 : Cond.selects RX0 yX0_canPayAhead yX0_canPayAhead ∈ jAll := jm_2 (List.mem_of_getElem? (i := 94) rfl) rfl
theorem q_335 : Cond.code yX0_canPayAhead cX0_canPayAhead 3 (Option.some FieldType.boolean) ∈ jAll := jm_2 (List.mem_of_getElem? (i := 95) rfl) rfl
theorem q_336 : Cond.methodLink RX0 86 yX0_offerAfter ∈ jAll := jm_2 (List.mem_of_getElem? (i := 96) rfl) rfl
theorem q_337 : Cond.methodLink RX0 98 yX0_reserveCents ∈ jAll := jm_2 (List.mem_of_getElem? (i := 97) rfl) rfl
theorem q_338 : Cond.instanceMethod yX0_reserveCents ∈ jAll := jm_2 (List.mem_of_getElem? (i := 98) rfl) rfl
theorem q_339 : Cond.selects RX0 yX0_reserveCents yX0_reserveCents ∈ jAll := jm_2 (List.mem_of_getElem? (i := 99) rfl) rfl
theorem q_340 : Cond.code yX0_reserveCents cX0_reserveCents 1 (some .int) ∈ jAll := jm_2 (List.mem_of_getElem? (i := 100) rfl) rfl
theorem q_341 : Cond.methodLink RX0 43 yX4_allDues ∈ jAll := jm_2 (List.mem_of_getElem? (i := 101) rfl) rfl
theorem q_342 : Cond.instanceMethod yX4_allDues ∈ jAll := jm_2 (List.mem_of_getElem? (i := 102) rfl) rfl
theorem q_343 : Cond.selects RX4 yX4_allDues yX4_allDues ∈ jAll := jm_2 (List.mem_of_getElem? (i := 103) rfl) rfl
theorem q_344 : Cond.code yX4_allDues cX4_allDues 3 (some .int) ∈ jAll := jm_2 (List.mem_of_getElem? (i := 104) rfl) rfl
theorem q_345 : Cond.methodLink RX4 28 yX4_has ∈ jAll := jm_2 (List.mem_of_getElem? (i := 105) rfl) rfl
theorem q_346 : Cond.instanceMethod yX4_has ∈ jAll := jm_2 (List.mem_of_getElem? (i := 106) rfl) rfl
theorem q_347 : Cond.selects RX4 yX4_has yX4_has ∈ jAll := jm_2 (List.mem_of_getElem? (i := 107) rfl) rfl
theorem q_348 : Cond.code yX4_has cX4_has 2 (Option.some FieldType.boolean) ∈ jAll := jm_2 (List.mem_of_getElem? (i := 108) rfl) rfl
theorem q_349 : Cond.constantLong RX0 47 (100 : Int64) ∈ jAll := jm_2 (List.mem_of_getElem? (i := 109) rfl) rfl
theorem q_350 : Cond.methodLink RX7 131 yX0_canGiveUp ∈ jAll := jm_2 (List.mem_of_getElem? (i := 110) rfl) rfl
theorem q_351 : Cond.instanceMethod yX0_canGiveUp ∈ jAll := jm_2 (List.mem_of_getElem? (i := 111) rfl) rfl
theorem q_352 : Cond.selects RX0 yX0_canGiveUp yX0_canGiveUp ∈ jAll := jm_2 (List.mem_of_getElem? (i := 112) rfl) rfl
theorem q_353 : Cond.code yX0_canGiveUp cX0_canGiveUp 2 (Option.some FieldType.boolean) ∈ jAll := jm_2 (List.mem_of_getElem? (i := 113) rfl) rfl
theorem q_354 : Cond.methodLink RX0 101 yX3_isUnsettled ∈ jAll := jm_2 (List.mem_of_getElem? (i := 114) rfl) rfl
theorem q_355 : Cond.instanceMethod yX3_isUnsettled ∈ jAll := jm_2 (List.mem_of_getElem? (i := 115) rfl) rfl
theorem q_356 : Cond.selects RX3 yX3_isUnsettled yX3_isUnsettled ∈ jAll := jm_2 (List.mem_of_getElem? (i := 116) rfl) rfl
theorem q_357 : Cond.code yX3_isUnsettled cX3_isUnsettled 2 (Option.some FieldType.boolean) ∈ jAll := jm_2 (List.mem_of_getElem? (i := 117) rfl) rfl
theorem q_358 : Cond.methodLink RX3 37 yX3_has ∈ jAll := jm_2 (List.mem_of_getElem? (i := 118) rfl) rfl
theorem q_359 : Cond.methodLink RL 8 yX7_count ∈ jAll := jm_2 (List.mem_of_getElem? (i := 119) rfl) rfl
theorem q_360 : Cond.instanceMethod yX7_count ∈ jAll := jm_2 (List.mem_of_getElem? (i := 120) rfl) rfl
theorem q_361 : Cond.selects RX7 yX7_count yX7_count ∈ jAll := jm_2 (List.mem_of_getElem? (i := 121) rfl) rfl
theorem q_362 : Cond.code yX7_count cX7_count 2 (some .int) ∈ jAll := jm_2 (List.mem_of_getElem? (i := 122) rfl) rfl
theorem q_363 : Cond.constant RX7 184 (1000000000 : Int32) ∈ jAll := jm_2 (List.mem_of_getElem? (i := 123) rfl) rfl
theorem q_364 : Cond.methodLink RX7 254 yX4_allDues ∈ jAll := jm_2 (List.mem_of_getElem? (i := 124) rfl) rfl
theorem q_365 : Cond.methodLink RX7 260 yX0_reserveCents ∈ jAll := jm_2 (List.mem_of_getElem? (i := 125) rfl) rfl
theorem q_366 : Cond.methodLink RX7 263 yX3_countOfState ∈ jAll := jm_2 (List.mem_of_getElem? (i := 126) rfl) rfl
theorem q_367 : Cond.instanceMethod yX3_countOfState ∈ jAll := jm_2 (List.mem_of_getElem? (i := 127) rfl) rfl
theorem q_368 : Cond.selects RX3 yX3_countOfState yX3_countOfState ∈ jAll := jm_2 (List.mem_of_getElem? (i := 128) rfl) rfl
theorem q_369 : Cond.code yX3_countOfState cX3_countOfState 4 (some .int) ∈ jAll := jm_2 (List.mem_of_getElem? (i := 129) rfl) rfl
theorem q_370 : Cond.methodLink RL 74 yL_cell ∈ jAll := jm_2 (List.mem_of_getElem? (i := 130) rfl) rfl
theorem q_371 : Cond.static yL_cell ∈ jAll := jm_2 (List.mem_of_getElem? (i := 131) rfl) rfl
theorem q_372 : Cond.code yL_cell cL_cell 2 (some .int) ∈ jAll := jm_2 (List.mem_of_getElem? (i := 132) rfl) rfl
theorem q_373 : Cond.methodLink RL 14 yL_low ∈ jAll := jm_2 (List.mem_of_getElem? (i := 133) rfl) rfl
theorem q_374 : Cond.static yL_low ∈ jAll := jm_2 (List.mem_of_getElem? (i := 134) rfl) rfl
theorem q_375 : Cond.code yL_low cL_low 2 (some .int) ∈ jAll := jm_2 (List.mem_of_getElem? (i := 135) rfl) rfl
theorem q_376 : Cond.constant RL 7 (2147483647 : Int32) ∈ jAll := jm_2 (List.mem_of_getElem? (i := 136) rfl) rfl
theorem q_377 : Cond.methodLink RL 78 yL_does ∈ jAll := jm_2 (List.mem_of_getElem? (i := 137) rfl) rfl
theorem q_378 : Cond.static yL_does ∈ jAll := jm_2 (List.mem_of_getElem? (i := 138) rfl) rfl
theorem q_379 : Cond.code yL_does cL_does 7 (some .int) ∈ jAll := jm_2 (List.mem_of_getElem? (i := 139) rfl) rfl
theorem q_380 : Cond.constant RL 23 (1000000 : Int32) ∈ jAll := jm_2 (List.mem_of_getElem? (i := 140) rfl) rfl
theorem q_381 : Cond.methodLink RL 24 yX7_payDues ∈ jAll := jm_2 (List.mem_of_getElem? (i := 141) rfl) rfl
theorem q_382 : Cond.instanceMethod yX7_payDues ∈ jAll := jm_2 (List.mem_of_getElem? (i := 142) rfl) rfl
theorem q_383 : Cond.selects RX7 yX7_payDues yX7_payDues ∈ jAll := jm_2 (List.mem_of_getElem? (i := 143) rfl) rfl
theorem q_384 : Cond.code yX7_payDues cX7_payDues 4 (some .int) ∈ jAll := jm_2 (List.mem_of_getElem? (i := 144) rfl) rfl
theorem q_385 : Cond.methodLink RX7 88 yX4_has ∈ jAll := jm_2 (List.mem_of_getElem? (i := 145) rfl) rfl
theorem q_386 : Cond.constant RX7 92 (1000000 : Int32) ∈ jAll := jm_2 (List.mem_of_getElem? (i := 146) rfl) rfl
theorem q_387 : Cond.constant RX7 96 (100000000 : Int32) ∈ jAll := jm_2 (List.mem_of_getElem? (i := 147) rfl) rfl
theorem q_388 : Cond.constant RL 27 (999901 : Int32) ∈ jAll := jm_2 (List.mem_of_getElem? (i := 148) rfl) rfl
theorem q_389 : Cond.methodLink RL 28 yX7_addInvoice ∈ jAll := jm_2 (List.mem_of_getElem? (i := 149) rfl) rfl
theorem q_390 : Cond.instanceMethod yX7_addInvoice ∈ jAll := jm_2 (List.mem_of_getElem? (i := 150) rfl) rfl
theorem q_391 : Cond.selects RX7 yX7_addInvoice yX7_addInvoice ∈ jAll := jm_2 (List.mem_of_getElem? (i := 151) rfl) rfl
theorem q_392 : Cond.code yX7_addInvoice cX7_addInvoice 5 (some .int) ∈ jAll := jm_2 (List.mem_of_getElem? (i := 152) rfl) rfl
theorem q_393 : Cond.methodLink RX7 104 yX1_has ∈ jAll := jm_2 (List.mem_of_getElem? (i := 153) rfl) rfl
theorem q_394 : Cond.methodLink RX7 114 yX3_append ∈ jAll := jm_2 (List.mem_of_getElem? (i := 154) rfl) rfl
theorem q_395 : Cond.instanceMethod yX3_append ∈ jAll := jm_2 (List.mem_of_getElem? (i := 155) rfl) rfl
theorem q_396 : Cond.selects RX3 yX3_append yX3_append ∈ jAll := jm_2 (List.mem_of_getElem? (i := 156) rfl) rfl
theorem q_397 : Cond.code yX3_append cX3_append 5 (some .int) ∈ jAll := jm_2 (List.mem_of_getElem? (i := 157) rfl) rfl
theorem q_398 : Cond.methodLink RL 32 yX7_payAhead ∈ jAll := jm_2 (List.mem_of_getElem? (i := 158) rfl) rfl
theorem q_399 : Cond.instanceMethod yX7_payAhead ∈ jAll := jm_2 (List.mem_of_getElem? (i := 159) rfl) rfl
theorem q_400 : Cond.selects RX7 yX7_payAhead yX7_payAhead ∈ jAll := jm_2 (List.mem_of_getElem? (i := 160) rfl) rfl
theorem q_401 : Cond.code yX7_payAhead cX7_payAhead 2 (some .int) ∈ jAll := jm_2 (List.mem_of_getElem? (i := 161) rfl) rfl
theorem q_402 : Cond.methodLink RX7 121 yX0_advance ∈ jAll := jm_2 (List.mem_of_getElem? (i := 162) rfl) rfl
theorem q_403 : Cond.instanceMethod yX0_advance ∈ jAll := jm_2 (List.mem_of_getElem? (i := 163) rfl) rfl
theorem q_404 : Cond.selects RX0 yX0_advance yX0_advance ∈ jAll := jm_2 (List.mem_of_getElem? (i := 164) rfl) rfl
theorem q_405 : Cond.code yX0_advance cX0_advance 3 (some .int) ∈ jAll := jm_2 (List.mem_of_getElem? (i := 165) rfl) rfl
theorem q_406 : Cond.methodLink RX0 110 yX4_intoPurse ∈ jAll := jm_2 (List.mem_of_getElem? (i := 166) rfl) rfl
theorem q_407 : Cond.instanceMethod yX4_intoPurse ∈ jAll := jm_2 (List.mem_of_getElem? (i := 167) rfl) rfl
theorem q_408 : Cond.selects RX4 yX4_intoPurse yX4_intoPurse ∈ jAll := jm_2 (List.mem_of_getElem? (i := 168) rfl) rfl
theorem q_409 : Cond.code yX4_intoPurse cX4_intoPurse 3 (none : Option FieldType) ∈ jAll := jm_2 (List.mem_of_getElem? (i := 169) rfl) rfl
theorem q_410 : Cond.methodLink RL 38 yX7_pay ∈ jAll := jm_2 (List.mem_of_getElem? (i := 170) rfl) rfl
theorem q_411 : Cond.instanceMethod yX7_pay ∈ jAll := jm_2 (List.mem_of_getElem? (i := 171) rfl) rfl
theorem q_412 : Cond.selects RX7 yX7_pay yX7_pay ∈ jAll := jm_2 (List.mem_of_getElem? (i := 172) rfl) rfl
theorem q_413 : Cond.code yX7_pay cX7_pay 4 (some .int) ∈ jAll := jm_2 (List.mem_of_getElem? (i := 173) rfl) rfl
theorem q_414 : Cond.methodLink RX7 124 yX0_errorOfPayment ∈ jAll := jm_2 (List.mem_of_getElem? (i := 174) rfl) rfl
theorem q_415 : Cond.instanceMethod yX0_errorOfPayment ∈ jAll := jm_2 (List.mem_of_getElem? (i := 175) rfl) rfl
theorem q_416 : Cond.selects RX0 yX0_errorOfPayment yX0_errorOfPayment ∈ jAll := jm_2 (List.mem_of_getElem? (i := 176) rfl) rfl
theorem q_417 : Cond.code yX0_errorOfPayment cX0_errorOfPayment 4 (some .int) ∈ jAll := jm_2 (List.mem_of_getElem? (i := 177) rfl) rfl
theorem q_418 : Cond.methodLink RX7 128 yX0_collect ∈ jAll := jm_2 (List.mem_of_getElem? (i := 178) rfl) rfl
theorem q_419 : Cond.instanceMethod yX0_collect ∈ jAll := jm_2 (List.mem_of_getElem? (i := 179) rfl) rfl
theorem q_420 : Cond.selects RX0 yX0_collect yX0_collect ∈ jAll := jm_2 (List.mem_of_getElem? (i := 180) rfl) rfl
theorem q_421 : Cond.code yX0_collect cX0_collect 4 (some .int) ∈ jAll := jm_2 (List.mem_of_getElem? (i := 181) rfl) rfl
theorem q_422 : Cond.methodLink RX0 120 yX0_settle ∈ jAll := jm_2 (List.mem_of_getElem? (i := 182) rfl) rfl
theorem q_423 : Cond.instanceMethod yX0_settle ∈ jAll := jm_2 (List.mem_of_getElem? (i := 183) rfl) rfl
theorem q_424 : Cond.selects RX0 yX0_settle yX0_settle ∈ jAll := jm_2 (List.mem_of_getElem? (i := 184) rfl) rfl
theorem q_425 : Cond.code yX0_settle cX0_settle 2 (none : Option FieldType) ∈ jAll := jm_2 (List.mem_of_getElem? (i := 185) rfl) rfl
theorem q_426 : Cond.methodLink RX0 124 yX0_passOn ∈ jAll := jm_2 (List.mem_of_getElem? (i := 186) rfl) rfl
theorem q_427 : Cond.instanceMethod yX0_passOn ∈ jAll := jm_2 (List.mem_of_getElem? (i := 187) rfl) rfl
theorem q_428 : Cond.selects RX0 yX0_passOn yX0_passOn ∈ jAll := jm_2 (List.mem_of_getElem? (i := 188) rfl) rfl
theorem q_429 : Cond.code yX0_passOn cX0_passOn 4 (none : Option FieldType) ∈ jAll := jm_2 (List.mem_of_getElem? (i := 189) rfl) rfl
theorem q_430 : Cond.methodLink RX0 127 yX1_addSettled ∈ jAll := jm_2 (List.mem_of_getElem? (i := 190) rfl) rfl
theorem q_431 : Cond.instanceMethod yX1_addSettled ∈ jAll := jm_2 (List.mem_of_getElem? (i := 191) rfl) rfl
theorem q_432 : Cond.selects RX1 yX1_addSettled yX1_addSettled ∈ jAll := jm_2 (List.mem_of_getElem? (i := 192) rfl) rfl
theorem q_433 : Cond.code yX1_addSettled cX1_addSettled 3 (none : Option FieldType) ∈ jAll := jm_2 (List.mem_of_getElem? (i := 193) rfl) rfl
theorem q_434 : Cond.methodLink RL 41 yX7_giveUp ∈ jAll := jm_2 (List.mem_of_getElem? (i := 194) rfl) rfl
theorem q_435 : Cond.instanceMethod yX7_giveUp ∈ jAll := jm_2 (List.mem_of_getElem? (i := 195) rfl) rfl
theorem q_436 : Cond.selects RX7 yX7_giveUp yX7_giveUp ∈ jAll := jm_2 (List.mem_of_getElem? (i := 196) rfl) rfl
theorem q_437 : Cond.code yX7_giveUp cX7_giveUp 2 (some .int) ∈ jAll := jm_2 (List.mem_of_getElem? (i := 197) rfl) rfl
theorem q_438 : Cond.methodLink RX7 134 yX0_lose ∈ jAll := jm_2 (List.mem_of_getElem? (i := 198) rfl) rfl
theorem q_439 : Cond.instanceMethod yX0_lose ∈ jAll := jm_2 (List.mem_of_getElem? (i := 199) rfl) rfl
theorem q_440 : Cond.selects RX0 yX0_lose yX0_lose ∈ jAll := jm_2 (List.mem_of_getElem? (i := 200) rfl) rfl
theorem q_441 : Cond.code yX0_lose cX0_lose 4 (some .int) ∈ jAll := jm_2 (List.mem_of_getElem? (i := 201) rfl) rfl
theorem q_442 : Cond.methodLink RX0 133 yX1_addLost ∈ jAll := jm_2 (List.mem_of_getElem? (i := 202) rfl) rfl
theorem q_443 : Cond.instanceMethod yX1_addLost ∈ jAll := jm_2 (List.mem_of_getElem? (i := 203) rfl) rfl
theorem q_444 : Cond.selects RX1 yX1_addLost yX1_addLost ∈ jAll := jm_2 (List.mem_of_getElem? (i := 204) rfl) rfl
theorem q_445 : Cond.code yX1_addLost cX1_addLost 2 (none : Option FieldType) ∈ jAll := jm_2 (List.mem_of_getElem? (i := 205) rfl) rfl
theorem q_446 : Cond.methodLink RX0 136 yX0_share ∈ jAll := jm_2 (List.mem_of_getElem? (i := 206) rfl) rfl
theorem q_447 : Cond.instanceMethod yX0_share ∈ jAll := jm_2 (List.mem_of_getElem? (i := 207) rfl) rfl
theorem q_448 : Cond.selects RX0 yX0_share yX0_share ∈ jAll := jm_2 (List.mem_of_getElem? (i := 208) rfl) rfl
theorem q_449 : Cond.code yX0_share cX0_share 8 (none : Option FieldType) ∈ jAll := jm_2 (List.mem_of_getElem? (i := 209) rfl) rfl
theorem q_450 : Cond.methodLink RX0 139 yX4_allWeights ∈ jAll := jm_2 (List.mem_of_getElem? (i := 210) rfl) rfl
theorem q_451 : Cond.instanceMethod yX4_allWeights ∈ jAll := jm_2 (List.mem_of_getElem? (i := 211) rfl) rfl
theorem q_452 : Cond.selects RX4 yX4_allWeights yX4_allWeights ∈ jAll := jm_2 (List.mem_of_getElem? (i := 212) rfl) rfl
theorem q_453 : Cond.code yX4_allWeights cX4_allWeights 3 (some .int) ∈ jAll := jm_2 (List.mem_of_getElem? (i := 213) rfl) rfl
theorem q_454 : Cond.methodLink RX0 142 yX4_has ∈ jAll := jm_2 (List.mem_of_getElem? (i := 214) rfl) rfl
theorem q_455 : Cond.methodLink RX0 146 yX4_bear ∈ jAll := jm_2 (List.mem_of_getElem? (i := 215) rfl) rfl
theorem q_456 : Cond.instanceMethod yX4_bear ∈ jAll := jm_2 (List.mem_of_getElem? (i := 216) rfl) rfl
theorem q_457 : Cond.selects RX4 yX4_bear yX4_bear ∈ jAll := jm_2 (List.mem_of_getElem? (i := 217) rfl) rfl
theorem q_458 : Cond.code yX4_bear cX4_bear 3 (none : Option FieldType) ∈ jAll := jm_2 (List.mem_of_getElem? (i := 218) rfl) rfl
theorem q_459 : Cond.methodLink RL 44 yX7_setNumber ∈ jAll := jm_2 (List.mem_of_getElem? (i := 219) rfl) rfl
theorem q_460 : Cond.instanceMethod yX7_setNumber ∈ jAll := jm_2 (List.mem_of_getElem? (i := 220) rfl) rfl
theorem q_461 : Cond.selects RX7 yX7_setNumber yX7_setNumber ∈ jAll := jm_2 (List.mem_of_getElem? (i := 221) rfl) rfl
theorem q_462 : Cond.code yX7_setNumber cX7_setNumber 4 (some .int) ∈ jAll := jm_2 (List.mem_of_getElem? (i := 222) rfl) rfl
theorem q_463 : Cond.fieldLink RX7 66 RX7 "LOWEST_NUMBER" "[I" ∈ jAll := jm_2 (List.mem_of_getElem? (i := 223) rfl) rfl
theorem q_465 : Cond.fieldLink RX7 69 RX7 "HIGHEST_NUMBER" "[I" ∈ jAll := jm_2 (List.mem_of_getElem? (i := 225) rfl) rfl
theorem q_467 : Cond.constant RL 47 (1023410176 : Int32) ∈ jAll := jm_2 (List.mem_of_getElem? (i := 227) rfl) rfl
theorem q_468 : Cond.constant RL 48 (37748736 : Int32) ∈ jAll := jm_2 (List.mem_of_getElem? (i := 228) rfl) rfl
theorem q_469 : Cond.constant RL 49 (1065353216 : Int32) ∈ jAll := jm_2 (List.mem_of_getElem? (i := 229) rfl) rfl
theorem q_470 : Cond.methodLink RL 50 yX7_setRate ∈ jAll := jm_2 (List.mem_of_getElem? (i := 230) rfl) rfl
theorem q_471 : Cond.instanceMethod yX7_setRate ∈ jAll := jm_2 (List.mem_of_getElem? (i := 231) rfl) rfl
theorem q_472 : Cond.selects RX7 yX7_setRate yX7_setRate ∈ jAll := jm_2 (List.mem_of_getElem? (i := 232) rfl) rfl
theorem q_473 : Cond.code yX7_setRate cX7_setRate 4 (some .int) ∈ jAll := jm_2 (List.mem_of_getElem? (i := 233) rfl) rfl
theorem q_474 : Cond.fieldLink RX7 47 RX7 "LOWEST_RATE" "[I" ∈ jAll := jm_2 (List.mem_of_getElem? (i := 234) rfl) rfl
theorem q_476 : Cond.fieldLink RX7 51 RX7 "HIGHEST_RATE" "[I" ∈ jAll := jm_2 (List.mem_of_getElem? (i := 236) rfl) rfl
theorem q_478 : Cond.methodLink RX7 54 yX7_floatOf ∈ jAll := jm_2 (List.mem_of_getElem? (i := 238) rfl) rfl
theorem q_479 : Cond.static yX7_floatOf ∈ jAll := jm_2 (List.mem_of_getElem? (i := 239) rfl) rfl
theorem q_480 : Cond.code yX7_floatOf cX7_floatOf 6 (Option.some FieldType.float) ∈ jAll := jm_3 (List.mem_of_getElem? (i := 0) rfl) rfl
theorem q_481 : Cond.constant RX7 279 (8388607 : Int32) ∈ jAll := jm_3 (List.mem_of_getElem? (i := 1) rfl) rfl
theorem q_482 : Cond.constant RX7 280 (8388608 : Int32) ∈ jAll := jm_3 (List.mem_of_getElem? (i := 2) rfl) rfl
theorem q_483 : Cond.constantFloat RX7 281 (1056964608 : UInt32) ∈ jAll := jm_3 (List.mem_of_getElem? (i := 3) rfl) rfl
theorem q_484 : Cond.methodLink RL 53 yX7_pass ∈ jAll := jm_3 (List.mem_of_getElem? (i := 4) rfl) rfl
theorem q_485 : Cond.instanceMethod yX7_pass ∈ jAll := jm_3 (List.mem_of_getElem? (i := 5) rfl) rfl
theorem q_486 : Cond.selects RX7 yX7_pass yX7_pass ∈ jAll := jm_3 (List.mem_of_getElem? (i := 6) rfl) rfl
theorem q_487 : Cond.code yX7_pass cX7_pass 2 (some .int) ∈ jAll := jm_3 (List.mem_of_getElem? (i := 7) rfl) rfl
theorem q_488 : Cond.constant RX7 159 (99999 : Int32) ∈ jAll := jm_3 (List.mem_of_getElem? (i := 8) rfl) rfl
theorem q_489 : Cond.methodLink RL 82 yL_areSumsSo ∈ jAll := jm_3 (List.mem_of_getElem? (i := 9) rfl) rfl
theorem q_490 : Cond.static yL_areSumsSo ∈ jAll := jm_3 (List.mem_of_getElem? (i := 10) rfl) rfl
theorem q_491 : Cond.code yL_areSumsSo cL_areSumsSo 9 (Option.some FieldType.boolean) ∈ jAll := jm_3 (List.mem_of_getElem? (i := 11) rfl) rfl
theorem q_492 : Cond.constant RL 56 (1000000000 : Int32) ∈ jAll := jm_3 (List.mem_of_getElem? (i := 12) rfl) rfl
theorem q_493 : Cond.methodLink RL 57 yX7_member ∈ jAll := jm_3 (List.mem_of_getElem? (i := 13) rfl) rfl
theorem q_494 : Cond.instanceMethod yX7_member ∈ jAll := jm_3 (List.mem_of_getElem? (i := 14) rfl) rfl
theorem q_495 : Cond.selects RX7 yX7_member yX7_member ∈ jAll := jm_3 (List.mem_of_getElem? (i := 15) rfl) rfl
theorem q_496 : Cond.code yX7_member cX7_member 4 (some .int) ∈ jAll := jm_3 (List.mem_of_getElem? (i := 16) rfl) rfl
theorem q_497 : Cond.methodLink RX7 185 yX3_countOfMember ∈ jAll := jm_3 (List.mem_of_getElem? (i := 17) rfl) rfl
theorem q_498 : Cond.instanceMethod yX3_countOfMember ∈ jAll := jm_3 (List.mem_of_getElem? (i := 18) rfl) rfl
theorem q_499 : Cond.selects RX3 yX3_countOfMember yX3_countOfMember ∈ jAll := jm_3 (List.mem_of_getElem? (i := 19) rfl) rfl
theorem q_500 : Cond.code yX3_countOfMember cX3_countOfMember 4 (some .int) ∈ jAll := jm_3 (List.mem_of_getElem? (i := 20) rfl) rfl
theorem q_501 : Cond.methodLink RX7 188 yX3_countOfMemberAhead ∈ jAll := jm_3 (List.mem_of_getElem? (i := 21) rfl) rfl
theorem q_502 : Cond.instanceMethod yX3_countOfMemberAhead ∈ jAll := jm_3 (List.mem_of_getElem? (i := 22) rfl) rfl
theorem q_503 : Cond.selects RX3 yX3_countOfMemberAhead yX3_countOfMemberAhead ∈ jAll := jm_3 (List.mem_of_getElem? (i := 23) rfl) rfl
theorem q_504 : Cond.code yX3_countOfMemberAhead cX3_countOfMemberAhead 4 (some .int) ∈ jAll := jm_3 (List.mem_of_getElem? (i := 24) rfl) rfl
theorem q_505 : Cond.methodLink RL 86 yL_areInvoicesSo ∈ jAll := jm_3 (List.mem_of_getElem? (i := 25) rfl) rfl
theorem q_506 : Cond.static yL_areInvoicesSo ∈ jAll := jm_3 (List.mem_of_getElem? (i := 26) rfl) rfl
theorem q_507 : Cond.code yL_areInvoicesSo cL_areInvoicesSo 8 (Option.some FieldType.boolean) ∈ jAll := jm_3 (List.mem_of_getElem? (i := 27) rfl) rfl
theorem q_508 : Cond.methodLink RL 60 yX7_client ∈ jAll := jm_3 (List.mem_of_getElem? (i := 28) rfl) rfl
theorem q_509 : Cond.instanceMethod yX7_client ∈ jAll := jm_3 (List.mem_of_getElem? (i := 29) rfl) rfl
theorem q_510 : Cond.selects RX7 yX7_client yX7_client ∈ jAll := jm_3 (List.mem_of_getElem? (i := 30) rfl) rfl
theorem q_511 : Cond.code yX7_client cX7_client 4 (some .int) ∈ jAll := jm_3 (List.mem_of_getElem? (i := 31) rfl) rfl
theorem q_512 : Cond.methodLink RX7 203 yX3_countOfClientUnsettled ∈ jAll := jm_3 (List.mem_of_getElem? (i := 32) rfl) rfl
theorem q_513 : Cond.instanceMethod yX3_countOfClientUnsettled ∈ jAll := jm_3 (List.mem_of_getElem? (i := 33) rfl) rfl
theorem q_514 : Cond.selects RX3 yX3_countOfClientUnsettled yX3_countOfClientUnsettled ∈ jAll := jm_3 (List.mem_of_getElem? (i := 34) rfl) rfl
theorem q_515 : Cond.code yX3_countOfClientUnsettled cX3_countOfClientUnsettled 4 (some .int) ∈ jAll := jm_3 (List.mem_of_getElem? (i := 35) rfl) rfl
theorem q_516 : Cond.methodLink RX3 41 yX3_isUnsettled ∈ jAll := jm_3 (List.mem_of_getElem? (i := 36) rfl) rfl
theorem q_517 : Cond.methodLink RL 63 yX7_best ∈ jAll := jm_3 (List.mem_of_getElem? (i := 37) rfl) rfl
theorem q_518 : Cond.instanceMethod yX7_best ∈ jAll := jm_3 (List.mem_of_getElem? (i := 38) rfl) rfl
theorem q_519 : Cond.selects RX7 yX7_best yX7_best ∈ jAll := jm_3 (List.mem_of_getElem? (i := 39) rfl) rfl
theorem q_520 : Cond.code yX7_best cX7_best 3 (some .int) ∈ jAll := jm_3 (List.mem_of_getElem? (i := 40) rfl) rfl
theorem q_521 : Cond.methodLink RX7 243 yX0_worthOf ∈ jAll := jm_3 (List.mem_of_getElem? (i := 41) rfl) rfl
theorem q_522 : Cond.instanceMethod yX0_worthOf ∈ jAll := jm_3 (List.mem_of_getElem? (i := 42) rfl) rfl
theorem q_523 : Cond.selects RX0 yX0_worthOf yX0_worthOf ∈ jAll := jm_3 (List.mem_of_getElem? (i := 43) rfl) rfl
theorem q_524 : Cond.code yX0_worthOf cX0_worthOf 5 (Option.some FieldType.float) ∈ jAll := jm_3 (List.mem_of_getElem? (i := 44) rfl) rfl
theorem q_525 : Cond.methodLink RX7 247 yX5_insert ∈ jAll := jm_3 (List.mem_of_getElem? (i := 45) rfl) rfl
theorem q_526 : Cond.instanceMethod yX5_insert ∈ jAll := jm_3 (List.mem_of_getElem? (i := 46) rfl) rfl
theorem q_527 : Cond.selects RX5 yX5_insert yX5_insert ∈ jAll := jm_3 (List.mem_of_getElem? (i := 47) rfl) rfl
theorem q_528 : Cond.code yX5_insert cX5_insert 4 (none : Option FieldType) ∈ jAll := jm_3 (List.mem_of_getElem? (i := 48) rfl) rfl
theorem q_529 : Cond.methodLink RX7 251 yX5_invoiceAt ∈ jAll := jm_3 (List.mem_of_getElem? (i := 49) rfl) rfl
theorem q_530 : Cond.instanceMethod yX5_invoiceAt ∈ jAll := jm_3 (List.mem_of_getElem? (i := 50) rfl) rfl
theorem q_531 : Cond.selects RX5 yX5_invoiceAt yX5_invoiceAt ∈ jAll := jm_3 (List.mem_of_getElem? (i := 51) rfl) rfl
theorem q_532 : Cond.code yX5_invoiceAt cX5_invoiceAt 2 (some .int) ∈ jAll := jm_3 (List.mem_of_getElem? (i := 52) rfl) rfl
theorem q_533 : Cond.methodLink RL 90 yL_isWorthlessSo ∈ jAll := jm_3 (List.mem_of_getElem? (i := 53) rfl) rfl
theorem q_534 : Cond.static yL_isWorthlessSo ∈ jAll := jm_3 (List.mem_of_getElem? (i := 54) rfl) rfl
theorem q_535 : Cond.code yL_isWorthlessSo cL_isWorthlessSo 4 (Option.some FieldType.boolean) ∈ jAll := jm_3 (List.mem_of_getElem? (i := 55) rfl) rfl
theorem q_536 : Cond.methodLink RL 66 yX7_worthlessIn ∈ jAll := jm_3 (List.mem_of_getElem? (i := 56) rfl) rfl
theorem q_537 : Cond.instanceMethod yX7_worthlessIn ∈ jAll := jm_3 (List.mem_of_getElem? (i := 57) rfl) rfl
theorem q_538 : Cond.selects RX7 yX7_worthlessIn yX7_worthlessIn ∈ jAll := jm_3 (List.mem_of_getElem? (i := 58) rfl) rfl
theorem q_539 : Cond.code yX7_worthlessIn cX7_worthlessIn 3 (some .int) ∈ jAll := jm_3 (List.mem_of_getElem? (i := 59) rfl) rfl
theorem q_540 : Cond.methodLink RL 69 yX7_undo ∈ jAll := jm_3 (List.mem_of_getElem? (i := 60) rfl) rfl
theorem q_541 : Cond.instanceMethod yX7_undo ∈ jAll := jm_3 (List.mem_of_getElem? (i := 61) rfl) rfl
theorem q_542 : Cond.selects RX7 yX7_undo yX7_undo ∈ jAll := jm_3 (List.mem_of_getElem? (i := 62) rfl) rfl
theorem q_543 : Cond.code yX7_undo cX7_undo 1 (some .int) ∈ jAll := jm_3 (List.mem_of_getElem? (i := 63) rfl) rfl
theorem q_544 : Cond.methodLink RX7 167 yX2_popInto ∈ jAll := jm_3 (List.mem_of_getElem? (i := 64) rfl) rfl
theorem q_545 : Cond.instanceMethod yX2_popInto ∈ jAll := jm_3 (List.mem_of_getElem? (i := 65) rfl) rfl
theorem q_546 : Cond.selects RX2 yX2_popInto yX2_popInto ∈ jAll := jm_3 (List.mem_of_getElem? (i := 66) rfl) rfl
theorem q_547 : Cond.code yX2_popInto cX2_popInto 2 (none : Option FieldType) ∈ jAll := jm_3 (List.mem_of_getElem? (i := 67) rfl) rfl
theorem q_p0 : Cond.selects RX2 yX2_stateAt yX2_stateAt ∈ jAll := jm_p (List.mem_of_getElem? (i := 0) rfl) rfl
def jNest : List Cond := [Cond.methodLinkNest RX0 11 yX4_init RX7, Cond.methodLinkNest RX0 20 yX1_init RX7, Cond.methodLinkNest RX0 27 yX3_init RX7, Cond.methodLinkNest RX7 31 yX6_init RX7, Cond.methodLinkNest RX7 38 yX5_init RX7, Cond.methodLinkNest RX4 32 yX7_copyRow RX7, Cond.methodLinkNest RX1 29 yX7_copyRow RX7, Cond.methodLinkNest RX3 44 yX7_copyRow RX7, Cond.methodLinkNest RX0 162 yX7_copyRow RX7, Cond.methodLinkNest RX0 64 yX7_noNumber RX7, Cond.methodLinkNest RX1 25 yX7_noNumber RX7]
