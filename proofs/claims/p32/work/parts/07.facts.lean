theorem lay_X0 : ∀ w ∈ u_ws RX0 TX0 11, w ∈ jAll := List.forall_mem_cons.mpr ⟨q_142, List.forall_mem_cons.mpr ⟨q_144, List.forall_mem_cons.mpr ⟨q_146, List.forall_mem_cons.mpr ⟨q_148, List.forall_mem_cons.mpr ⟨q_150, List.forall_mem_cons.mpr ⟨q_152, List.forall_mem_cons.mpr ⟨q_154, List.forall_mem_cons.mpr ⟨q_156, List.forall_mem_cons.mpr ⟨q_158, List.forall_mem_cons.mpr ⟨q_160, List.forall_mem_cons.mpr ⟨q_162, fun _ h => absurd h List.not_mem_nil⟩⟩⟩⟩⟩⟩⟩⟩⟩⟩⟩
theorem lay_X1 : ∀ w ∈ u_ws RX1 TX1 3, w ∈ jAll := List.forall_mem_cons.mpr ⟨q_64, List.forall_mem_cons.mpr ⟨q_66, List.forall_mem_cons.mpr ⟨q_68, fun _ h => absurd h List.not_mem_nil⟩⟩⟩
theorem lay_X2 : ∀ w ∈ u_ws RX2 TX2 3, w ∈ jAll := List.forall_mem_cons.mpr ⟨q_179, List.forall_mem_cons.mpr ⟨q_181, List.forall_mem_cons.mpr ⟨q_183, fun _ h => absurd h List.not_mem_nil⟩⟩⟩
theorem lay_X3 : ∀ w ∈ u_ws RX3 TX3 8, w ∈ jAll := List.forall_mem_cons.mpr ⟨q_100, List.forall_mem_cons.mpr ⟨q_102, List.forall_mem_cons.mpr ⟨q_104, List.forall_mem_cons.mpr ⟨q_106, List.forall_mem_cons.mpr ⟨q_108, List.forall_mem_cons.mpr ⟨q_110, List.forall_mem_cons.mpr ⟨q_112, List.forall_mem_cons.mpr ⟨q_114, fun _ h => absurd h List.not_mem_nil⟩⟩⟩⟩⟩⟩⟩⟩
theorem lay_X4 : ∀ w ∈ u_ws RX4 TX4 5, w ∈ jAll := List.forall_mem_cons.mpr ⟨q_40, List.forall_mem_cons.mpr ⟨q_42, List.forall_mem_cons.mpr ⟨q_44, List.forall_mem_cons.mpr ⟨q_46, List.forall_mem_cons.mpr ⟨q_48, fun _ h => absurd h List.not_mem_nil⟩⟩⟩⟩⟩
theorem lay_X5 : ∀ w ∈ u_ws RX5 TX5 3, w ∈ jAll := List.forall_mem_cons.mpr ⟨q_218, List.forall_mem_cons.mpr ⟨q_220, List.forall_mem_cons.mpr ⟨q_222, fun _ h => absurd h List.not_mem_nil⟩⟩⟩
theorem lay_X6 : ∀ w ∈ u_ws RX6 TX6 5, w ∈ jAll := List.forall_mem_cons.mpr ⟨q_196, List.forall_mem_cons.mpr ⟨q_198, List.forall_mem_cons.mpr ⟨q_200, List.forall_mem_cons.mpr ⟨q_202, List.forall_mem_cons.mpr ⟨q_204, fun _ h => absurd h List.not_mem_nil⟩⟩⟩⟩⟩
theorem lay_X7 : ∀ w ∈ u_ws RX7 TX7 9, w ∈ jAll := List.forall_mem_cons.mpr ⟨q_232, List.forall_mem_cons.mpr ⟨q_234, List.forall_mem_cons.mpr ⟨q_236, List.forall_mem_cons.mpr ⟨q_238, List.forall_mem_cons.mpr ⟨q_240, List.forall_mem_cons.mpr ⟨q_242, List.forall_mem_cons.mpr ⟨q_244, List.forall_mem_cons.mpr ⟨q_246, List.forall_mem_cons.mpr ⟨q_248, fun _ h => absurd h List.not_mem_nil⟩⟩⟩⟩⟩⟩⟩⟩⟩
theorem f_X4_9 : jFw RX4 9 4 0 true (.array .int) := ⟨(RX4, TX4, 5), rfl, by decide, lay_X4, q_29, rfl, rfl, by decide +kernel, ⟨tyX4, tyX4_ok⟩, nmX4⟩
theorem f_X0_143 : jFw RX0 143 4 0 true (.array .int) := ⟨(RX4, TX4, 5), rfl, by decide, lay_X4, q_30, rfl, rfl, by decide +kernel, ⟨tyX4, tyX4_ok⟩, nmX4⟩
theorem f_X7_178 : jFw RX7 178 4 0 true (.array .int) := ⟨(RX4, TX4, 5), rfl, by decide, lay_X4, q_31, rfl, rfl, by decide +kernel, ⟨tyX4, tyX4_ok⟩, nmX4⟩
theorem f_X4_15 : jFw RX4 15 4 1 true (.array .int) := ⟨(RX4, TX4, 5), rfl, by decide, lay_X4, q_32, rfl, rfl, by decide +kernel, ⟨tyX4, tyX4_ok⟩, nmX4⟩
theorem f_X7_93 : jFw RX7 93 4 1 true (.array .int) := ⟨(RX4, TX4, 5), rfl, by decide, lay_X4, q_33, rfl, rfl, by decide +kernel, ⟨tyX4, tyX4_ok⟩, nmX4⟩
theorem f_X4_18 : jFw RX4 18 4 2 true (.array .int) := ⟨(RX4, TX4, 5), rfl, by decide, lay_X4, q_34, rfl, rfl, by decide +kernel, ⟨tyX4, tyX4_ok⟩, nmX4⟩
theorem f_X7_181 : jFw RX7 181 4 2 true (.array .int) := ⟨(RX4, TX4, 5), rfl, by decide, lay_X4, q_35, rfl, rfl, by decide +kernel, ⟨tyX4, tyX4_ok⟩, nmX4⟩
theorem f_X4_21 : jFw RX4 21 4 3 true (.array .int) := ⟨(RX4, TX4, 5), rfl, by decide, lay_X4, q_36, rfl, rfl, by decide +kernel, ⟨tyX4, tyX4_ok⟩, nmX4⟩
theorem f_X7_191 : jFw RX7 191 4 3 true (.array .int) := ⟨(RX4, TX4, 5), rfl, by decide, lay_X4, q_37, rfl, rfl, by decide +kernel, ⟨tyX4, tyX4_ok⟩, nmX4⟩
theorem f_X4_24 : jFw RX4 24 4 4 false .int := ⟨(RX4, TX4, 5), rfl, by decide, lay_X4, q_38, rfl, rfl, by decide +kernel, ⟨tyX4, tyX4_ok⟩, nmX4⟩
theorem f_X7_79 : jFw RX7 79 4 4 false .int := ⟨(RX4, TX4, 5), rfl, by decide, lay_X4, q_39, rfl, rfl, by decide +kernel, ⟨tyX4, tyX4_ok⟩, nmX4⟩
theorem f_X1_9 : jFw RX1 9 1 0 true (.array .int) := ⟨(RX1, TX1, 3), rfl, by decide, lay_X1, q_58, rfl, rfl, by decide +kernel, ⟨tyX1, tyX1_ok⟩, nmX1⟩
theorem f_X7_194 : jFw RX7 194 1 0 true (.array .int) := ⟨(RX1, TX1, 3), rfl, by decide, lay_X1, q_59, rfl, rfl, by decide +kernel, ⟨tyX1, tyX1_ok⟩, nmX1⟩
theorem f_X1_15 : jFw RX1 15 1 1 true (.array .int) := ⟨(RX1, TX1, 3), rfl, by decide, lay_X1, q_60, rfl, rfl, by decide +kernel, ⟨tyX1, tyX1_ok⟩, nmX1⟩
theorem f_X7_197 : jFw RX7 197 1 1 true (.array .int) := ⟨(RX1, TX1, 3), rfl, by decide, lay_X1, q_61, rfl, rfl, by decide +kernel, ⟨tyX1, tyX1_ok⟩, nmX1⟩
theorem f_X1_18 : jFw RX1 18 1 2 true (.array .int) := ⟨(RX1, TX1, 3), rfl, by decide, lay_X1, q_62, rfl, rfl, by decide +kernel, ⟨tyX1, tyX1_ok⟩, nmX1⟩
theorem f_X7_200 : jFw RX7 200 1 2 true (.array .int) := ⟨(RX1, TX1, 3), rfl, by decide, lay_X1, q_63, rfl, rfl, by decide +kernel, ⟨tyX1, tyX1_ok⟩, nmX1⟩
theorem f_X3_9 : jFw RX3 9 3 0 true (.array .int) := ⟨(RX3, TX3, 8), rfl, by decide, lay_X3, q_77, rfl, rfl, by decide +kernel, ⟨tyX3, tyX3_ok⟩, nmX3⟩
theorem f_X0_107 : jFw RX0 107 3 0 true (.array .int) := ⟨(RX3, TX3, 8), rfl, by decide, lay_X3, q_78, rfl, rfl, by decide +kernel, ⟨tyX3, tyX3_ok⟩, nmX3⟩
theorem f_X7_212 : jFw RX7 212 3 0 true (.array .int) := ⟨(RX3, TX3, 8), rfl, by decide, lay_X3, q_79, rfl, rfl, by decide +kernel, ⟨tyX3, tyX3_ok⟩, nmX3⟩
theorem f_X3_15 : jFw RX3 15 3 1 true (.array .int) := ⟨(RX3, TX3, 8), rfl, by decide, lay_X3, q_80, rfl, rfl, by decide +kernel, ⟨tyX3, tyX3_ok⟩, nmX3⟩
theorem f_X0_72 : jFw RX0 72 3 1 true (.array .int) := ⟨(RX3, TX3, 8), rfl, by decide, lay_X3, q_81, rfl, rfl, by decide +kernel, ⟨tyX3, tyX3_ok⟩, nmX3⟩
theorem f_X7_215 : jFw RX7 215 3 1 true (.array .int) := ⟨(RX3, TX3, 8), rfl, by decide, lay_X3, q_82, rfl, rfl, by decide +kernel, ⟨tyX3, tyX3_ok⟩, nmX3⟩
theorem f_X3_18 : jFw RX3 18 3 2 true (.array .int) := ⟨(RX3, TX3, 8), rfl, by decide, lay_X3, q_83, rfl, rfl, by decide +kernel, ⟨tyX3, tyX3_ok⟩, nmX3⟩
theorem f_X0_79 : jFw RX0 79 3 2 true (.array .int) := ⟨(RX3, TX3, 8), rfl, by decide, lay_X3, q_84, rfl, rfl, by decide +kernel, ⟨tyX3, tyX3_ok⟩, nmX3⟩
theorem f_X7_218 : jFw RX7 218 3 2 true (.array .int) := ⟨(RX3, TX3, 8), rfl, by decide, lay_X3, q_85, rfl, rfl, by decide +kernel, ⟨tyX3, tyX3_ok⟩, nmX3⟩
theorem f_X3_21 : jFw RX3 21 3 3 true (.array .int) := ⟨(RX3, TX3, 8), rfl, by decide, lay_X3, q_86, rfl, rfl, by decide +kernel, ⟨tyX3, tyX3_ok⟩, nmX3⟩
theorem f_X0_57 : jFw RX0 57 3 3 true (.array .int) := ⟨(RX3, TX3, 8), rfl, by decide, lay_X3, q_87, rfl, rfl, by decide +kernel, ⟨tyX3, tyX3_ok⟩, nmX3⟩
theorem f_X7_221 : jFw RX7 221 3 3 true (.array .int) := ⟨(RX3, TX3, 8), rfl, by decide, lay_X3, q_88, rfl, rfl, by decide +kernel, ⟨tyX3, tyX3_ok⟩, nmX3⟩
theorem f_X3_24 : jFw RX3 24 3 4 true (.array .int) := ⟨(RX3, TX3, 8), rfl, by decide, lay_X3, q_89, rfl, rfl, by decide +kernel, ⟨tyX3, tyX3_ok⟩, nmX3⟩
theorem f_X0_89 : jFw RX0 89 3 4 true (.array .int) := ⟨(RX3, TX3, 8), rfl, by decide, lay_X3, q_90, rfl, rfl, by decide +kernel, ⟨tyX3, tyX3_ok⟩, nmX3⟩
theorem f_X7_224 : jFw RX7 224 3 4 true (.array .int) := ⟨(RX3, TX3, 8), rfl, by decide, lay_X3, q_91, rfl, rfl, by decide +kernel, ⟨tyX3, tyX3_ok⟩, nmX3⟩
theorem f_X3_27 : jFw RX3 27 3 5 true (.array .int) := ⟨(RX3, TX3, 8), rfl, by decide, lay_X3, q_92, rfl, rfl, by decide +kernel, ⟨tyX3, tyX3_ok⟩, nmX3⟩
theorem f_X0_92 : jFw RX0 92 3 5 true (.array .int) := ⟨(RX3, TX3, 8), rfl, by decide, lay_X3, q_93, rfl, rfl, by decide +kernel, ⟨tyX3, tyX3_ok⟩, nmX3⟩
theorem f_X7_227 : jFw RX7 227 3 5 true (.array .int) := ⟨(RX3, TX3, 8), rfl, by decide, lay_X3, q_94, rfl, rfl, by decide +kernel, ⟨tyX3, tyX3_ok⟩, nmX3⟩
theorem f_X3_30 : jFw RX3 30 3 6 true (.array .int) := ⟨(RX3, TX3, 8), rfl, by decide, lay_X3, q_95, rfl, rfl, by decide +kernel, ⟨tyX3, tyX3_ok⟩, nmX3⟩
theorem f_X0_104 : jFw RX0 104 3 6 true (.array .int) := ⟨(RX3, TX3, 8), rfl, by decide, lay_X3, q_96, rfl, rfl, by decide +kernel, ⟨tyX3, tyX3_ok⟩, nmX3⟩
theorem f_X7_230 : jFw RX7 230 3 6 true (.array .int) := ⟨(RX3, TX3, 8), rfl, by decide, lay_X3, q_97, rfl, rfl, by decide +kernel, ⟨tyX3, tyX3_ok⟩, nmX3⟩
theorem f_X3_33 : jFw RX3 33 3 7 false .int := ⟨(RX3, TX3, 8), rfl, by decide, lay_X3, q_98, rfl, rfl, by decide +kernel, ⟨tyX3, tyX3_ok⟩, nmX3⟩
theorem f_X7_111 : jFw RX7 111 3 7 false .int := ⟨(RX3, TX3, 8), rfl, by decide, lay_X3, q_99, rfl, rfl, by decide +kernel, ⟨tyX3, tyX3_ok⟩, nmX3⟩
theorem f_X0_12 : jFw RX0 12 0 0 true (.object "GuildFund$Members") := ⟨(RX0, TX0, 11), rfl, by decide, lay_X0, q_120, rfl, rfl, by decide +kernel, ⟨tyX0, tyX0_ok⟩, nmX0⟩
theorem f_X7_75 : jFw RX7 75 0 0 true (.object "GuildFund$Members") := ⟨(RX0, TX0, 11), rfl, by decide, lay_X0, q_121, rfl, rfl, by decide +kernel, ⟨tyX0, tyX0_ok⟩, nmX0⟩
theorem f_X0_21 : jFw RX0 21 0 1 true (.object "GuildFund$Clients") := ⟨(RX0, TX0, 11), rfl, by decide, lay_X0, q_122, rfl, rfl, by decide +kernel, ⟨tyX0, tyX0_ok⟩, nmX0⟩
theorem f_X7_100 : jFw RX7 100 0 1 true (.object "GuildFund$Clients") := ⟨(RX0, TX0, 11), rfl, by decide, lay_X0, q_123, rfl, rfl, by decide +kernel, ⟨tyX0, tyX0_ok⟩, nmX0⟩
theorem f_X0_28 : jFw RX0 28 0 2 true (.object "GuildFund$Invoices") := ⟨(RX0, TX0, 11), rfl, by decide, lay_X0, q_124, rfl, rfl, by decide +kernel, ⟨tyX0, tyX0_ok⟩, nmX0⟩
theorem f_X7_107 : jFw RX7 107 0 2 true (.object "GuildFund$Invoices") := ⟨(RX0, TX0, 11), rfl, by decide, lay_X0, q_125, rfl, rfl, by decide +kernel, ⟨tyX0, tyX0_ok⟩, nmX0⟩
theorem f_X0_32 : jFw RX0 32 0 3 true (.array .float) := ⟨(RX0, TX0, 11), rfl, by decide, lay_X0, q_126, rfl, rfl, by decide +kernel, ⟨tyX0, tyX0_ok⟩, nmX0⟩
theorem f_X7_58 : jFw RX7 58 0 3 true (.array .float) := ⟨(RX0, TX0, 11), rfl, by decide, lay_X0, q_127, rfl, rfl, by decide +kernel, ⟨tyX0, tyX0_ok⟩, nmX0⟩
theorem f_X0_36 : jFw RX0 36 0 4 true (.array .int) := ⟨(RX0, TX0, 11), rfl, by decide, lay_X0, q_128, rfl, rfl, by decide +kernel, ⟨tyX0, tyX0_ok⟩, nmX0⟩
theorem f_X7_72 : jFw RX7 72 0 4 true (.array .int) := ⟨(RX0, TX0, 11), rfl, by decide, lay_X0, q_129, rfl, rfl, by decide +kernel, ⟨tyX0, tyX0_ok⟩, nmX0⟩
theorem f_X0_53 : jFw RX0 53 0 5 false .int := ⟨(RX0, TX0, 11), rfl, by decide, lay_X0, q_130, rfl, rfl, by decide +kernel, ⟨tyX0, tyX0_ok⟩, nmX0⟩
theorem f_X7_156 : jFw RX7 156 0 5 false .int := ⟨(RX0, TX0, 11), rfl, by decide, lay_X0, q_131, rfl, rfl, by decide +kernel, ⟨tyX0, tyX0_ok⟩, nmX0⟩
theorem f_X7_97 : jFw RX7 97 0 6 false .int := ⟨(RX0, TX0, 11), rfl, by decide, lay_X0, q_132, rfl, rfl, by decide +kernel, ⟨tyX0, tyX0_ok⟩, nmX0⟩
theorem f_X0_95 : jFw RX0 95 0 6 false .int := ⟨(RX0, TX0, 11), rfl, by decide, lay_X0, q_133, rfl, rfl, by decide +kernel, ⟨tyX0, tyX0_ok⟩, nmX0⟩
theorem f_X0_114 : jFw RX0 114 0 7 false .int := ⟨(RX0, TX0, 11), rfl, by decide, lay_X0, q_134, rfl, rfl, by decide +kernel, ⟨tyX0, tyX0_ok⟩, nmX0⟩
theorem f_X7_266 : jFw RX7 266 0 7 false .int := ⟨(RX0, TX0, 11), rfl, by decide, lay_X0, q_135, rfl, rfl, by decide +kernel, ⟨tyX0, tyX0_ok⟩, nmX0⟩
theorem f_X0_117 : jFw RX0 117 0 8 false .int := ⟨(RX0, TX0, 11), rfl, by decide, lay_X0, q_136, rfl, rfl, by decide +kernel, ⟨tyX0, tyX0_ok⟩, nmX0⟩
theorem f_X7_269 : jFw RX7 269 0 8 false .int := ⟨(RX0, TX0, 11), rfl, by decide, lay_X0, q_137, rfl, rfl, by decide +kernel, ⟨tyX0, tyX0_ok⟩, nmX0⟩
theorem f_X0_130 : jFw RX0 130 0 9 false .int := ⟨(RX0, TX0, 11), rfl, by decide, lay_X0, q_138, rfl, rfl, by decide +kernel, ⟨tyX0, tyX0_ok⟩, nmX0⟩
theorem f_X7_272 : jFw RX7 272 0 9 false .int := ⟨(RX0, TX0, 11), rfl, by decide, lay_X0, q_139, rfl, rfl, by decide +kernel, ⟨tyX0, tyX0_ok⟩, nmX0⟩
theorem f_X0_149 : jFw RX0 149 0 10 false .int := ⟨(RX0, TX0, 11), rfl, by decide, lay_X0, q_140, rfl, rfl, by decide +kernel, ⟨tyX0, tyX0_ok⟩, nmX0⟩
theorem f_X7_275 : jFw RX7 275 0 10 false .int := ⟨(RX0, TX0, 11), rfl, by decide, lay_X0, q_141, rfl, rfl, by decide +kernel, ⟨tyX0, tyX0_ok⟩, nmX0⟩
theorem f_X2_11 : jFw RX2 11 2 0 true (.array (.object "GuildFund$Book")) := ⟨(RX2, TX2, 3), rfl, by decide, lay_X2, q_175, rfl, rfl, by decide +kernel, ⟨tyX2, tyX2_ok⟩, nmX2⟩
theorem f_X2_18 : jFw RX2 18 2 1 false .int := ⟨(RX2, TX2, 3), rfl, by decide, lay_X2, q_176, rfl, rfl, by decide +kernel, ⟨tyX2, tyX2_ok⟩, nmX2⟩
theorem f_X2_30 : jFw RX2 30 2 2 false .int := ⟨(RX2, TX2, 3), rfl, by decide, lay_X2, q_177, rfl, rfl, by decide +kernel, ⟨tyX2, tyX2_ok⟩, nmX2⟩
theorem f_X7_166 : jFw RX7 166 2 2 false .int := ⟨(RX2, TX2, 3), rfl, by decide, lay_X2, q_178, rfl, rfl, by decide +kernel, ⟨tyX2, tyX2_ok⟩, nmX2⟩
theorem f_X6_9 : jFw RX6 9 6 0 true (.array .char) := ⟨(RX6, TX6, 5), rfl, by decide, lay_X6, q_192, rfl, rfl, by decide +kernel, ⟨tyX6, tyX6_ok⟩, nmX6⟩
theorem f_X6_15 : jFw RX6 15 6 1 true (.array .int) := ⟨(RX6, TX6, 5), rfl, by decide, lay_X6, q_193, rfl, rfl, by decide +kernel, ⟨tyX6, tyX6_ok⟩, nmX6⟩
theorem f_X6_19 : jFw RX6 19 6 2 true (.array .int) := ⟨(RX6, TX6, 5), rfl, by decide, lay_X6, q_194, rfl, rfl, by decide +kernel, ⟨tyX6, tyX6_ok⟩, nmX6⟩
theorem f_X7_163 : jFw RX7 163 6 3 false .int := ⟨(RX6, TX6, 5), rfl, by decide, lay_X6, q_195, rfl, rfl, by decide +kernel, ⟨tyX6, tyX6_ok⟩, nmX6⟩
theorem f_X5_9 : jFw RX5 9 5 0 true (.array .int) := ⟨(RX5, TX5, 3), rfl, by decide, lay_X5, q_214, rfl, rfl, by decide +kernel, ⟨tyX5, tyX5_ok⟩, nmX5⟩
theorem f_X5_15 : jFw RX5 15 5 1 true (.array .float) := ⟨(RX5, TX5, 3), rfl, by decide, lay_X5, q_215, rfl, rfl, by decide +kernel, ⟨tyX5, tyX5_ok⟩, nmX5⟩
theorem f_X5_19 : jFw RX5 19 5 2 false .int := ⟨(RX5, TX5, 3), rfl, by decide, lay_X5, q_216, rfl, rfl, by decide +kernel, ⟨tyX5, tyX5_ok⟩, nmX5⟩
theorem f_X7_246 : jFw RX7 246 5 2 false .int := ⟨(RX5, TX5, 3), rfl, by decide, lay_X5, q_217, rfl, rfl, by decide +kernel, ⟨tyX5, tyX5_ok⟩, nmX5⟩
theorem f_X7_10 : jFw RX7 10 7 0 true (.object "GuildFund$Book") := ⟨(RX7, TX7, 9), rfl, by decide, lay_X7, q_225, rfl, rfl, by decide +kernel, ⟨tyX7, tyX7_ok⟩, nmX7⟩
theorem f_X7_16 : jFw RX7 16 7 1 true (.object "GuildFund$Book") := ⟨(RX7, TX7, 9), rfl, by decide, lay_X7, q_226, rfl, rfl, by decide +kernel, ⟨tyX7, tyX7_ok⟩, nmX7⟩
theorem f_X7_19 : jFw RX7 19 7 2 true (.object "GuildFund$Book") := ⟨(RX7, TX7, 9), rfl, by decide, lay_X7, q_227, rfl, rfl, by decide +kernel, ⟨tyX7, tyX7_ok⟩, nmX7⟩
theorem f_X7_25 : jFw RX7 25 7 3 true (.object "GuildFund$History") := ⟨(RX7, TX7, 9), rfl, by decide, lay_X7, q_228, rfl, rfl, by decide +kernel, ⟨tyX7, tyX7_ok⟩, nmX7⟩
theorem f_X7_32 : jFw RX7 32 7 4 true (.object "GuildFund$Text") := ⟨(RX7, TX7, 9), rfl, by decide, lay_X7, q_229, rfl, rfl, by decide +kernel, ⟨tyX7, tyX7_ok⟩, nmX7⟩
theorem f_X7_39 : jFw RX7 39 7 5 true (.object "GuildFund$Ranking") := ⟨(RX7, TX7, 9), rfl, by decide, lay_X7, q_230, rfl, rfl, by decide +kernel, ⟨tyX7, tyX7_ok⟩, nmX7⟩
theorem f_X7_43 : jFw RX7 43 7 8 false .int := ⟨(RX7, TX7, 9), rfl, by decide, lay_X7, q_231, rfl, rfl, by decide +kernel, ⟨tyX7, tyX7_ok⟩, nmX7⟩
theorem jgV {own : String} {idx : Nat} {y : MethodName} {cb : ByteArray} {maxL : Nat} {ret : Option FieldType} (h1 : Cond.methodLink own idx y ∈ jAll) (h2 : Cond.instanceMethod y ∈ jAll) (h3 : Cond.selects y.cls y y ∈ jAll) (h4 : Cond.initialized y.cls ∈ jAll) (h5 : Cond.code y cb maxL ret ∈ jAll) : GoodIn jAll (wsV own idx y.cls y (jw y cb maxL ret)) := jgood (by
  intro w hw
  unfold wsV jw at hw
  simp only [List.cons_append, List.nil_append, List.mem_cons] at hw
  rcases hw with rfl | rfl | rfl | rfl | rfl | hw
  · exact h1
  · exact h2
  · exact h3
  · exact h4
  · exact h5
  · exact hw)
theorem jgS {own : String} {idx : Nat} {y : MethodName} {cb : ByteArray} {maxL : Nat} {ret : Option FieldType} (h1 : Cond.methodLink own idx y ∈ jAll) (h2 : Cond.static y ∈ jAll) (h4 : Cond.initialized own ∈ jAll) (h5 : Cond.code y cb maxL ret ∈ jAll) : GoodIn jAll (wsS own idx y (jw y cb maxL ret)) := jgood (by
  intro w hw
  unfold wsS jw at hw
  simp only [List.cons_append, List.nil_append, List.mem_cons] at hw
  rcases hw with rfl | rfl | rfl | rfl | hw
  · exact h1
  · exact h2
  · exact h4
  · exact h5
  · exact hw)
theorem jgI {y : MethodName} {cb : ByteArray} {maxL : Nat} {ret : Option FieldType} (h5 : Cond.code y cb maxL ret ∈ jAll) : GoodIn jAll (jw y cb maxL ret) := jgood (List.forall_mem_cons.mpr ⟨h5, fun _ h => h⟩)
theorem g_L_73 : jGI RL 73 yX7_init cX7_init 1 0 := ⟨rfl, jgI q_13, q_1, q_11, q_12, by decide, by decide, by decide +kernel⟩
theorem g_X7_9 : jGI RX7 9 yX0_init cX0_init 1 0 := ⟨rfl, jgI q_21, q_2, q_19, q_20, by decide, by decide, by decide +kernel⟩
theorem g_X7_24 : jGI RX7 24 yX2_init cX2_init 2 0 := ⟨rfl, jgI q_170, q_6, q_168, q_169, by decide, by decide, by decide +kernel⟩
theorem g_X2_17 : jGI RX2 17 yX0_init cX0_init 1 0 := ⟨rfl, jgI q_21, q_2, q_174, q_20, by decide, by decide, by decide +kernel⟩
theorem g_L_20 : jGV RL 20 yX7_addMember cX7_addMember 2 (some .int) 1 := ⟨jgV q_251 q_252 q_253 q_1 q_254, by decide, by decide, by decide +kernel⟩
theorem g_X7_62 : jGV RX7 62 yX2_push cX2_push 2 (none : Option FieldType) 1 := ⟨jgV q_255 q_256 q_257 q_6 q_258, by decide, by decide, by decide +kernel⟩
theorem g_X2_22 : jGV RX2 22 yX2_stateAt cX2_stateAt 2 (Option.some (FieldType.object RX0)) 1 := ⟨jgV q_259 q_261 q_p0 q_6 q_262, by decide, by decide, by decide +kernel⟩
theorem g_X2_26 : jGS RX2 26 yX2_copy cX2_copy 2 (none : Option FieldType) 2 := ⟨rfl, jgS q_263 q_264 q_6 q_265, by decide, by decide, by decide +kernel⟩
theorem g_X2_33 : jGV RX2 33 yX0_copyFrom cX0_copyFrom 3 (none : Option FieldType) 1 := ⟨jgV q_266 q_267 q_268 q_2 q_269, by decide, by decide, by decide +kernel⟩
theorem g_X0_152 : jGV RX0 152 yX4_copyFrom cX4_copyFrom 2 (none : Option FieldType) 1 := ⟨jgV q_270 q_271 q_272 q_3 q_273, by decide, by decide, by decide +kernel⟩
theorem g_X0_156 : jGV RX0 156 yX1_copyFrom cX1_copyFrom 2 (none : Option FieldType) 1 := ⟨jgV q_277 q_278 q_279 q_4 q_280, by decide, by decide, by decide +kernel⟩
theorem g_X0_159 : jGV RX0 159 yX3_copyFrom cX3_copyFrom 2 (none : Option FieldType) 1 := ⟨jgV q_282 q_283 q_284 q_5 q_285, by decide, by decide, by decide +kernel⟩
theorem g_X7_84 : jGV RX7 84 yX4_append cX4_append 2 (some .int) 1 := ⟨jgV q_288 q_289 q_290 q_3 q_291, by decide, by decide, by decide +kernel⟩
theorem g_L_35 : jGV RL 35 yX7_invoice cX7_invoice 4 (some .int) 2 := ⟨jgV q_292 q_293 q_294 q_1 q_295, by decide, by decide, by decide +kernel⟩
theorem g_X7_117 : jGV RX7 117 yX3_has cX3_has 2 (Option.some FieldType.boolean) 1 := ⟨jgV q_296 q_297 q_298 q_5 q_299, by decide, by decide, by decide +kernel⟩
theorem g_X7_232 : jGV RX7 232 yX0_ageOf cX0_ageOf 2 (some .int) 1 := ⟨jgV q_300 q_301 q_302 q_2 q_303, by decide, by decide, by decide +kernel⟩
theorem g_X0_49 : jGV RX0 49 yX3_has cX3_has 2 (Option.some FieldType.boolean) 1 := ⟨jgV q_304 q_297 q_298 q_5 q_299, by decide, by decide, by decide +kernel⟩
theorem g_X7_236 : jGV RX7 236 yX0_offerAfter cX0_offerAfter 3 (some .int) 2 := ⟨jgV q_306 q_307 q_308 q_2 q_309, by decide, by decide, by decide +kernel⟩
theorem g_X0_82 : jGV RX0 82 yX0_rateAfter cX0_rateAfter 5 (Option.some FieldType.float) 2 := ⟨jgV q_310 q_311 q_312 q_2 q_313, by decide, by decide, by decide +kernel⟩
theorem g_X0_68 : jGV RX0 68 yX0_lateAfter cX0_lateAfter 4 (some .int) 2 := ⟨jgV q_318 q_319 q_320 q_2 q_321, by decide, by decide, by decide +kernel⟩
theorem g_X0_60 : jGV RX0 60 yX0_ageOf cX0_ageOf 2 (some .int) 1 := ⟨jgV q_322 q_301 q_302 q_2 q_303, by decide, by decide, by decide +kernel⟩
theorem g_X0_75 : jGV RX0 75 yX1_riskOf cX1_riskOf 2 (Option.some FieldType.float) 1 := ⟨jgV q_323 q_324 q_325 q_4 q_326, by decide, by decide, by decide +kernel⟩
theorem g_X1_21 : jGV RX1 21 yX1_has cX1_has 2 (Option.some FieldType.boolean) 1 := ⟨jgV q_327 q_328 q_329 q_4 q_330, by decide, by decide, by decide +kernel⟩
theorem g_X7_118 : jGV RX7 118 yX0_canPayAhead cX0_canPayAhead 3 (Option.some FieldType.boolean) 1 := ⟨jgV q_332 q_333 q_334 q_2 q_335, by decide, by decide, by decide +kernel⟩
theorem g_X0_86 : jGV RX0 86 yX0_offerAfter cX0_offerAfter 3 (some .int) 2 := ⟨jgV q_336 q_307 q_308 q_2 q_309, by decide, by decide, by decide +kernel⟩
theorem g_X0_98 : jGV RX0 98 yX0_reserveCents cX0_reserveCents 1 (some .int) 0 := ⟨jgV q_337 q_338 q_339 q_2 q_340, by decide, by decide, by decide +kernel⟩
theorem g_X0_43 : jGV RX0 43 yX4_allDues cX4_allDues 3 (some .int) 0 := ⟨jgV q_341 q_342 q_343 q_3 q_344, by decide, by decide, by decide +kernel⟩
theorem g_X4_28 : jGV RX4 28 yX4_has cX4_has 2 (Option.some FieldType.boolean) 1 := ⟨jgV q_345 q_346 q_347 q_3 q_348, by decide, by decide, by decide +kernel⟩
theorem g_X7_131 : jGV RX7 131 yX0_canGiveUp cX0_canGiveUp 2 (Option.some FieldType.boolean) 1 := ⟨jgV q_350 q_351 q_352 q_2 q_353, by decide, by decide, by decide +kernel⟩
theorem g_X0_101 : jGV RX0 101 yX3_isUnsettled cX3_isUnsettled 2 (Option.some FieldType.boolean) 1 := ⟨jgV q_354 q_355 q_356 q_5 q_357, by decide, by decide, by decide +kernel⟩
theorem g_X3_37 : jGV RX3 37 yX3_has cX3_has 2 (Option.some FieldType.boolean) 1 := ⟨jgV q_358 q_297 q_298 q_5 q_299, by decide, by decide, by decide +kernel⟩
theorem g_L_8 : jGV RL 8 yX7_count cX7_count 2 (some .int) 1 := ⟨jgV q_359 q_360 q_361 q_1 q_362, by decide, by decide, by decide +kernel⟩
theorem g_X7_254 : jGV RX7 254 yX4_allDues cX4_allDues 3 (some .int) 0 := ⟨jgV q_364 q_342 q_343 q_3 q_344, by decide, by decide, by decide +kernel⟩
theorem g_X7_260 : jGV RX7 260 yX0_reserveCents cX0_reserveCents 1 (some .int) 0 := ⟨jgV q_365 q_338 q_339 q_2 q_340, by decide, by decide, by decide +kernel⟩
theorem g_X7_263 : jGV RX7 263 yX3_countOfState cX3_countOfState 4 (some .int) 1 := ⟨jgV q_366 q_367 q_368 q_5 q_369, by decide, by decide, by decide +kernel⟩
theorem g_L_74 : jGS RL 74 yL_cell cL_cell 2 (some .int) 2 := ⟨rfl, jgS q_370 q_371 q_0 q_372, by decide, by decide, by decide +kernel⟩
theorem g_L_14 : jGS RL 14 yL_low cL_low 2 (some .int) 2 := ⟨rfl, jgS q_373 q_374 q_0 q_375, by decide, by decide, by decide +kernel⟩
theorem g_L_78 : jGS RL 78 yL_does cL_does 7 (some .int) 2 := ⟨rfl, jgS q_377 q_378 q_0 q_379, by decide, by decide, by decide +kernel⟩
theorem g_L_24 : jGV RL 24 yX7_payDues cX7_payDues 4 (some .int) 2 := ⟨jgV q_381 q_382 q_383 q_1 q_384, by decide, by decide, by decide +kernel⟩
theorem g_X7_88 : jGV RX7 88 yX4_has cX4_has 2 (Option.some FieldType.boolean) 1 := ⟨jgV q_385 q_346 q_347 q_3 q_348, by decide, by decide, by decide +kernel⟩
theorem g_L_28 : jGV RL 28 yX7_addInvoice cX7_addInvoice 5 (some .int) 4 := ⟨jgV q_389 q_390 q_391 q_1 q_392, by decide, by decide, by decide +kernel⟩
theorem g_X7_104 : jGV RX7 104 yX1_has cX1_has 2 (Option.some FieldType.boolean) 1 := ⟨jgV q_393 q_328 q_329 q_4 q_330, by decide, by decide, by decide +kernel⟩
theorem g_X7_114 : jGV RX7 114 yX3_append cX3_append 5 (some .int) 4 := ⟨jgV q_394 q_395 q_396 q_5 q_397, by decide, by decide, by decide +kernel⟩
theorem g_L_32 : jGV RL 32 yX7_payAhead cX7_payAhead 2 (some .int) 1 := ⟨jgV q_398 q_399 q_400 q_1 q_401, by decide, by decide, by decide +kernel⟩
theorem g_X7_121 : jGV RX7 121 yX0_advance cX0_advance 3 (some .int) 1 := ⟨jgV q_402 q_403 q_404 q_2 q_405, by decide, by decide, by decide +kernel⟩
theorem g_X0_110 : jGV RX0 110 yX4_intoPurse cX4_intoPurse 3 (none : Option FieldType) 2 := ⟨jgV q_406 q_407 q_408 q_3 q_409, by decide, by decide, by decide +kernel⟩
theorem g_L_38 : jGV RL 38 yX7_pay cX7_pay 4 (some .int) 2 := ⟨jgV q_410 q_411 q_412 q_1 q_413, by decide, by decide, by decide +kernel⟩
theorem g_X7_124 : jGV RX7 124 yX0_errorOfPayment cX0_errorOfPayment 4 (some .int) 2 := ⟨jgV q_414 q_415 q_416 q_2 q_417, by decide, by decide, by decide +kernel⟩
theorem g_X7_128 : jGV RX7 128 yX0_collect cX0_collect 4 (some .int) 2 := ⟨jgV q_418 q_419 q_420 q_2 q_421, by decide, by decide, by decide +kernel⟩
theorem g_X0_120 : jGV RX0 120 yX0_settle cX0_settle 2 (none : Option FieldType) 1 := ⟨jgV q_422 q_423 q_424 q_2 q_425, by decide, by decide, by decide +kernel⟩
theorem g_X0_124 : jGV RX0 124 yX0_passOn cX0_passOn 4 (none : Option FieldType) 1 := ⟨jgV q_426 q_427 q_428 q_2 q_429, by decide, by decide, by decide +kernel⟩
theorem g_X0_127 : jGV RX0 127 yX1_addSettled cX1_addSettled 3 (none : Option FieldType) 2 := ⟨jgV q_430 q_431 q_432 q_4 q_433, by decide, by decide, by decide +kernel⟩
theorem g_L_41 : jGV RL 41 yX7_giveUp cX7_giveUp 2 (some .int) 1 := ⟨jgV q_434 q_435 q_436 q_1 q_437, by decide, by decide, by decide +kernel⟩
theorem g_X7_134 : jGV RX7 134 yX0_lose cX0_lose 4 (some .int) 1 := ⟨jgV q_438 q_439 q_440 q_2 q_441, by decide, by decide, by decide +kernel⟩
theorem g_X0_133 : jGV RX0 133 yX1_addLost cX1_addLost 2 (none : Option FieldType) 1 := ⟨jgV q_442 q_443 q_444 q_4 q_445, by decide, by decide, by decide +kernel⟩
theorem g_X0_136 : jGV RX0 136 yX0_share cX0_share 8 (none : Option FieldType) 1 := ⟨jgV q_446 q_447 q_448 q_2 q_449, by decide, by decide, by decide +kernel⟩
theorem g_X0_139 : jGV RX0 139 yX4_allWeights cX4_allWeights 3 (some .int) 0 := ⟨jgV q_450 q_451 q_452 q_3 q_453, by decide, by decide, by decide +kernel⟩
theorem g_X0_142 : jGV RX0 142 yX4_has cX4_has 2 (Option.some FieldType.boolean) 1 := ⟨jgV q_454 q_346 q_347 q_3 q_348, by decide, by decide, by decide +kernel⟩
theorem g_X0_146 : jGV RX0 146 yX4_bear cX4_bear 3 (none : Option FieldType) 2 := ⟨jgV q_455 q_456 q_457 q_3 q_458, by decide, by decide, by decide +kernel⟩
theorem g_L_44 : jGV RL 44 yX7_setNumber cX7_setNumber 4 (some .int) 2 := ⟨jgV q_459 q_460 q_461 q_1 q_462, by decide, by decide, by decide +kernel⟩
theorem g_L_50 : jGV RL 50 yX7_setRate cX7_setRate 4 (some .int) 2 := ⟨jgV q_470 q_471 q_472 q_1 q_473, by decide, by decide, by decide +kernel⟩
theorem g_X7_54 : jGS RX7 54 yX7_floatOf cX7_floatOf 6 (Option.some FieldType.float) 1 := ⟨rfl, jgS q_478 q_479 q_1 q_480, by decide, by decide, by decide +kernel⟩
theorem g_L_53 : jGV RL 53 yX7_pass cX7_pass 2 (some .int) 1 := ⟨jgV q_484 q_485 q_486 q_1 q_487, by decide, by decide, by decide +kernel⟩
theorem g_L_82 : jGS RL 82 yL_areSumsSo cL_areSumsSo 9 (Option.some FieldType.boolean) 2 := ⟨rfl, jgS q_489 q_490 q_0 q_491, by decide, by decide, by decide +kernel⟩
theorem g_L_57 : jGV RL 57 yX7_member cX7_member 4 (some .int) 2 := ⟨jgV q_493 q_494 q_495 q_1 q_496, by decide, by decide, by decide +kernel⟩
theorem g_X7_185 : jGV RX7 185 yX3_countOfMember cX3_countOfMember 4 (some .int) 1 := ⟨jgV q_497 q_498 q_499 q_5 q_500, by decide, by decide, by decide +kernel⟩
theorem g_X7_188 : jGV RX7 188 yX3_countOfMemberAhead cX3_countOfMemberAhead 4 (some .int) 1 := ⟨jgV q_501 q_502 q_503 q_5 q_504, by decide, by decide, by decide +kernel⟩
theorem g_L_86 : jGS RL 86 yL_areInvoicesSo cL_areInvoicesSo 8 (Option.some FieldType.boolean) 1 := ⟨rfl, jgS q_505 q_506 q_0 q_507, by decide, by decide, by decide +kernel⟩
theorem g_L_60 : jGV RL 60 yX7_client cX7_client 4 (some .int) 2 := ⟨jgV q_508 q_509 q_510 q_1 q_511, by decide, by decide, by decide +kernel⟩
theorem g_X7_203 : jGV RX7 203 yX3_countOfClientUnsettled cX3_countOfClientUnsettled 4 (some .int) 1 := ⟨jgV q_512 q_513 q_514 q_5 q_515, by decide, by decide, by decide +kernel⟩
theorem g_X3_41 : jGV RX3 41 yX3_isUnsettled cX3_isUnsettled 2 (Option.some FieldType.boolean) 1 := ⟨jgV q_516 q_355 q_356 q_5 q_357, by decide, by decide, by decide +kernel⟩
theorem g_L_63 : jGV RL 63 yX7_best cX7_best 3 (some .int) 1 := ⟨jgV q_517 q_518 q_519 q_1 q_520, by decide, by decide, by decide +kernel⟩
theorem g_X7_243 : jGV RX7 243 yX0_worthOf cX0_worthOf 5 (Option.some FieldType.float) 1 := ⟨jgV q_521 q_522 q_523 q_2 q_524, by decide, by decide, by decide +kernel⟩
theorem g_X7_247 : jGV RX7 247 yX5_insert cX5_insert 4 (none : Option FieldType) 2 := ⟨jgV q_525 q_526 q_527 q_8 q_528, by decide, by decide, by decide +kernel⟩
theorem g_X7_251 : jGV RX7 251 yX5_invoiceAt cX5_invoiceAt 2 (some .int) 1 := ⟨jgV q_529 q_530 q_531 q_8 q_532, by decide, by decide, by decide +kernel⟩
theorem g_L_90 : jGS RL 90 yL_isWorthlessSo cL_isWorthlessSo 4 (Option.some FieldType.boolean) 2 := ⟨rfl, jgS q_533 q_534 q_0 q_535, by decide, by decide, by decide +kernel⟩
theorem g_L_66 : jGV RL 66 yX7_worthlessIn cX7_worthlessIn 3 (some .int) 1 := ⟨jgV q_536 q_537 q_538 q_1 q_539, by decide, by decide, by decide +kernel⟩
theorem g_L_69 : jGV RL 69 yX7_undo cX7_undo 1 (some .int) 0 := ⟨jgV q_540 q_541 q_542 q_1 q_543, by decide, by decide, by decide +kernel⟩
theorem g_X7_167 : jGV RX7 167 yX2_popInto cX2_popInto 2 (none : Option FieldType) 1 := ⟨jgV q_544 q_545 q_546 q_6 q_547, by decide, by decide, by decide +kernel⟩
theorem g_X0_11 : jGIN RX0 11 yX4_init RX7 cX4_init 1 0 := ⟨rfl, List.mem_of_getElem? (i := 0) rfl, jgI q_27, q_3, q_26, by decide, by decide, by decide +kernel⟩
theorem g_X0_20 : jGIN RX0 20 yX1_init RX7 cX1_init 1 0 := ⟨rfl, List.mem_of_getElem? (i := 1) rfl, jgI q_56, q_4, q_55, by decide, by decide, by decide +kernel⟩
theorem g_X0_27 : jGIN RX0 27 yX3_init RX7 cX3_init 1 0 := ⟨rfl, List.mem_of_getElem? (i := 2) rfl, jgI q_75, q_5, q_74, by decide, by decide, by decide +kernel⟩
theorem g_X7_31 : jGIN RX7 31 yX6_init RX7 cX6_init 1 0 := ⟨rfl, List.mem_of_getElem? (i := 3) rfl, jgI q_190, q_7, q_189, by decide, by decide, by decide +kernel⟩
theorem g_X7_38 : jGIN RX7 38 yX5_init RX7 cX5_init 1 0 := ⟨rfl, List.mem_of_getElem? (i := 4) rfl, jgI q_212, q_8, q_211, by decide, by decide, by decide +kernel⟩
theorem g_X4_32 : jGSN RX4 32 yX7_copyRow RX7 cX7_copyRow 3 (none : Option FieldType) 2 := ⟨List.mem_of_getElem? (i := 5) rfl, q_275, q_1, jgI q_276, by decide, by decide, by decide +kernel⟩
theorem g_X1_29 : jGSN RX1 29 yX7_copyRow RX7 cX7_copyRow 3 (none : Option FieldType) 2 := ⟨List.mem_of_getElem? (i := 6) rfl, q_275, q_1, jgI q_276, by decide, by decide, by decide +kernel⟩
theorem g_X3_44 : jGSN RX3 44 yX7_copyRow RX7 cX7_copyRow 3 (none : Option FieldType) 2 := ⟨List.mem_of_getElem? (i := 7) rfl, q_275, q_1, jgI q_276, by decide, by decide, by decide +kernel⟩
theorem g_X0_162 : jGSN RX0 162 yX7_copyRow RX7 cX7_copyRow 3 (none : Option FieldType) 2 := ⟨List.mem_of_getElem? (i := 8) rfl, q_275, q_1, jgI q_276, by decide, by decide, by decide +kernel⟩
theorem g_X0_64 : jGSN RX0 64 yX7_noNumber RX7 cX7_noNumber 0 (Option.some FieldType.float) 0 := ⟨List.mem_of_getElem? (i := 9) rfl, q_315, q_1, jgI q_316, by decide, by decide, by decide +kernel⟩
theorem g_X1_25 : jGSN RX1 25 yX7_noNumber RX7 cX7_noNumber 0 (Option.some FieldType.float) 0 := ⟨List.mem_of_getElem? (i := 10) rfl, q_315, q_1, jgI q_316, by decide, by decide, by decide +kernel⟩
