theorem lay_X0 : ∀ w ∈ u_ws RX0 TX0 11, w ∈ jAll := List.forall_mem_cons.mpr ⟨q_143, List.forall_mem_cons.mpr ⟨q_145, List.forall_mem_cons.mpr ⟨q_147, List.forall_mem_cons.mpr ⟨q_149, List.forall_mem_cons.mpr ⟨q_151, List.forall_mem_cons.mpr ⟨q_153, List.forall_mem_cons.mpr ⟨q_155, List.forall_mem_cons.mpr ⟨q_157, List.forall_mem_cons.mpr ⟨q_159, List.forall_mem_cons.mpr ⟨q_161, List.forall_mem_cons.mpr ⟨q_163, fun _ h => absurd h List.not_mem_nil⟩⟩⟩⟩⟩⟩⟩⟩⟩⟩⟩
theorem lay_X1 : ∀ w ∈ u_ws RX1 TX1 3, w ∈ jAll := List.forall_mem_cons.mpr ⟨q_65, List.forall_mem_cons.mpr ⟨q_67, List.forall_mem_cons.mpr ⟨q_69, fun _ h => absurd h List.not_mem_nil⟩⟩⟩
theorem lay_X2 : ∀ w ∈ u_ws RX2 TX2 3, w ∈ jAll := List.forall_mem_cons.mpr ⟨q_180, List.forall_mem_cons.mpr ⟨q_182, List.forall_mem_cons.mpr ⟨q_184, fun _ h => absurd h List.not_mem_nil⟩⟩⟩
theorem lay_X3 : ∀ w ∈ u_ws RX3 TX3 8, w ∈ jAll := List.forall_mem_cons.mpr ⟨q_101, List.forall_mem_cons.mpr ⟨q_103, List.forall_mem_cons.mpr ⟨q_105, List.forall_mem_cons.mpr ⟨q_107, List.forall_mem_cons.mpr ⟨q_109, List.forall_mem_cons.mpr ⟨q_111, List.forall_mem_cons.mpr ⟨q_113, List.forall_mem_cons.mpr ⟨q_115, fun _ h => absurd h List.not_mem_nil⟩⟩⟩⟩⟩⟩⟩⟩
theorem lay_X4 : ∀ w ∈ u_ws RX4 TX4 5, w ∈ jAll := List.forall_mem_cons.mpr ⟨q_41, List.forall_mem_cons.mpr ⟨q_43, List.forall_mem_cons.mpr ⟨q_45, List.forall_mem_cons.mpr ⟨q_47, List.forall_mem_cons.mpr ⟨q_49, fun _ h => absurd h List.not_mem_nil⟩⟩⟩⟩⟩
theorem lay_X5 : ∀ w ∈ u_ws RX5 TX5 3, w ∈ jAll := List.forall_mem_cons.mpr ⟨q_222, List.forall_mem_cons.mpr ⟨q_224, List.forall_mem_cons.mpr ⟨q_226, fun _ h => absurd h List.not_mem_nil⟩⟩⟩
theorem lay_X6 : ∀ w ∈ u_ws RX6 TX6 5, w ∈ jAll := List.forall_mem_cons.mpr ⟨q_200, List.forall_mem_cons.mpr ⟨q_202, List.forall_mem_cons.mpr ⟨q_204, List.forall_mem_cons.mpr ⟨q_206, List.forall_mem_cons.mpr ⟨q_208, fun _ h => absurd h List.not_mem_nil⟩⟩⟩⟩⟩
theorem lay_X7 : ∀ w ∈ u_ws RX7 TX7 9, w ∈ jAll := List.forall_mem_cons.mpr ⟨q_238, List.forall_mem_cons.mpr ⟨q_240, List.forall_mem_cons.mpr ⟨q_242, List.forall_mem_cons.mpr ⟨q_244, List.forall_mem_cons.mpr ⟨q_246, List.forall_mem_cons.mpr ⟨q_248, List.forall_mem_cons.mpr ⟨q_250, List.forall_mem_cons.mpr ⟨q_252, List.forall_mem_cons.mpr ⟨q_254, fun _ h => absurd h List.not_mem_nil⟩⟩⟩⟩⟩⟩⟩⟩⟩
theorem lay_X8 : ∀ w ∈ u_ws RX8 TX8 15, w ∈ jAll := List.forall_mem_cons.mpr ⟨q_640, List.forall_mem_cons.mpr ⟨q_642, List.forall_mem_cons.mpr ⟨q_644, List.forall_mem_cons.mpr ⟨q_646, List.forall_mem_cons.mpr ⟨q_648, List.forall_mem_cons.mpr ⟨q_650, List.forall_mem_cons.mpr ⟨q_652, List.forall_mem_cons.mpr ⟨q_654, List.forall_mem_cons.mpr ⟨q_656, List.forall_mem_cons.mpr ⟨q_658, List.forall_mem_cons.mpr ⟨q_660, List.forall_mem_cons.mpr ⟨q_662, List.forall_mem_cons.mpr ⟨q_664, List.forall_mem_cons.mpr ⟨q_666, List.forall_mem_cons.mpr ⟨q_668, fun _ h => absurd h List.not_mem_nil⟩⟩⟩⟩⟩⟩⟩⟩⟩⟩⟩⟩⟩⟩⟩
theorem f_X4_9 : jFw RX4 9 4 0 true (.array .int) := ⟨(RX4, TX4, 5), rfl, by decide, lay_X4, q_30, rfl, rfl, by decide +kernel, ⟨tyX4, tyX4_ok⟩, nmX4⟩
theorem f_X0_143 : jFw RX0 143 4 0 true (.array .int) := ⟨(RX4, TX4, 5), rfl, by decide, lay_X4, q_31, rfl, rfl, by decide +kernel, ⟨tyX4, tyX4_ok⟩, nmX4⟩
theorem f_X7_178 : jFw RX7 178 4 0 true (.array .int) := ⟨(RX4, TX4, 5), rfl, by decide, lay_X4, q_32, rfl, rfl, by decide +kernel, ⟨tyX4, tyX4_ok⟩, nmX4⟩
theorem f_X4_15 : jFw RX4 15 4 1 true (.array .int) := ⟨(RX4, TX4, 5), rfl, by decide, lay_X4, q_33, rfl, rfl, by decide +kernel, ⟨tyX4, tyX4_ok⟩, nmX4⟩
theorem f_X7_93 : jFw RX7 93 4 1 true (.array .int) := ⟨(RX4, TX4, 5), rfl, by decide, lay_X4, q_34, rfl, rfl, by decide +kernel, ⟨tyX4, tyX4_ok⟩, nmX4⟩
theorem f_X4_18 : jFw RX4 18 4 2 true (.array .int) := ⟨(RX4, TX4, 5), rfl, by decide, lay_X4, q_35, rfl, rfl, by decide +kernel, ⟨tyX4, tyX4_ok⟩, nmX4⟩
theorem f_X7_181 : jFw RX7 181 4 2 true (.array .int) := ⟨(RX4, TX4, 5), rfl, by decide, lay_X4, q_36, rfl, rfl, by decide +kernel, ⟨tyX4, tyX4_ok⟩, nmX4⟩
theorem f_X4_21 : jFw RX4 21 4 3 true (.array .int) := ⟨(RX4, TX4, 5), rfl, by decide, lay_X4, q_37, rfl, rfl, by decide +kernel, ⟨tyX4, tyX4_ok⟩, nmX4⟩
theorem f_X7_191 : jFw RX7 191 4 3 true (.array .int) := ⟨(RX4, TX4, 5), rfl, by decide, lay_X4, q_38, rfl, rfl, by decide +kernel, ⟨tyX4, tyX4_ok⟩, nmX4⟩
theorem f_X4_24 : jFw RX4 24 4 4 false .int := ⟨(RX4, TX4, 5), rfl, by decide, lay_X4, q_39, rfl, rfl, by decide +kernel, ⟨tyX4, tyX4_ok⟩, nmX4⟩
theorem f_X7_79 : jFw RX7 79 4 4 false .int := ⟨(RX4, TX4, 5), rfl, by decide, lay_X4, q_40, rfl, rfl, by decide +kernel, ⟨tyX4, tyX4_ok⟩, nmX4⟩
theorem f_X1_9 : jFw RX1 9 1 0 true (.array .int) := ⟨(RX1, TX1, 3), rfl, by decide, lay_X1, q_59, rfl, rfl, by decide +kernel, ⟨tyX1, tyX1_ok⟩, nmX1⟩
theorem f_X7_194 : jFw RX7 194 1 0 true (.array .int) := ⟨(RX1, TX1, 3), rfl, by decide, lay_X1, q_60, rfl, rfl, by decide +kernel, ⟨tyX1, tyX1_ok⟩, nmX1⟩
theorem f_X1_15 : jFw RX1 15 1 1 true (.array .int) := ⟨(RX1, TX1, 3), rfl, by decide, lay_X1, q_61, rfl, rfl, by decide +kernel, ⟨tyX1, tyX1_ok⟩, nmX1⟩
theorem f_X7_197 : jFw RX7 197 1 1 true (.array .int) := ⟨(RX1, TX1, 3), rfl, by decide, lay_X1, q_62, rfl, rfl, by decide +kernel, ⟨tyX1, tyX1_ok⟩, nmX1⟩
theorem f_X1_18 : jFw RX1 18 1 2 true (.array .int) := ⟨(RX1, TX1, 3), rfl, by decide, lay_X1, q_63, rfl, rfl, by decide +kernel, ⟨tyX1, tyX1_ok⟩, nmX1⟩
theorem f_X7_200 : jFw RX7 200 1 2 true (.array .int) := ⟨(RX1, TX1, 3), rfl, by decide, lay_X1, q_64, rfl, rfl, by decide +kernel, ⟨tyX1, tyX1_ok⟩, nmX1⟩
theorem f_X3_9 : jFw RX3 9 3 0 true (.array .int) := ⟨(RX3, TX3, 8), rfl, by decide, lay_X3, q_78, rfl, rfl, by decide +kernel, ⟨tyX3, tyX3_ok⟩, nmX3⟩
theorem f_X0_107 : jFw RX0 107 3 0 true (.array .int) := ⟨(RX3, TX3, 8), rfl, by decide, lay_X3, q_79, rfl, rfl, by decide +kernel, ⟨tyX3, tyX3_ok⟩, nmX3⟩
theorem f_X7_212 : jFw RX7 212 3 0 true (.array .int) := ⟨(RX3, TX3, 8), rfl, by decide, lay_X3, q_80, rfl, rfl, by decide +kernel, ⟨tyX3, tyX3_ok⟩, nmX3⟩
theorem f_X3_15 : jFw RX3 15 3 1 true (.array .int) := ⟨(RX3, TX3, 8), rfl, by decide, lay_X3, q_81, rfl, rfl, by decide +kernel, ⟨tyX3, tyX3_ok⟩, nmX3⟩
theorem f_X0_72 : jFw RX0 72 3 1 true (.array .int) := ⟨(RX3, TX3, 8), rfl, by decide, lay_X3, q_82, rfl, rfl, by decide +kernel, ⟨tyX3, tyX3_ok⟩, nmX3⟩
theorem f_X7_215 : jFw RX7 215 3 1 true (.array .int) := ⟨(RX3, TX3, 8), rfl, by decide, lay_X3, q_83, rfl, rfl, by decide +kernel, ⟨tyX3, tyX3_ok⟩, nmX3⟩
theorem f_X3_18 : jFw RX3 18 3 2 true (.array .int) := ⟨(RX3, TX3, 8), rfl, by decide, lay_X3, q_84, rfl, rfl, by decide +kernel, ⟨tyX3, tyX3_ok⟩, nmX3⟩
theorem f_X0_79 : jFw RX0 79 3 2 true (.array .int) := ⟨(RX3, TX3, 8), rfl, by decide, lay_X3, q_85, rfl, rfl, by decide +kernel, ⟨tyX3, tyX3_ok⟩, nmX3⟩
theorem f_X7_218 : jFw RX7 218 3 2 true (.array .int) := ⟨(RX3, TX3, 8), rfl, by decide, lay_X3, q_86, rfl, rfl, by decide +kernel, ⟨tyX3, tyX3_ok⟩, nmX3⟩
theorem f_X3_21 : jFw RX3 21 3 3 true (.array .int) := ⟨(RX3, TX3, 8), rfl, by decide, lay_X3, q_87, rfl, rfl, by decide +kernel, ⟨tyX3, tyX3_ok⟩, nmX3⟩
theorem f_X0_57 : jFw RX0 57 3 3 true (.array .int) := ⟨(RX3, TX3, 8), rfl, by decide, lay_X3, q_88, rfl, rfl, by decide +kernel, ⟨tyX3, tyX3_ok⟩, nmX3⟩
theorem f_X7_221 : jFw RX7 221 3 3 true (.array .int) := ⟨(RX3, TX3, 8), rfl, by decide, lay_X3, q_89, rfl, rfl, by decide +kernel, ⟨tyX3, tyX3_ok⟩, nmX3⟩
theorem f_X3_24 : jFw RX3 24 3 4 true (.array .int) := ⟨(RX3, TX3, 8), rfl, by decide, lay_X3, q_90, rfl, rfl, by decide +kernel, ⟨tyX3, tyX3_ok⟩, nmX3⟩
theorem f_X0_89 : jFw RX0 89 3 4 true (.array .int) := ⟨(RX3, TX3, 8), rfl, by decide, lay_X3, q_91, rfl, rfl, by decide +kernel, ⟨tyX3, tyX3_ok⟩, nmX3⟩
theorem f_X7_224 : jFw RX7 224 3 4 true (.array .int) := ⟨(RX3, TX3, 8), rfl, by decide, lay_X3, q_92, rfl, rfl, by decide +kernel, ⟨tyX3, tyX3_ok⟩, nmX3⟩
theorem f_X3_27 : jFw RX3 27 3 5 true (.array .int) := ⟨(RX3, TX3, 8), rfl, by decide, lay_X3, q_93, rfl, rfl, by decide +kernel, ⟨tyX3, tyX3_ok⟩, nmX3⟩
theorem f_X0_92 : jFw RX0 92 3 5 true (.array .int) := ⟨(RX3, TX3, 8), rfl, by decide, lay_X3, q_94, rfl, rfl, by decide +kernel, ⟨tyX3, tyX3_ok⟩, nmX3⟩
theorem f_X7_227 : jFw RX7 227 3 5 true (.array .int) := ⟨(RX3, TX3, 8), rfl, by decide, lay_X3, q_95, rfl, rfl, by decide +kernel, ⟨tyX3, tyX3_ok⟩, nmX3⟩
theorem f_X3_30 : jFw RX3 30 3 6 true (.array .int) := ⟨(RX3, TX3, 8), rfl, by decide, lay_X3, q_96, rfl, rfl, by decide +kernel, ⟨tyX3, tyX3_ok⟩, nmX3⟩
theorem f_X0_104 : jFw RX0 104 3 6 true (.array .int) := ⟨(RX3, TX3, 8), rfl, by decide, lay_X3, q_97, rfl, rfl, by decide +kernel, ⟨tyX3, tyX3_ok⟩, nmX3⟩
theorem f_X7_230 : jFw RX7 230 3 6 true (.array .int) := ⟨(RX3, TX3, 8), rfl, by decide, lay_X3, q_98, rfl, rfl, by decide +kernel, ⟨tyX3, tyX3_ok⟩, nmX3⟩
theorem f_X3_33 : jFw RX3 33 3 7 false .int := ⟨(RX3, TX3, 8), rfl, by decide, lay_X3, q_99, rfl, rfl, by decide +kernel, ⟨tyX3, tyX3_ok⟩, nmX3⟩
theorem f_X7_111 : jFw RX7 111 3 7 false .int := ⟨(RX3, TX3, 8), rfl, by decide, lay_X3, q_100, rfl, rfl, by decide +kernel, ⟨tyX3, tyX3_ok⟩, nmX3⟩
theorem f_X0_12 : jFw RX0 12 0 0 true (.object "GuildFund$Members") := ⟨(RX0, TX0, 11), rfl, by decide, lay_X0, q_121, rfl, rfl, by decide +kernel, ⟨tyX0, tyX0_ok⟩, nmX0⟩
theorem f_X7_75 : jFw RX7 75 0 0 true (.object "GuildFund$Members") := ⟨(RX0, TX0, 11), rfl, by decide, lay_X0, q_122, rfl, rfl, by decide +kernel, ⟨tyX0, tyX0_ok⟩, nmX0⟩
theorem f_X0_21 : jFw RX0 21 0 1 true (.object "GuildFund$Clients") := ⟨(RX0, TX0, 11), rfl, by decide, lay_X0, q_123, rfl, rfl, by decide +kernel, ⟨tyX0, tyX0_ok⟩, nmX0⟩
theorem f_X7_100 : jFw RX7 100 0 1 true (.object "GuildFund$Clients") := ⟨(RX0, TX0, 11), rfl, by decide, lay_X0, q_124, rfl, rfl, by decide +kernel, ⟨tyX0, tyX0_ok⟩, nmX0⟩
theorem f_X0_28 : jFw RX0 28 0 2 true (.object "GuildFund$Invoices") := ⟨(RX0, TX0, 11), rfl, by decide, lay_X0, q_125, rfl, rfl, by decide +kernel, ⟨tyX0, tyX0_ok⟩, nmX0⟩
theorem f_X7_107 : jFw RX7 107 0 2 true (.object "GuildFund$Invoices") := ⟨(RX0, TX0, 11), rfl, by decide, lay_X0, q_126, rfl, rfl, by decide +kernel, ⟨tyX0, tyX0_ok⟩, nmX0⟩
theorem f_X0_32 : jFw RX0 32 0 3 true (.array .float) := ⟨(RX0, TX0, 11), rfl, by decide, lay_X0, q_127, rfl, rfl, by decide +kernel, ⟨tyX0, tyX0_ok⟩, nmX0⟩
theorem f_X7_58 : jFw RX7 58 0 3 true (.array .float) := ⟨(RX0, TX0, 11), rfl, by decide, lay_X0, q_128, rfl, rfl, by decide +kernel, ⟨tyX0, tyX0_ok⟩, nmX0⟩
theorem f_X0_36 : jFw RX0 36 0 4 true (.array .int) := ⟨(RX0, TX0, 11), rfl, by decide, lay_X0, q_129, rfl, rfl, by decide +kernel, ⟨tyX0, tyX0_ok⟩, nmX0⟩
theorem f_X7_72 : jFw RX7 72 0 4 true (.array .int) := ⟨(RX0, TX0, 11), rfl, by decide, lay_X0, q_130, rfl, rfl, by decide +kernel, ⟨tyX0, tyX0_ok⟩, nmX0⟩
theorem f_X0_53 : jFw RX0 53 0 5 false .int := ⟨(RX0, TX0, 11), rfl, by decide, lay_X0, q_131, rfl, rfl, by decide +kernel, ⟨tyX0, tyX0_ok⟩, nmX0⟩
theorem f_X7_156 : jFw RX7 156 0 5 false .int := ⟨(RX0, TX0, 11), rfl, by decide, lay_X0, q_132, rfl, rfl, by decide +kernel, ⟨tyX0, tyX0_ok⟩, nmX0⟩
theorem f_X7_97 : jFw RX7 97 0 6 false .int := ⟨(RX0, TX0, 11), rfl, by decide, lay_X0, q_133, rfl, rfl, by decide +kernel, ⟨tyX0, tyX0_ok⟩, nmX0⟩
theorem f_X0_95 : jFw RX0 95 0 6 false .int := ⟨(RX0, TX0, 11), rfl, by decide, lay_X0, q_134, rfl, rfl, by decide +kernel, ⟨tyX0, tyX0_ok⟩, nmX0⟩
theorem f_X0_114 : jFw RX0 114 0 7 false .int := ⟨(RX0, TX0, 11), rfl, by decide, lay_X0, q_135, rfl, rfl, by decide +kernel, ⟨tyX0, tyX0_ok⟩, nmX0⟩
theorem f_X7_266 : jFw RX7 266 0 7 false .int := ⟨(RX0, TX0, 11), rfl, by decide, lay_X0, q_136, rfl, rfl, by decide +kernel, ⟨tyX0, tyX0_ok⟩, nmX0⟩
theorem f_X0_117 : jFw RX0 117 0 8 false .int := ⟨(RX0, TX0, 11), rfl, by decide, lay_X0, q_137, rfl, rfl, by decide +kernel, ⟨tyX0, tyX0_ok⟩, nmX0⟩
theorem f_X7_269 : jFw RX7 269 0 8 false .int := ⟨(RX0, TX0, 11), rfl, by decide, lay_X0, q_138, rfl, rfl, by decide +kernel, ⟨tyX0, tyX0_ok⟩, nmX0⟩
theorem f_X0_130 : jFw RX0 130 0 9 false .int := ⟨(RX0, TX0, 11), rfl, by decide, lay_X0, q_139, rfl, rfl, by decide +kernel, ⟨tyX0, tyX0_ok⟩, nmX0⟩
theorem f_X7_272 : jFw RX7 272 0 9 false .int := ⟨(RX0, TX0, 11), rfl, by decide, lay_X0, q_140, rfl, rfl, by decide +kernel, ⟨tyX0, tyX0_ok⟩, nmX0⟩
theorem f_X0_149 : jFw RX0 149 0 10 false .int := ⟨(RX0, TX0, 11), rfl, by decide, lay_X0, q_141, rfl, rfl, by decide +kernel, ⟨tyX0, tyX0_ok⟩, nmX0⟩
theorem f_X7_275 : jFw RX7 275 0 10 false .int := ⟨(RX0, TX0, 11), rfl, by decide, lay_X0, q_142, rfl, rfl, by decide +kernel, ⟨tyX0, tyX0_ok⟩, nmX0⟩
theorem f_X2_11 : jFw RX2 11 2 0 true (.array (.object "GuildFund$Book")) := ⟨(RX2, TX2, 3), rfl, by decide, lay_X2, q_176, rfl, rfl, by decide +kernel, ⟨tyX2, tyX2_ok⟩, nmX2⟩
theorem f_X2_18 : jFw RX2 18 2 1 false .int := ⟨(RX2, TX2, 3), rfl, by decide, lay_X2, q_177, rfl, rfl, by decide +kernel, ⟨tyX2, tyX2_ok⟩, nmX2⟩
theorem f_X2_30 : jFw RX2 30 2 2 false .int := ⟨(RX2, TX2, 3), rfl, by decide, lay_X2, q_178, rfl, rfl, by decide +kernel, ⟨tyX2, tyX2_ok⟩, nmX2⟩
theorem f_X7_166 : jFw RX7 166 2 2 false .int := ⟨(RX2, TX2, 3), rfl, by decide, lay_X2, q_179, rfl, rfl, by decide +kernel, ⟨tyX2, tyX2_ok⟩, nmX2⟩
theorem f_X6_9 : jFw RX6 9 6 0 true (.array .char) := ⟨(RX6, TX6, 5), rfl, by decide, lay_X6, q_193, rfl, rfl, by decide +kernel, ⟨tyX6, tyX6_ok⟩, nmX6⟩
theorem f_X6_15 : jFw RX6 15 6 1 true (.array .int) := ⟨(RX6, TX6, 5), rfl, by decide, lay_X6, q_194, rfl, rfl, by decide +kernel, ⟨tyX6, tyX6_ok⟩, nmX6⟩
theorem f_X6_19 : jFw RX6 19 6 2 true (.array .int) := ⟨(RX6, TX6, 5), rfl, by decide, lay_X6, q_195, rfl, rfl, by decide +kernel, ⟨tyX6, tyX6_ok⟩, nmX6⟩
theorem f_X6_22 : jFw RX6 22 6 3 false .int := ⟨(RX6, TX6, 5), rfl, by decide, lay_X6, q_196, rfl, rfl, by decide +kernel, ⟨tyX6, tyX6_ok⟩, nmX6⟩
theorem f_X7_163 : jFw RX7 163 6 3 false .int := ⟨(RX6, TX6, 5), rfl, by decide, lay_X6, q_197, rfl, rfl, by decide +kernel, ⟨tyX6, tyX6_ok⟩, nmX6⟩
theorem f_X6_26 : jFw RX6 26 6 4 false .int := ⟨(RX6, TX6, 5), rfl, by decide, lay_X6, q_198, rfl, rfl, by decide +kernel, ⟨tyX6, tyX6_ok⟩, nmX6⟩
theorem f_X7_144 : jFw RX7 144 6 4 false .int := ⟨(RX6, TX6, 5), rfl, by decide, lay_X6, q_199, rfl, rfl, by decide +kernel, ⟨tyX6, tyX6_ok⟩, nmX6⟩
theorem f_X5_9 : jFw RX5 9 5 0 true (.array .int) := ⟨(RX5, TX5, 3), rfl, by decide, lay_X5, q_218, rfl, rfl, by decide +kernel, ⟨tyX5, tyX5_ok⟩, nmX5⟩
theorem f_X5_15 : jFw RX5 15 5 1 true (.array .float) := ⟨(RX5, TX5, 3), rfl, by decide, lay_X5, q_219, rfl, rfl, by decide +kernel, ⟨tyX5, tyX5_ok⟩, nmX5⟩
theorem f_X5_19 : jFw RX5 19 5 2 false .int := ⟨(RX5, TX5, 3), rfl, by decide, lay_X5, q_220, rfl, rfl, by decide +kernel, ⟨tyX5, tyX5_ok⟩, nmX5⟩
theorem f_X7_246 : jFw RX7 246 5 2 false .int := ⟨(RX5, TX5, 3), rfl, by decide, lay_X5, q_221, rfl, rfl, by decide +kernel, ⟨tyX5, tyX5_ok⟩, nmX5⟩
theorem f_X7_10 : jFw RX7 10 7 0 true (.object "GuildFund$Book") := ⟨(RX7, TX7, 9), rfl, by decide, lay_X7, q_229, rfl, rfl, by decide +kernel, ⟨tyX7, tyX7_ok⟩, nmX7⟩
theorem f_X7_16 : jFw RX7 16 7 1 true (.object "GuildFund$Book") := ⟨(RX7, TX7, 9), rfl, by decide, lay_X7, q_230, rfl, rfl, by decide +kernel, ⟨tyX7, tyX7_ok⟩, nmX7⟩
theorem f_X7_19 : jFw RX7 19 7 2 true (.object "GuildFund$Book") := ⟨(RX7, TX7, 9), rfl, by decide, lay_X7, q_231, rfl, rfl, by decide +kernel, ⟨tyX7, tyX7_ok⟩, nmX7⟩
theorem f_X7_25 : jFw RX7 25 7 3 true (.object "GuildFund$History") := ⟨(RX7, TX7, 9), rfl, by decide, lay_X7, q_232, rfl, rfl, by decide +kernel, ⟨tyX7, tyX7_ok⟩, nmX7⟩
theorem f_X7_32 : jFw RX7 32 7 4 true (.object "GuildFund$Text") := ⟨(RX7, TX7, 9), rfl, by decide, lay_X7, q_233, rfl, rfl, by decide +kernel, ⟨tyX7, tyX7_ok⟩, nmX7⟩
theorem f_X7_39 : jFw RX7 39 7 5 true (.object "GuildFund$Ranking") := ⟨(RX7, TX7, 9), rfl, by decide, lay_X7, q_234, rfl, rfl, by decide +kernel, ⟨tyX7, tyX7_ok⟩, nmX7⟩
theorem f_X7_170 : jFw RX7 170 7 6 false .boolean := ⟨(RX7, TX7, 9), rfl, by decide, lay_X7, q_235, rfl, rfl, by decide +kernel, ⟨tyX7, tyX7_ok⟩, nmX7⟩
theorem f_X7_153 : jFw RX7 153 7 7 false .int := ⟨(RX7, TX7, 9), rfl, by decide, lay_X7, q_236, rfl, rfl, by decide +kernel, ⟨tyX7, tyX7_ok⟩, nmX7⟩
theorem f_X7_43 : jFw RX7 43 7 8 false .int := ⟨(RX7, TX7, 9), rfl, by decide, lay_X7, q_237, rfl, rfl, by decide +kernel, ⟨tyX7, tyX7_ok⟩, nmX7⟩
theorem f_X8_7 : jFw RX8 7 8 0 true (.array .int) := ⟨(RX8, TX8, 15), rfl, by decide, lay_X8, q_625, rfl, rfl, by decide +kernel, ⟨tyX8, tyX8_ok⟩, nmX8⟩
theorem f_X8_13 : jFw RX8 13 8 1 true (.array .int) := ⟨(RX8, TX8, 15), rfl, by decide, lay_X8, q_626, rfl, rfl, by decide +kernel, ⟨tyX8, tyX8_ok⟩, nmX8⟩
theorem f_X8_16 : jFw RX8 16 8 2 true (.array .int) := ⟨(RX8, TX8, 15), rfl, by decide, lay_X8, q_627, rfl, rfl, by decide +kernel, ⟨tyX8, tyX8_ok⟩, nmX8⟩
theorem f_X8_42 : jFw RX8 42 8 3 false .int := ⟨(RX8, TX8, 15), rfl, by decide, lay_X8, q_628, rfl, rfl, by decide +kernel, ⟨tyX8, tyX8_ok⟩, nmX8⟩
theorem f_X8_19 : jFw RX8 19 8 4 true (.array .int) := ⟨(RX8, TX8, 15), rfl, by decide, lay_X8, q_629, rfl, rfl, by decide +kernel, ⟨tyX8, tyX8_ok⟩, nmX8⟩
theorem f_X8_154 : jFw RX8 154 8 5 false .boolean := ⟨(RX8, TX8, 15), rfl, by decide, lay_X8, q_630, rfl, rfl, by decide +kernel, ⟨tyX8, tyX8_ok⟩, nmX8⟩
theorem f_X8_22 : jFw RX8 22 8 6 true (.array .int) := ⟨(RX8, TX8, 15), rfl, by decide, lay_X8, q_631, rfl, rfl, by decide +kernel, ⟨tyX8, tyX8_ok⟩, nmX8⟩
theorem f_X8_127 : jFw RX8 127 8 7 false .int := ⟨(RX8, TX8, 15), rfl, by decide, lay_X8, q_632, rfl, rfl, by decide +kernel, ⟨tyX8, tyX8_ok⟩, nmX8⟩
theorem f_X8_25 : jFw RX8 25 8 8 false .int := ⟨(RX8, TX8, 15), rfl, by decide, lay_X8, q_633, rfl, rfl, by decide +kernel, ⟨tyX8, tyX8_ok⟩, nmX8⟩
theorem f_X8_29 : jFw RX8 29 8 9 false .int := ⟨(RX8, TX8, 15), rfl, by decide, lay_X8, q_634, rfl, rfl, by decide +kernel, ⟨tyX8, tyX8_ok⟩, nmX8⟩
theorem f_X8_32 : jFw RX8 32 8 10 true (.array .int) := ⟨(RX8, TX8, 15), rfl, by decide, lay_X8, q_635, rfl, rfl, by decide +kernel, ⟨tyX8, tyX8_ok⟩, nmX8⟩
theorem f_X8_124 : jFw RX8 124 8 11 false .int := ⟨(RX8, TX8, 15), rfl, by decide, lay_X8, q_636, rfl, rfl, by decide +kernel, ⟨tyX8, tyX8_ok⟩, nmX8⟩
theorem f_X8_130 : jFw RX8 130 8 12 false .boolean := ⟨(RX8, TX8, 15), rfl, by decide, lay_X8, q_637, rfl, rfl, by decide +kernel, ⟨tyX8, tyX8_ok⟩, nmX8⟩
theorem f_X8_140 : jFw RX8 140 8 13 false .int := ⟨(RX8, TX8, 15), rfl, by decide, lay_X8, q_638, rfl, rfl, by decide +kernel, ⟨tyX8, tyX8_ok⟩, nmX8⟩
theorem f_X8_137 : jFw RX8 137 8 14 false .int := ⟨(RX8, TX8, 15), rfl, by decide, lay_X8, q_639, rfl, rfl, by decide +kernel, ⟨tyX8, tyX8_ok⟩, nmX8⟩
theorem jgV {own : String} {idx : Nat} {y : MethodName} {cb : ByteArray} {maxL : Nat} {ret : Option FieldType} (h1 : Cond.methodLink own idx y ∈ jAll) (h2 : Cond.instanceMethod y ∈ jAll) (h3 : Cond.selects y.cls y y ∈ jAll) (h4 : Cond.initialized y.cls ∈ jAll) (h5 : Cond.code y cb maxL ret ∈ jAll) : GoodIn jAll (wsV own idx y.cls y (jw y cb maxL ret)) := jgood (by
  intro w hw
  unfold wsV jw at hw
  simp only [List.cons_append, List.nil_append, List.mem_cons] at hw
  rcases hw with rfl | rfl | rfl | rfl | rfl | hw
  · exact h1
  · exact h2
  · exact h3
  · exact h4
  · exact h5
  · exact hw)
theorem jgS {own : String} {idx : Nat} {y : MethodName} {cb : ByteArray} {maxL : Nat} {ret : Option FieldType} (h1 : Cond.methodLink own idx y ∈ jAll) (h2 : Cond.static y ∈ jAll) (h4 : Cond.initialized own ∈ jAll) (h5 : Cond.code y cb maxL ret ∈ jAll) : GoodIn jAll (wsS own idx y (jw y cb maxL ret)) := jgood (by
  intro w hw
  unfold wsS jw at hw
  simp only [List.cons_append, List.nil_append, List.mem_cons] at hw
  rcases hw with rfl | rfl | rfl | rfl | hw
  · exact h1
  · exact h2
  · exact h4
  · exact h5
  · exact hw)
theorem jgI {y : MethodName} {cb : ByteArray} {maxL : Nat} {ret : Option FieldType} (h5 : Cond.code y cb maxL ret ∈ jAll) : GoodIn jAll (jw y cb maxL ret) := jgood (List.forall_mem_cons.mpr ⟨h5, fun _ h => h⟩)
theorem g_L_9 : jGI RL 9 yX7_init cX7_init 1 0 := ⟨rfl, jgI q_14, q_1, q_12, q_13, by decide, by decide, by decide +kernel⟩
theorem g_X7_9 : jGI RX7 9 yX0_init cX0_init 1 0 := ⟨rfl, jgI q_22, q_2, q_20, q_21, by decide, by decide, by decide +kernel⟩
theorem g_X7_24 : jGI RX7 24 yX2_init cX2_init 2 0 := ⟨rfl, jgI q_171, q_6, q_169, q_170, by decide, by decide, by decide +kernel⟩
theorem g_X2_17 : jGI RX2 17 yX0_init cX0_init 1 0 := ⟨rfl, jgI q_22, q_2, q_175, q_21, by decide, by decide, by decide +kernel⟩
theorem g_L_13 : jGV RL 13 yX7_setRate cX7_setRate 4 (some .int) 2 := ⟨jgV q_257 q_258 q_259 q_1 q_260, by decide, by decide, by decide +kernel⟩
theorem g_X7_54 : jGS RX7 54 yX7_floatOf cX7_floatOf 6 (Option.some FieldType.float) 1 := ⟨rfl, jgS q_265 q_266 q_1 q_267, by decide, by decide, by decide +kernel⟩
theorem g_X7_62 : jGV RX7 62 yX2_push cX2_push 2 (none : Option FieldType) 1 := ⟨jgV q_271 q_272 q_273 q_6 q_274, by decide, by decide, by decide +kernel⟩
theorem g_X2_22 : jGV RX2 22 yX2_stateAt cX2_stateAt 2 (Option.some (FieldType.object RX0)) 1 := ⟨jgV q_275 q_277 q_p0 q_6 q_278, by decide, by decide, by decide +kernel⟩
theorem g_X2_26 : jGS RX2 26 yX2_copy cX2_copy 2 (none : Option FieldType) 2 := ⟨rfl, jgS q_279 q_280 q_6 q_281, by decide, by decide, by decide +kernel⟩
theorem g_X2_33 : jGV RX2 33 yX0_copyFrom cX0_copyFrom 3 (none : Option FieldType) 1 := ⟨jgV q_282 q_283 q_284 q_2 q_285, by decide, by decide, by decide +kernel⟩
theorem g_X0_152 : jGV RX0 152 yX4_copyFrom cX4_copyFrom 2 (none : Option FieldType) 1 := ⟨jgV q_286 q_287 q_288 q_3 q_289, by decide, by decide, by decide +kernel⟩
theorem g_X0_156 : jGV RX0 156 yX1_copyFrom cX1_copyFrom 2 (none : Option FieldType) 1 := ⟨jgV q_293 q_294 q_295 q_4 q_296, by decide, by decide, by decide +kernel⟩
theorem g_X0_159 : jGV RX0 159 yX3_copyFrom cX3_copyFrom 2 (none : Option FieldType) 1 := ⟨jgV q_298 q_299 q_300 q_5 q_301, by decide, by decide, by decide +kernel⟩
theorem g_L_18 : jGV RL 18 yX7_setNumber cX7_setNumber 4 (some .int) 2 := ⟨jgV q_304 q_305 q_306 q_1 q_307, by decide, by decide, by decide +kernel⟩
theorem g_L_22 : jGV RL 22 yX7_addMember cX7_addMember 2 (some .int) 1 := ⟨jgV q_312 q_313 q_314 q_1 q_315, by decide, by decide, by decide +kernel⟩
theorem g_X7_84 : jGV RX7 84 yX4_append cX4_append 2 (some .int) 1 := ⟨jgV q_316 q_317 q_318 q_3 q_319, by decide, by decide, by decide +kernel⟩
theorem g_L_27 : jGV RL 27 yX7_payDues cX7_payDues 4 (some .int) 2 := ⟨jgV q_320 q_321 q_322 q_1 q_323, by decide, by decide, by decide +kernel⟩
theorem g_X7_88 : jGV RX7 88 yX4_has cX4_has 2 (Option.some FieldType.boolean) 1 := ⟨jgV q_324 q_325 q_326 q_3 q_327, by decide, by decide, by decide +kernel⟩
theorem g_L_31 : jGV RL 31 yX7_addInvoice cX7_addInvoice 5 (some .int) 4 := ⟨jgV q_330 q_331 q_332 q_1 q_333, by decide, by decide, by decide +kernel⟩
theorem g_X7_104 : jGV RX7 104 yX1_has cX1_has 2 (Option.some FieldType.boolean) 1 := ⟨jgV q_334 q_335 q_336 q_4 q_337, by decide, by decide, by decide +kernel⟩
theorem g_X7_114 : jGV RX7 114 yX3_append cX3_append 5 (some .int) 4 := ⟨jgV q_338 q_339 q_340 q_5 q_341, by decide, by decide, by decide +kernel⟩
theorem g_L_36 : jGV RL 36 yX7_payAhead cX7_payAhead 2 (some .int) 1 := ⟨jgV q_342 q_343 q_344 q_1 q_345, by decide, by decide, by decide +kernel⟩
theorem g_X7_117 : jGV RX7 117 yX3_has cX3_has 2 (Option.some FieldType.boolean) 1 := ⟨jgV q_346 q_347 q_348 q_5 q_349, by decide, by decide, by decide +kernel⟩
theorem g_X7_118 : jGV RX7 118 yX0_canPayAhead cX0_canPayAhead 3 (Option.some FieldType.boolean) 1 := ⟨jgV q_350 q_351 q_352 q_2 q_353, by decide, by decide, by decide +kernel⟩
theorem g_X0_49 : jGV RX0 49 yX3_has cX3_has 2 (Option.some FieldType.boolean) 1 := ⟨jgV q_354 q_347 q_348 q_5 q_349, by decide, by decide, by decide +kernel⟩
theorem g_X0_60 : jGV RX0 60 yX0_ageOf cX0_ageOf 2 (some .int) 1 := ⟨jgV q_355 q_356 q_357 q_2 q_358, by decide, by decide, by decide +kernel⟩
theorem g_X0_86 : jGV RX0 86 yX0_offerAfter cX0_offerAfter 3 (some .int) 2 := ⟨jgV q_359 q_360 q_361 q_2 q_362, by decide, by decide, by decide +kernel⟩
theorem g_X0_82 : jGV RX0 82 yX0_rateAfter cX0_rateAfter 5 (Option.some FieldType.float) 2 := ⟨jgV q_363 q_364 q_365 q_2 q_366, by decide, by decide, by decide +kernel⟩
theorem g_X0_68 : jGV RX0 68 yX0_lateAfter cX0_lateAfter 4 (some .int) 2 := ⟨jgV q_371 q_372 q_373 q_2 q_374, by decide, by decide, by decide +kernel⟩
theorem g_X0_75 : jGV RX0 75 yX1_riskOf cX1_riskOf 2 (Option.some FieldType.float) 1 := ⟨jgV q_375 q_376 q_377 q_4 q_378, by decide, by decide, by decide +kernel⟩
theorem g_X1_21 : jGV RX1 21 yX1_has cX1_has 2 (Option.some FieldType.boolean) 1 := ⟨jgV q_379 q_335 q_336 q_4 q_337, by decide, by decide, by decide +kernel⟩
theorem g_X0_98 : jGV RX0 98 yX0_reserveCents cX0_reserveCents 1 (some .int) 0 := ⟨jgV q_381 q_382 q_383 q_2 q_384, by decide, by decide, by decide +kernel⟩
theorem g_X0_43 : jGV RX0 43 yX4_allDues cX4_allDues 3 (some .int) 0 := ⟨jgV q_385 q_386 q_387 q_3 q_388, by decide, by decide, by decide +kernel⟩
theorem g_X4_28 : jGV RX4 28 yX4_has cX4_has 2 (Option.some FieldType.boolean) 1 := ⟨jgV q_389 q_325 q_326 q_3 q_327, by decide, by decide, by decide +kernel⟩
theorem g_X7_121 : jGV RX7 121 yX0_advance cX0_advance 3 (some .int) 1 := ⟨jgV q_391 q_392 q_393 q_2 q_394, by decide, by decide, by decide +kernel⟩
theorem g_X0_110 : jGV RX0 110 yX4_intoPurse cX4_intoPurse 3 (none : Option FieldType) 2 := ⟨jgV q_395 q_396 q_397 q_3 q_398, by decide, by decide, by decide +kernel⟩
theorem g_L_40 : jGV RL 40 yX7_pay cX7_pay 4 (some .int) 2 := ⟨jgV q_399 q_400 q_401 q_1 q_402, by decide, by decide, by decide +kernel⟩
theorem g_X7_124 : jGV RX7 124 yX0_errorOfPayment cX0_errorOfPayment 4 (some .int) 2 := ⟨jgV q_403 q_404 q_405 q_2 q_406, by decide, by decide, by decide +kernel⟩
theorem g_X0_101 : jGV RX0 101 yX3_isUnsettled cX3_isUnsettled 2 (Option.some FieldType.boolean) 1 := ⟨jgV q_407 q_408 q_409 q_5 q_410, by decide, by decide, by decide +kernel⟩
theorem g_X3_37 : jGV RX3 37 yX3_has cX3_has 2 (Option.some FieldType.boolean) 1 := ⟨jgV q_411 q_347 q_348 q_5 q_349, by decide, by decide, by decide +kernel⟩
theorem g_X7_128 : jGV RX7 128 yX0_collect cX0_collect 4 (some .int) 2 := ⟨jgV q_412 q_413 q_414 q_2 q_415, by decide, by decide, by decide +kernel⟩
theorem g_X0_120 : jGV RX0 120 yX0_settle cX0_settle 2 (none : Option FieldType) 1 := ⟨jgV q_416 q_417 q_418 q_2 q_419, by decide, by decide, by decide +kernel⟩
theorem g_X0_124 : jGV RX0 124 yX0_passOn cX0_passOn 4 (none : Option FieldType) 1 := ⟨jgV q_420 q_421 q_422 q_2 q_423, by decide, by decide, by decide +kernel⟩
theorem g_X0_127 : jGV RX0 127 yX1_addSettled cX1_addSettled 3 (none : Option FieldType) 2 := ⟨jgV q_424 q_425 q_426 q_4 q_427, by decide, by decide, by decide +kernel⟩
theorem g_L_44 : jGV RL 44 yX7_giveUp cX7_giveUp 2 (some .int) 1 := ⟨jgV q_428 q_429 q_430 q_1 q_431, by decide, by decide, by decide +kernel⟩
theorem g_X7_131 : jGV RX7 131 yX0_canGiveUp cX0_canGiveUp 2 (Option.some FieldType.boolean) 1 := ⟨jgV q_432 q_433 q_434 q_2 q_435, by decide, by decide, by decide +kernel⟩
theorem g_X7_134 : jGV RX7 134 yX0_lose cX0_lose 4 (some .int) 1 := ⟨jgV q_436 q_437 q_438 q_2 q_439, by decide, by decide, by decide +kernel⟩
theorem g_X0_133 : jGV RX0 133 yX1_addLost cX1_addLost 2 (none : Option FieldType) 1 := ⟨jgV q_440 q_441 q_442 q_4 q_443, by decide, by decide, by decide +kernel⟩
theorem g_X0_136 : jGV RX0 136 yX0_share cX0_share 8 (none : Option FieldType) 1 := ⟨jgV q_444 q_445 q_446 q_2 q_447, by decide, by decide, by decide +kernel⟩
theorem g_X0_139 : jGV RX0 139 yX4_allWeights cX4_allWeights 3 (some .int) 0 := ⟨jgV q_448 q_449 q_450 q_3 q_451, by decide, by decide, by decide +kernel⟩
theorem g_X0_142 : jGV RX0 142 yX4_has cX4_has 2 (Option.some FieldType.boolean) 1 := ⟨jgV q_452 q_325 q_326 q_3 q_327, by decide, by decide, by decide +kernel⟩
theorem g_X0_146 : jGV RX0 146 yX4_bear cX4_bear 3 (none : Option FieldType) 2 := ⟨jgV q_453 q_454 q_455 q_3 q_456, by decide, by decide, by decide +kernel⟩
theorem g_L_48 : jGV RL 48 yX7_readPayments cX7_readPayments 7 (some .int) 0 := ⟨jgV q_457 q_458 q_459 q_1 q_460, by decide, by decide, by decide +kernel⟩
theorem g_X7_137 : jGV RX7 137 yX6_read cX6_read 3 (some .int) 0 := ⟨jgV q_461 q_462 q_463 q_7 q_464, by decide, by decide, by decide +kernel⟩
theorem g_X6_29 : jGS RX6 29 yX6_placeBehind cX6_placeBehind 3 (some .int) 2 := ⟨rfl, jgS q_465 q_466 q_7 q_467, by decide, by decide, by decide +kernel⟩
theorem g_X6_33 : jGV RX6 33 yX6_readNumbers cX6_readNumbers 5 (none : Option FieldType) 0 := ⟨jgV q_468 q_470 q_p1 q_7 q_471, by decide, by decide, by decide +kernel⟩
theorem g_X7_141 : jGV RX7 141 yX0_copyFrom cX0_copyFrom 3 (none : Option FieldType) 1 := ⟨jgV q_472 q_283 q_284 q_2 q_285, by decide, by decide, by decide +kernel⟩
theorem g_X7_147 : jGV RX7 147 yX6_invoiceOf cX6_invoiceOf 2 (some .int) 1 := ⟨jgV q_473 q_474 q_475 q_7 q_476, by decide, by decide, by decide +kernel⟩
theorem g_X7_150 : jGV RX7 150 yX6_centsOf cX6_centsOf 2 (some .int) 1 := ⟨jgV q_477 q_478 q_479 q_7 q_480, by decide, by decide, by decide +kernel⟩
theorem g_L_53 : jGV RL 53 yX7_refusal cX7_refusal 2 (some .int) 1 := ⟨jgV q_481 q_482 q_483 q_1 q_484, by decide, by decide, by decide +kernel⟩
theorem g_L_57 : jGV RL 57 yX7_pass cX7_pass 2 (some .int) 1 := ⟨jgV q_485 q_486 q_487 q_1 q_488, by decide, by decide, by decide +kernel⟩
theorem g_L_61 : jGV RL 61 yX7_type cX7_type 2 (some .int) 1 := ⟨jgV q_490 q_491 q_492 q_1 q_493, by decide, by decide, by decide +kernel⟩
theorem g_X7_160 : jGV RX7 160 yX6_append cX6_append 2 (some .int) 1 := ⟨jgV q_494 q_495 q_496 q_7 q_497, by decide, by decide, by decide +kernel⟩
theorem g_L_66 : jGV RL 66 yX7_clearText cX7_clearText 2 (some .int) 0 := ⟨jgV q_498 q_499 q_500 q_1 q_501, by decide, by decide, by decide +kernel⟩
theorem g_L_70 : jGV RL 70 yX7_undo cX7_undo 1 (some .int) 0 := ⟨jgV q_502 q_503 q_504 q_1 q_505, by decide, by decide, by decide +kernel⟩
theorem g_X7_167 : jGV RX7 167 yX2_popInto cX2_popInto 2 (none : Option FieldType) 1 := ⟨jgV q_506 q_507 q_508 q_6 q_509, by decide, by decide, by decide +kernel⟩
theorem g_L_74 : jGV RL 74 yX7_keep cX7_keep 1 (some .int) 0 := ⟨jgV q_510 q_511 q_512 q_1 q_513, by decide, by decide, by decide +kernel⟩
theorem g_L_78 : jGV RL 78 yX7_restore cX7_restore 1 (some .int) 0 := ⟨jgV q_514 q_515 q_516 q_1 q_517, by decide, by decide, by decide +kernel⟩
theorem g_L_82 : jGV RL 82 yX7_rate cX7_rate 2 (Option.some FieldType.float) 1 := ⟨jgV q_518 q_519 q_520 q_1 q_521, by decide, by decide, by decide +kernel⟩
theorem g_X7_174 : jGS RX7 174 yX7_noNumber cX7_noNumber 0 (Option.some FieldType.float) 0 := ⟨rfl, jgS q_522 q_368 q_1 q_369, by decide, by decide, by decide +kernel⟩
theorem g_L_87 : jGV RL 87 yX7_number cX7_number 2 (some .int) 1 := ⟨jgV q_523 q_524 q_525 q_1 q_526, by decide, by decide, by decide +kernel⟩
theorem g_L_91 : jGV RL 91 yX7_member cX7_member 4 (some .int) 2 := ⟨jgV q_527 q_528 q_529 q_1 q_530, by decide, by decide, by decide +kernel⟩
theorem g_X7_185 : jGV RX7 185 yX3_countOfMember cX3_countOfMember 4 (some .int) 1 := ⟨jgV q_532 q_533 q_534 q_5 q_535, by decide, by decide, by decide +kernel⟩
theorem g_X7_188 : jGV RX7 188 yX3_countOfMemberAhead cX3_countOfMemberAhead 4 (some .int) 1 := ⟨jgV q_536 q_537 q_538 q_5 q_539, by decide, by decide, by decide +kernel⟩
theorem g_L_95 : jGV RL 95 yX7_client cX7_client 4 (some .int) 2 := ⟨jgV q_540 q_541 q_542 q_1 q_543, by decide, by decide, by decide +kernel⟩
theorem g_X7_203 : jGV RX7 203 yX3_countOfClientUnsettled cX3_countOfClientUnsettled 4 (some .int) 1 := ⟨jgV q_544 q_545 q_546 q_5 q_547, by decide, by decide, by decide +kernel⟩
theorem g_X3_41 : jGV RX3 41 yX3_isUnsettled cX3_isUnsettled 2 (Option.some FieldType.boolean) 1 := ⟨jgV q_548 q_408 q_409 q_5 q_410, by decide, by decide, by decide +kernel⟩
theorem g_L_99 : jGV RL 99 yX7_risk cX7_risk 2 (Option.some FieldType.float) 1 := ⟨jgV q_549 q_550 q_551 q_1 q_552, by decide, by decide, by decide +kernel⟩
theorem g_X7_206 : jGV RX7 206 yX1_riskOf cX1_riskOf 2 (Option.some FieldType.float) 1 := ⟨jgV q_553 q_376 q_377 q_4 q_378, by decide, by decide, by decide +kernel⟩
theorem g_L_103 : jGV RL 103 yX7_lateness cX7_lateness 2 (Option.some FieldType.float) 1 := ⟨jgV q_554 q_555 q_556 q_1 q_557, by decide, by decide, by decide +kernel⟩
theorem g_X7_209 : jGV RX7 209 yX1_latenessOf cX1_latenessOf 2 (Option.some FieldType.float) 1 := ⟨jgV q_558 q_559 q_560 q_4 q_561, by decide, by decide, by decide +kernel⟩
theorem g_L_107 : jGV RL 107 yX7_invoice cX7_invoice 4 (some .int) 2 := ⟨jgV q_562 q_563 q_564 q_1 q_565, by decide, by decide, by decide +kernel⟩
theorem g_X7_232 : jGV RX7 232 yX0_ageOf cX0_ageOf 2 (some .int) 1 := ⟨jgV q_566 q_356 q_357 q_2 q_358, by decide, by decide, by decide +kernel⟩
theorem g_X7_236 : jGV RX7 236 yX0_offerAfter cX0_offerAfter 3 (some .int) 2 := ⟨jgV q_568 q_360 q_361 q_2 q_362, by decide, by decide, by decide +kernel⟩
theorem g_L_111 : jGV RL 111 yX7_rateIn cX7_rateIn 3 (Option.some FieldType.float) 2 := ⟨jgV q_569 q_570 q_571 q_1 q_572, by decide, by decide, by decide +kernel⟩
theorem g_X7_239 : jGV RX7 239 yX0_rateAfter cX0_rateAfter 5 (Option.some FieldType.float) 2 := ⟨jgV q_573 q_364 q_365 q_2 q_366, by decide, by decide, by decide +kernel⟩
theorem g_L_116 : jGV RL 116 yX7_worth cX7_worth 2 (Option.some FieldType.float) 1 := ⟨jgV q_574 q_575 q_576 q_1 q_577, by decide, by decide, by decide +kernel⟩
theorem g_X7_243 : jGV RX7 243 yX0_worthOf cX0_worthOf 5 (Option.some FieldType.float) 1 := ⟨jgV q_578 q_579 q_580 q_2 q_581, by decide, by decide, by decide +kernel⟩
theorem g_L_120 : jGV RL 120 yX7_best cX7_best 3 (some .int) 1 := ⟨jgV q_582 q_583 q_584 q_1 q_585, by decide, by decide, by decide +kernel⟩
theorem g_X7_247 : jGV RX7 247 yX5_insert cX5_insert 4 (none : Option FieldType) 2 := ⟨jgV q_586 q_587 q_588 q_8 q_589, by decide, by decide, by decide +kernel⟩
theorem g_X7_251 : jGV RX7 251 yX5_invoiceAt cX5_invoiceAt 2 (some .int) 1 := ⟨jgV q_590 q_591 q_592 q_8 q_593, by decide, by decide, by decide +kernel⟩
theorem g_L_124 : jGV RL 124 yX7_worthlessIn cX7_worthlessIn 3 (some .int) 1 := ⟨jgV q_594 q_595 q_596 q_1 q_597, by decide, by decide, by decide +kernel⟩
theorem g_L_128 : jGV RL 128 yX7_exposure cX7_exposure 2 (Option.some FieldType.float) 0 := ⟨jgV q_598 q_599 q_600 q_1 q_601, by decide, by decide, by decide +kernel⟩
theorem g_X7_254 : jGV RX7 254 yX4_allDues cX4_allDues 3 (some .int) 0 := ⟨jgV q_602 q_386 q_387 q_3 q_388, by decide, by decide, by decide +kernel⟩
theorem g_X7_257 : jGV RX7 257 yX3_advancesOut cX3_advancesOut 3 (some .int) 0 := ⟨jgV q_603 q_604 q_605 q_5 q_606, by decide, by decide, by decide +kernel⟩
theorem g_L_133 : jGV RL 133 yX7_count cX7_count 2 (some .int) 1 := ⟨jgV q_607 q_608 q_609 q_1 q_610, by decide, by decide, by decide +kernel⟩
theorem g_X7_260 : jGV RX7 260 yX0_reserveCents cX0_reserveCents 1 (some .int) 0 := ⟨jgV q_611 q_382 q_383 q_2 q_384, by decide, by decide, by decide +kernel⟩
theorem g_X7_263 : jGV RX7 263 yX3_countOfState cX3_countOfState 4 (some .int) 1 := ⟨jgV q_612 q_613 q_614 q_5 q_615, by decide, by decide, by decide +kernel⟩
theorem g_L_12 : jGI RL 12 yX8_init cX8_init 1 0 := ⟨rfl, jgI q_620, q_9, q_618, q_619, by decide, by decide, by decide +kernel⟩
theorem g_L_17 : jGV RL 17 yX8_setRate cX8_setRate 7 (some .int) 2 := ⟨jgV q_671 q_672 q_673 q_9 q_674, by decide, by decide, by decide +kernel⟩
theorem g_X8_38 : jGS RX8 38 yX8_in cX8_in 3 (Option.some FieldType.boolean) 3 := ⟨rfl, jgS q_675 q_676 q_9 q_677, by decide, by decide, by decide +kernel⟩
theorem g_X8_51 : jGS RX8 51 yX8_ofBits cX8_ofBits 4 (Option.some FieldType.float) 1 := ⟨rfl, jgS q_678 q_679 q_9 q_680, by decide, by decide, by decide +kernel⟩
theorem g_X8_81 : jGV RX8 81 yX8_know cX8_know 2 (none : Option FieldType) 0 := ⟨jgV q_687 q_689 q_p2 q_9 q_690, by decide, by decide, by decide +kernel⟩
theorem g_L_21 : jGV RL 21 yX8_setNumber cX8_setNumber 4 (some .int) 2 := ⟨jgV q_691 q_692 q_693 q_9 q_694, by decide, by decide, by decide +kernel⟩
theorem g_L_26 : jGV RL 26 yX8_addMember cX8_addMember 3 (some .int) 1 := ⟨jgV q_695 q_696 q_697 q_9 q_698, by decide, by decide, by decide +kernel⟩
theorem g_X8_84 : jGS RX8 84 yX8_ofMember cX8_ofMember 2 (some .int) 2 := ⟨rfl, jgS q_699 q_700 q_9 q_701, by decide, by decide, by decide +kernel⟩
theorem g_L_30 : jGV RL 30 yX8_payDues cX8_payDues 3 (some .int) 2 := ⟨jgV q_702 q_703 q_704 q_9 q_705, by decide, by decide, by decide +kernel⟩
theorem g_X8_87 : jGV RX8 87 yX8_isMember cX8_isMember 2 (Option.some FieldType.boolean) 1 := ⟨jgV q_706 q_708 q_p3 q_9 q_709, by decide, by decide, by decide +kernel⟩
theorem g_L_35 : jGV RL 35 yX8_addInvoice cX8_addInvoice 6 (some .int) 4 := ⟨jgV q_712 q_713 q_714 q_9 q_715, by decide, by decide, by decide +kernel⟩
theorem g_X8_93 : jGS RX8 93 yX8_isClient cX8_isClient 1 (Option.some FieldType.boolean) 1 := ⟨rfl, jgS q_716 q_717 q_9 q_718, by decide, by decide, by decide +kernel⟩
theorem g_X8_59 : jGS RX8 59 yX8_of cX8_of 2 (some .int) 2 := ⟨rfl, jgS q_719 q_720 q_9 q_721, by decide, by decide, by decide +kernel⟩
theorem g_L_39 : jGV RL 39 yX8_payAhead cX8_payAhead 3 (some .int) 1 := ⟨jgV q_722 q_723 q_724 q_9 q_725, by decide, by decide, by decide +kernel⟩
theorem g_X8_105 : jGV RX8 105 yX8_isInvoice cX8_isInvoice 2 (Option.some FieldType.boolean) 1 := ⟨jgV q_726 q_728 q_p4 q_9 q_729, by decide, by decide, by decide +kernel⟩
theorem g_X8_108 : jGV RX8 108 yX8_mayAhead cX8_mayAhead 4 (Option.some FieldType.boolean) 1 := ⟨jgV q_730 q_732 q_p5 q_9 q_733, by decide, by decide, by decide +kernel⟩
theorem g_X8_75 : jGV RX8 75 yX8_offerBehind cX8_offerBehind 3 (some .int) 2 := ⟨jgV q_734 q_736 q_p6 q_9 q_737, by decide, by decide, by decide +kernel⟩
theorem g_X8_71 : jGV RX8 71 yX8_rateBehind cX8_rateBehind 5 (Option.some FieldType.float) 2 := ⟨jgV q_738 q_740 q_p7 q_9 q_741, by decide, by decide, by decide +kernel⟩
theorem g_X8_62 : jGV RX8 62 yX8_rateOf cX8_rateOf 2 (Option.some FieldType.float) 1 := ⟨jgV q_742 q_744 q_p8 q_9 q_745, by decide, by decide, by decide +kernel⟩
theorem g_X8_65 : jGV RX8 65 yX8_late cX8_late 4 (some .int) 2 := ⟨jgV q_746 q_748 q_p9 q_9 q_749, by decide, by decide, by decide +kernel⟩
theorem g_X8_68 : jGV RX8 68 yX8_riskOf cX8_riskOf 3 (Option.some FieldType.float) 1 := ⟨jgV q_750 q_752 q_p10 q_9 q_753, by decide, by decide, by decide +kernel⟩
theorem g_X8_55 : jGS RX8 55 yX8_ofClient cX8_ofClient 2 (some .int) 2 := ⟨rfl, jgS q_754 q_755 q_9 q_756, by decide, by decide, by decide +kernel⟩
theorem g_X8_102 : jGV RX8 102 yX8_reserve cX8_reserve 1 (some .int) 0 := ⟨jgV q_757 q_759 q_p11 q_9 q_760, by decide, by decide, by decide +kernel⟩
theorem g_X8_96 : jGV RX8 96 yX8_allDues cX8_allDues 3 (some .int) 0 := ⟨jgV q_761 q_763 q_p12 q_9 q_764, by decide, by decide, by decide +kernel⟩
theorem g_L_43 : jGV RL 43 yX8_pay cX8_pay 4 (some .int) 2 := ⟨jgV q_766 q_767 q_768 q_9 q_769, by decide, by decide, by decide +kernel⟩
theorem g_X8_111 : jGV RX8 111 yX8_payFault cX8_payFault 3 (some .int) 2 := ⟨jgV q_770 q_772 q_p13 q_9 q_773, by decide, by decide, by decide +kernel⟩
theorem g_X8_114 : jGV RX8 114 yX8_pays cX8_pays 9 (some .int) 2 := ⟨jgV q_774 q_776 q_p14 q_9 q_777, by decide, by decide, by decide +kernel⟩
theorem g_L_47 : jGV RL 47 yX8_giveUp cX8_giveUp 3 (some .int) 1 := ⟨jgV q_778 q_779 q_780 q_9 q_781, by decide, by decide, by decide +kernel⟩
theorem g_X8_117 : jGV RX8 117 yX8_mayGiveUp cX8_mayGiveUp 2 (Option.some FieldType.boolean) 1 := ⟨jgV q_782 q_784 q_p15 q_9 q_785, by decide, by decide, by decide +kernel⟩
theorem g_X8_120 : jGV RX8 120 yX8_share cX8_share 7 (none : Option FieldType) 1 := ⟨jgV q_786 q_788 q_p16 q_9 q_789, by decide, by decide, by decide +kernel⟩
theorem g_L_52 : jGV RL 52 yX8_readPayments cX8_readPayments 3 (some .int) 0 := ⟨jgV q_790 q_791 q_792 q_9 q_793, by decide, by decide, by decide +kernel⟩
theorem g_X8_146 : jGV RX8 146 yX8_go cX8_go 8 (some .int) 1 := ⟨jgV q_794 q_796 q_p17 q_9 q_797, by decide, by decide, by decide +kernel⟩
theorem g_X8_143 : jGV RX8 143 yX8_number cX8_number 5 (some .int) 2 := ⟨jgV q_798 q_800 q_p18 q_9 q_801, by decide, by decide, by decide +kernel⟩
theorem g_X8_134 : jGV RX8 134 yX8_sign cX8_sign 4 (some .int) 2 := ⟨jgV q_802 q_804 q_p19 q_9 q_805, by decide, by decide, by decide +kernel⟩
theorem g_X8_150 : jGV RX8 150 yX8_swap cX8_swap 3 (none : Option FieldType) 0 := ⟨jgV q_806 q_808 q_p20 q_9 q_809, by decide, by decide, by decide +kernel⟩
theorem g_L_56 : jGV RL 56 yX8_refusal cX8_refusal 2 (some .int) 1 := ⟨jgV q_810 q_811 q_812 q_9 q_813, by decide, by decide, by decide +kernel⟩
theorem g_L_60 : jGV RL 60 yX8_pass cX8_pass 2 (some .int) 1 := ⟨jgV q_814 q_815 q_816 q_9 q_817, by decide, by decide, by decide +kernel⟩
theorem g_L_65 : jGV RL 65 yX8_type cX8_type 2 (some .int) 1 := ⟨jgV q_819 q_820 q_821 q_9 q_822, by decide, by decide, by decide +kernel⟩
theorem g_L_69 : jGV RL 69 yX8_clearText cX8_clearText 2 (some .int) 0 := ⟨jgV q_823 q_824 q_825 q_9 q_826, by decide, by decide, by decide +kernel⟩
theorem g_L_73 : jGV RL 73 yX8_undo cX8_undo 2 (some .int) 0 := ⟨jgV q_827 q_828 q_829 q_9 q_830, by decide, by decide, by decide +kernel⟩
theorem g_L_77 : jGV RL 77 yX8_keep cX8_keep 2 (some .int) 0 := ⟨jgV q_831 q_832 q_833 q_9 q_834, by decide, by decide, by decide +kernel⟩
theorem g_L_81 : jGV RL 81 yX8_restore cX8_restore 2 (some .int) 0 := ⟨jgV q_835 q_836 q_837 q_9 q_838, by decide, by decide, by decide +kernel⟩
theorem g_L_86 : jGV RL 86 yX8_rate cX8_rate 2 (Option.some FieldType.float) 1 := ⟨jgV q_839 q_840 q_841 q_9 q_842, by decide, by decide, by decide +kernel⟩
theorem g_X8_157 : jGS RX8 157 yX8_nan cX8_nan 0 (Option.some FieldType.float) 0 := ⟨rfl, jgS q_843 q_844 q_9 q_845, by decide, by decide, by decide +kernel⟩
theorem g_L_90 : jGV RL 90 yX8_number_ cX8_number_ 2 (some .int) 1 := ⟨jgV q_847 q_848 q_849 q_9 q_850, by decide, by decide, by decide +kernel⟩
theorem g_L_94 : jGV RL 94 yX8_member cX8_member 3 (some .int) 2 := ⟨jgV q_851 q_852 q_853 q_9 q_854, by decide, by decide, by decide +kernel⟩
theorem g_X8_162 : jGV RX8 162 yX8_invoices cX8_invoices 7 (some .int) 4 := ⟨jgV q_856 q_858 q_p21 q_9 q_859, by decide, by decide, by decide +kernel⟩
theorem g_L_98 : jGV RL 98 yX8_client cX8_client 3 (some .int) 2 := ⟨jgV q_860 q_861 q_862 q_9 q_863, by decide, by decide, by decide +kernel⟩
theorem g_L_102 : jGV RL 102 yX8_risk cX8_risk 2 (Option.some FieldType.float) 1 := ⟨jgV q_864 q_865 q_866 q_9 q_867, by decide, by decide, by decide +kernel⟩
theorem g_L_106 : jGV RL 106 yX8_lateness cX8_lateness 3 (Option.some FieldType.float) 1 := ⟨jgV q_868 q_869 q_870 q_9 q_871, by decide, by decide, by decide +kernel⟩
theorem g_L_110 : jGV RL 110 yX8_invoice cX8_invoice 3 (some .int) 2 := ⟨jgV q_872 q_873 q_874 q_9 q_875, by decide, by decide, by decide +kernel⟩
theorem g_L_115 : jGV RL 115 yX8_rateIn cX8_rateIn 3 (Option.some FieldType.float) 2 := ⟨jgV q_877 q_878 q_879 q_9 q_880, by decide, by decide, by decide +kernel⟩
theorem g_L_119 : jGV RL 119 yX8_worth cX8_worth 2 (Option.some FieldType.float) 1 := ⟨jgV q_881 q_882 q_883 q_9 q_884, by decide, by decide, by decide +kernel⟩
theorem g_X8_167 : jGV RX8 167 yX8_worthOf cX8_worthOf 5 (Option.some FieldType.float) 1 := ⟨jgV q_885 q_887 q_p22 q_9 q_888, by decide, by decide, by decide +kernel⟩
theorem g_L_123 : jGV RL 123 yX8_best cX8_best 5 (some .int) 1 := ⟨jgV q_889 q_890 q_891 q_9 q_892, by decide, by decide, by decide +kernel⟩
theorem g_L_127 : jGV RL 127 yX8_worthlessIn cX8_worthlessIn 3 (some .int) 1 := ⟨jgV q_893 q_894 q_895 q_9 q_896, by decide, by decide, by decide +kernel⟩
theorem g_L_132 : jGV RL 132 yX8_exposure cX8_exposure 3 (Option.some FieldType.float) 0 := ⟨jgV q_897 q_898 q_899 q_9 q_900, by decide, by decide, by decide +kernel⟩
theorem g_L_136 : jGV RL 136 yX8_count cX8_count 2 (some .int) 1 := ⟨jgV q_901 q_902 q_903 q_9 q_904, by decide, by decide, by decide +kernel⟩
theorem g_X0_11 : jGIN RX0 11 yX4_init RX7 cX4_init 1 0 := ⟨rfl, List.mem_of_getElem? (i := 0) rfl, jgI q_28, q_3, q_27, by decide, by decide, by decide +kernel⟩
theorem g_X0_20 : jGIN RX0 20 yX1_init RX7 cX1_init 1 0 := ⟨rfl, List.mem_of_getElem? (i := 1) rfl, jgI q_57, q_4, q_56, by decide, by decide, by decide +kernel⟩
theorem g_X0_27 : jGIN RX0 27 yX3_init RX7 cX3_init 1 0 := ⟨rfl, List.mem_of_getElem? (i := 2) rfl, jgI q_76, q_5, q_75, by decide, by decide, by decide +kernel⟩
theorem g_X7_31 : jGIN RX7 31 yX6_init RX7 cX6_init 1 0 := ⟨rfl, List.mem_of_getElem? (i := 3) rfl, jgI q_191, q_7, q_190, by decide, by decide, by decide +kernel⟩
theorem g_X7_38 : jGIN RX7 38 yX5_init RX7 cX5_init 1 0 := ⟨rfl, List.mem_of_getElem? (i := 4) rfl, jgI q_216, q_8, q_215, by decide, by decide, by decide +kernel⟩
theorem g_X4_32 : jGSN RX4 32 yX7_copyRow RX7 cX7_copyRow 3 (none : Option FieldType) 2 := ⟨List.mem_of_getElem? (i := 5) rfl, q_291, q_1, jgI q_292, by decide, by decide, by decide +kernel⟩
theorem g_X1_29 : jGSN RX1 29 yX7_copyRow RX7 cX7_copyRow 3 (none : Option FieldType) 2 := ⟨List.mem_of_getElem? (i := 6) rfl, q_291, q_1, jgI q_292, by decide, by decide, by decide +kernel⟩
theorem g_X3_44 : jGSN RX3 44 yX7_copyRow RX7 cX7_copyRow 3 (none : Option FieldType) 2 := ⟨List.mem_of_getElem? (i := 7) rfl, q_291, q_1, jgI q_292, by decide, by decide, by decide +kernel⟩
theorem g_X0_162 : jGSN RX0 162 yX7_copyRow RX7 cX7_copyRow 3 (none : Option FieldType) 2 := ⟨List.mem_of_getElem? (i := 8) rfl, q_291, q_1, jgI q_292, by decide, by decide, by decide +kernel⟩
theorem g_X0_64 : jGSN RX0 64 yX7_noNumber RX7 cX7_noNumber 0 (Option.some FieldType.float) 0 := ⟨List.mem_of_getElem? (i := 9) rfl, q_368, q_1, jgI q_369, by decide, by decide, by decide +kernel⟩
theorem g_X1_25 : jGSN RX1 25 yX7_noNumber RX7 cX7_noNumber 0 (Option.some FieldType.float) 0 := ⟨List.mem_of_getElem? (i := 10) rfl, q_368, q_1, jgI q_369, by decide, by decide, by decide +kernel⟩
