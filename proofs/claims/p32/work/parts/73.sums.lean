theorem mem_1 {K : Nat → jB} {i : Int32} (h : r_X4_has (K 0) i = 1) : r_X7_member K i 1 = K 0 1 i.toNatClampNeg := by
  unfold r_X7_member
  rw [if_neg (show ¬ (r_X4_has (K 0) i = 0) by rw [h]; exact one_ne), if_neg (by decide), if_pos rfl]
theorem mem_2 {K : Nat → jB} {i : Int32} (h : r_X4_has (K 0) i = 1) : r_X7_member K i 2 = K 0 2 i.toNatClampNeg + 1000000000 := by
  unfold r_X7_member
  rw [if_neg (show ¬ (r_X4_has (K 0) i = 0) by rw [h]; exact one_ne), if_neg (by decide), if_neg (by decide), if_pos rfl]
theorem mem_4 {K : Nat → jB} {i : Int32} (h : r_X4_has (K 0) i = 1) : r_X7_member K i 4 = r_X3_countOfMemberAhead (K 0) i := by
  unfold r_X7_member
  rw [if_neg (show ¬ (r_X4_has (K 0) i = 0) by rw [h]; exact one_ne), if_neg (by decide), if_neg (by decide), if_neg (by decide), if_neg (by decide), if_pos rfl]
theorem mem_5 {K : Nat → jB} {i : Int32} (h : r_X4_has (K 0) i = 1) : r_X7_member K i 5 = K 0 3 i.toNatClampNeg + 1000000000 := by
  unfold r_X7_member
  rw [if_neg (show ¬ (r_X4_has (K 0) i = 0) by rw [h]; exact one_ne), if_neg (by decide), if_neg (by decide), if_neg (by decide), if_neg (by decide), if_neg (by decide), if_pos rfl]
set_option maxRecDepth 100000 in
set_option maxHeartbeats 4000000 in
theorem c_L_areSumsSo (l : Launch) (D : va_G) (ca : Nat → ClassId) (g : Nat → Nat) (K : Nat → jB) (p : Int32) {n : Nat} {P : Int32} (h : St n P K) (hp : p = P) : jM l D ca yL_areSumsSo cL_areSumsSo 9 (Option.some FieldType.boolean) 4 84 0 0 [.ref (g 0), .int p] (fW ca g K) (jD (some (.int 1)) (fW ca g K)) := by
  refine jM_of [(0, .ref (g 0)), (1, .int p)] (by decide) (Nat.le_of_ble_eq_true rfl) rfl (fun X C E => ?_)
  have hI := St_I h
  have A := h.1.2.1
  have hm := Inv_m hI
  refine j_ldc C q_492 dL_areSumsSo_0 ?_
  refine j_istore_n C [(2, _), (0, _), (1, _)] dL_areSumsSo_2 (by decide) rfl ?_
  refine j_iconst C dL_areSumsSo_3 (0 : Int32) (by decide) ?_
  refine j_istore_n C [(3, _), (2, _), (0, _), (1, _)] dL_areSumsSo_4 (by decide) rfl ?_
  refine j_iconst C dL_areSumsSo_5 (0 : Int32) (by decide) ?_
  refine j_istore C [(4, _), (3, _), (2, _), (0, _), (1, _)] dL_areSumsSo_6 (by decide) rfl ?_
  refine j_iconst C dL_areSumsSo_8 (0 : Int32) (by decide) ?_
  refine j_istore C [(5, _), (4, _), (3, _), (2, _), (0, _), (1, _)] dL_areSumsSo_9 (by decide) rfl ?_
  refine j_iconst C dL_areSumsSo_11 (0 : Int32) (by decide) ?_
  refine j_istore C [(6, _), (5, _), (4, _), (3, _), (2, _), (0, _), (1, _)] dL_areSumsSo_12 (by decide) rfl ?_
  refine j_iconst C dL_areSumsSo_14 (0 : Int32) (by decide) ?_
  refine j_istore C [(7, _), (6, _), (5, _), (4, _), (3, _), (2, _), (0, _), (1, _)] dL_areSumsSo_15 (by decide) rfl ?_
  have K17 : ∀ (c : Nat) (a3 a4 a5 a6 a7 : Int32), 0 ≤ a7.toInt → a7.toInt + c = (K 0 16 0).toInt → a3 = sm (K 0) 2 a7.toNatClampNeg → a4 = sm (K 0) 3 a7.toNatClampNeg → a5 = sm (K 0) 1 a7.toNatClampNeg → a6 = fs (fun j => r_X3_countOfMemberAhead (K 0) (Int32.ofNat j)) 0 a7.toNatClampNeg 0 → J l { frames := 4, cells := 0, slots := 0, locals := 84 } D 9 X 0 0 (fW ca g K) [(0, .ref (g 0)), (1, .int p), (2, .int (1000000000 : Int32)), (3, .int a3), (4, .int a4), (5, .int a5), (6, .int a6), (7, .int a7)] [] 17 := by
    intro c
    induction c with
    | zero =>
      intro a3 a4 a5 a6 a7 h0 h1 i3 i4 i5 i6
      have e7 : a7.toNatClampNeg = mN (K 0) := by unfold mN; rw [i_nat]; omega
      rw [e7] at i3 i4 i5 i6
      refine j_iload C dL_areSumsSo_17 rfl ?_
      refine j_aload_n C dL_areSumsSo_19 rfl ?_
      refine j_iconst C dL_areSumsSo_20 (4 : Int32) (by decide) ?_
      refine j_callViRW C g_L_8 (c_X7_count l D ca g K (4 : Int32)) 0 fW_0 hcl_X7 ⟨Nat.le_of_ble_eq_true rfl, Nat.le_of_ble_eq_true rfl⟩ ⟨Nat.le_of_ble_eq_true rfl, Nat.le_of_ble_eq_true rfl⟩ rfl rfl (Nat.le_of_ble_eq_true rfl) dL_areSumsSo_21 ?_
      refine j_sti (y := (K 0 16 0)) (cnt_4 K) ?_
      refine j_icmp_ge (tgt := 83) C dL_areSumsSo_24 (by decide) (fun _ => ?_) (fun h => absurd (by rw [i_le]; omega) h)
      refine j_aload_n C dL_areSumsSo_83 rfl ?_
      refine j_iconst C dL_areSumsSo_84 (1 : Int32) (by decide) ?_
      refine j_callViRW C g_L_8 (c_X7_count l D ca g K (1 : Int32)) 0 fW_0 hcl_X7 ⟨Nat.le_of_ble_eq_true rfl, Nat.le_of_ble_eq_true rfl⟩ ⟨Nat.le_of_ble_eq_true rfl, Nat.le_of_ble_eq_true rfl⟩ rfl rfl (Nat.le_of_ble_eq_true rfl) dL_areSumsSo_85 ?_
      refine j_sti (y := (K 0 16 3 + 1000000000)) (cnt_1 K) ?_
      refine j_iload_n C dL_areSumsSo_88 rfl ?_
      refine j_isub C dL_areSumsSo_89 ?_
      refine j_istore C [(7, _), (0, _), (1, _), (2, _), (3, _), (4, _), (5, _), (6, _)] dL_areSumsSo_90 (by decide) rfl ?_
      refine j_iload C dL_areSumsSo_92 rfl ?_
      refine j_aload_n C dL_areSumsSo_94 rfl ?_
      refine j_iconst C dL_areSumsSo_95 (2 : Int32) (by decide) ?_
      refine j_callViRW C g_L_8 (c_X7_count l D ca g K (2 : Int32)) 0 fW_0 hcl_X7 ⟨Nat.le_of_ble_eq_true rfl, Nat.le_of_ble_eq_true rfl⟩ ⟨Nat.le_of_ble_eq_true rfl, Nat.le_of_ble_eq_true rfl⟩ rfl rfl (Nat.le_of_ble_eq_true rfl) dL_areSumsSo_96 ?_
      refine j_sti (y := (r_X4_allDues (K 0))) (cnt_2 K) ?_
      refine j_iload_n C dL_areSumsSo_99 rfl ?_
      refine j_iadd C dL_areSumsSo_100 ?_
      refine j_aload_n C dL_areSumsSo_101 rfl ?_
      refine j_bipush C dL_areSumsSo_102 (13 : Int32) (by decide) ?_
      refine j_callViRW C g_L_8 (c_X7_count l D ca g K (13 : Int32)) 0 fW_0 hcl_X7 ⟨Nat.le_of_ble_eq_true rfl, Nat.le_of_ble_eq_true rfl⟩ ⟨Nat.le_of_ble_eq_true rfl, Nat.le_of_ble_eq_true rfl⟩ rfl rfl (Nat.le_of_ble_eq_true rfl) dL_areSumsSo_104 ?_
      refine j_sti (y := (K 0 16 7)) (cnt_13 K) ?_
      refine j_iadd C dL_areSumsSo_107 ?_
      refine j_aload_n C dL_areSumsSo_108 rfl ?_
      refine j_bipush C dL_areSumsSo_109 (10 : Int32) (by decide) ?_
      refine j_callViRW C g_L_8 (c_X7_count l D ca g K (10 : Int32)) 0 fW_0 hcl_X7 ⟨Nat.le_of_ble_eq_true rfl, Nat.le_of_ble_eq_true rfl⟩ ⟨Nat.le_of_ble_eq_true rfl, Nat.le_of_ble_eq_true rfl⟩ rfl rfl (Nat.le_of_ble_eq_true rfl) dL_areSumsSo_111 ?_
      refine j_sti (y := (K 0 16 4)) (cnt_10 K) ?_
      refine j_isub C dL_areSumsSo_114 ?_
      refine j_aload_n C dL_areSumsSo_115 rfl ?_
      refine j_bipush C dL_areSumsSo_116 (12 : Int32) (by decide) ?_
      refine j_callViRW C g_L_8 (c_X7_count l D ca g K (12 : Int32)) 0 fW_0 hcl_X7 ⟨Nat.le_of_ble_eq_true rfl, Nat.le_of_ble_eq_true rfl⟩ ⟨Nat.le_of_ble_eq_true rfl, Nat.le_of_ble_eq_true rfl⟩ rfl rfl (Nat.le_of_ble_eq_true rfl) dL_areSumsSo_118 ?_
      refine j_sti (y := (K 0 16 6)) (cnt_12 K) ?_
      refine j_isub C dL_areSumsSo_121 ?_
      refine j_icmp_ne (tgt := 150) C dL_areSumsSo_122 (by decide) (fun h => absurd (by rw [e_dues hI, hp, A.1]; grind) h) (fun _ => ?_)
      refine j_iload C dL_areSumsSo_125 rfl ?_
      refine j_aload_n C dL_areSumsSo_127 rfl ?_
      refine j_bipush C dL_areSumsSo_128 (13 : Int32) (by decide) ?_
      refine j_callViRW C g_L_8 (c_X7_count l D ca g K (13 : Int32)) 0 fW_0 hcl_X7 ⟨Nat.le_of_ble_eq_true rfl, Nat.le_of_ble_eq_true rfl⟩ ⟨Nat.le_of_ble_eq_true rfl, Nat.le_of_ble_eq_true rfl⟩ rfl rfl (Nat.le_of_ble_eq_true rfl) dL_areSumsSo_130 ?_
      refine j_sti (y := (K 0 16 7)) (cnt_13 K) ?_
      refine j_icmp_ne (tgt := 150) C dL_areSumsSo_133 (by decide) (fun h => absurd (i4.trans A.2.1) h) (fun _ => ?_)
      refine j_iload C dL_areSumsSo_136 rfl ?_
      refine j_aload_n C dL_areSumsSo_138 rfl ?_
      refine j_iconst C dL_areSumsSo_139 (2 : Int32) (by decide) ?_
      refine j_callViRW C g_L_8 (c_X7_count l D ca g K (2 : Int32)) 0 fW_0 hcl_X7 ⟨Nat.le_of_ble_eq_true rfl, Nat.le_of_ble_eq_true rfl⟩ ⟨Nat.le_of_ble_eq_true rfl, Nat.le_of_ble_eq_true rfl⟩ rfl rfl (Nat.le_of_ble_eq_true rfl) dL_areSumsSo_140 ?_
      refine j_sti (y := (r_X4_allDues (K 0))) (cnt_2 K) ?_
      refine j_icmp_ne (tgt := 150) C dL_areSumsSo_143 (by decide) (fun h => absurd (by rw [i5, e_dues hI]) h) (fun _ => ?_)
      refine j_iconst C dL_areSumsSo_146 (1 : Int32) (by decide) ?_
      refine j_goto (tgt := 151) C dL_areSumsSo_147 (by decide) ?_
      refine j_istore C [(8, _), (7, _), (0, _), (1, _), (2, _), (3, _), (4, _), (5, _), (6, _)] dL_areSumsSo_151 (by decide) rfl ?_
      refine j_iload C dL_areSumsSo_153 rfl ?_
      refine j_if_eq (tgt := 206) C dL_areSumsSo_155 (by decide) (fun h => absurd h (by decide)) (fun _ => ?_)
      refine j_iload_n C dL_areSumsSo_158 rfl ?_
      refine j_aload_n C dL_areSumsSo_159 rfl ?_
      refine j_bipush C dL_areSumsSo_160 (11 : Int32) (by decide) ?_
      refine j_callViRW C g_L_8 (c_X7_count l D ca g K (11 : Int32)) 0 fW_0 hcl_X7 ⟨Nat.le_of_ble_eq_true rfl, Nat.le_of_ble_eq_true rfl⟩ ⟨Nat.le_of_ble_eq_true rfl, Nat.le_of_ble_eq_true rfl⟩ rfl rfl (Nat.le_of_ble_eq_true rfl) dL_areSumsSo_162 ?_
      refine j_sti (y := (K 0 16 5)) (cnt_11 K) ?_
      refine j_iload_n C dL_areSumsSo_165 rfl ?_
      refine j_isub C dL_areSumsSo_166 ?_
      refine j_aload_n C dL_areSumsSo_167 rfl ?_
      refine j_bipush C dL_areSumsSo_168 (10 : Int32) (by decide) ?_
      refine j_callViRW C g_L_8 (c_X7_count l D ca g K (10 : Int32)) 0 fW_0 hcl_X7 ⟨Nat.le_of_ble_eq_true rfl, Nat.le_of_ble_eq_true rfl⟩ ⟨Nat.le_of_ble_eq_true rfl, Nat.le_of_ble_eq_true rfl⟩ rfl rfl (Nat.le_of_ble_eq_true rfl) dL_areSumsSo_170 ?_
      refine j_sti (y := (K 0 16 4)) (cnt_10 K) ?_
      refine j_iadd C dL_areSumsSo_173 ?_
      refine j_aload_n C dL_areSumsSo_174 rfl ?_
      refine j_bipush C dL_areSumsSo_175 (12 : Int32) (by decide) ?_
      refine j_callViRW C g_L_8 (c_X7_count l D ca g K (12 : Int32)) 0 fW_0 hcl_X7 ⟨Nat.le_of_ble_eq_true rfl, Nat.le_of_ble_eq_true rfl⟩ ⟨Nat.le_of_ble_eq_true rfl, Nat.le_of_ble_eq_true rfl⟩ rfl rfl (Nat.le_of_ble_eq_true rfl) dL_areSumsSo_177 ?_
      refine j_sti (y := (K 0 16 6)) (cnt_12 K) ?_
      refine j_iadd C dL_areSumsSo_180 ?_
      refine j_aload_n C dL_areSumsSo_181 rfl ?_
      refine j_bipush C dL_areSumsSo_182 (13 : Int32) (by decide) ?_
      refine j_callViRW C g_L_8 (c_X7_count l D ca g K (13 : Int32)) 0 fW_0 hcl_X7 ⟨Nat.le_of_ble_eq_true rfl, Nat.le_of_ble_eq_true rfl⟩ ⟨Nat.le_of_ble_eq_true rfl, Nat.le_of_ble_eq_true rfl⟩ rfl rfl (Nat.le_of_ble_eq_true rfl) dL_areSumsSo_184 ?_
      refine j_sti (y := (K 0 16 7)) (cnt_13 K) ?_
      refine j_isub C dL_areSumsSo_187 ?_
      refine j_icmp_ne (tgt := 206) C dL_areSumsSo_188 (by decide) (fun h => absurd (by rw [i3, A.2.2, hp]) h) (fun _ => ?_)
      refine j_iload C dL_areSumsSo_191 rfl ?_
      refine j_aload_n C dL_areSumsSo_193 rfl ?_
      refine j_bipush C dL_areSumsSo_194 (7 : Int32) (by decide) ?_
      refine j_callViRW C g_L_8 (c_X7_count l D ca g K (7 : Int32)) 0 fW_0 hcl_X7 ⟨Nat.le_of_ble_eq_true rfl, Nat.le_of_ble_eq_true rfl⟩ ⟨Nat.le_of_ble_eq_true rfl, Nat.le_of_ble_eq_true rfl⟩ rfl rfl (Nat.le_of_ble_eq_true rfl) dL_areSumsSo_196 ?_
      refine j_sti (y := (r_X3_countOfState (K 0) 1)) (cnt_7 K) ?_
      refine j_icmp_ne (tgt := 206) C dL_areSumsSo_199 (by decide) (fun h => absurd (by rw [i6, sum_ahead hI, e_ctState hI]) h) (fun _ => ?_)
      refine j_iconst C dL_areSumsSo_202 (1 : Int32) (by decide) ?_
      refine j_goto (tgt := 207) C dL_areSumsSo_203 (by decide) ?_
      refine j_istore C [(8, _), (7, _), (0, _), (1, _), (2, _), (3, _), (4, _), (5, _), (6, _)] dL_areSumsSo_207 (by decide) rfl ?_
      refine j_iload C dL_areSumsSo_209 rfl ?_
      refine j_if_eq (tgt := 253) C dL_areSumsSo_211 (by decide) (fun h => absurd h (by decide)) (fun _ => ?_)
      refine j_aload_n C dL_areSumsSo_214 rfl ?_
      refine j_bipush C dL_areSumsSo_215 (6 : Int32) (by decide) ?_
      refine j_callViRW C g_L_8 (c_X7_count l D ca g K (6 : Int32)) 0 fW_0 hcl_X7 ⟨Nat.le_of_ble_eq_true rfl, Nat.le_of_ble_eq_true rfl⟩ ⟨Nat.le_of_ble_eq_true rfl, Nat.le_of_ble_eq_true rfl⟩ rfl rfl (Nat.le_of_ble_eq_true rfl) dL_areSumsSo_217 ?_
      refine j_sti (y := (r_X3_countOfState (K 0) 0)) (cnt_6 K) ?_
      refine j_aload_n C dL_areSumsSo_220 rfl ?_
      refine j_bipush C dL_areSumsSo_221 (7 : Int32) (by decide) ?_
      refine j_callViRW C g_L_8 (c_X7_count l D ca g K (7 : Int32)) 0 fW_0 hcl_X7 ⟨Nat.le_of_ble_eq_true rfl, Nat.le_of_ble_eq_true rfl⟩ ⟨Nat.le_of_ble_eq_true rfl, Nat.le_of_ble_eq_true rfl⟩ rfl rfl (Nat.le_of_ble_eq_true rfl) dL_areSumsSo_223 ?_
      refine j_sti (y := (r_X3_countOfState (K 0) 1)) (cnt_7 K) ?_
      refine j_iadd C dL_areSumsSo_226 ?_
      refine j_aload_n C dL_areSumsSo_227 rfl ?_
      refine j_bipush C dL_areSumsSo_228 (8 : Int32) (by decide) ?_
      refine j_callViRW C g_L_8 (c_X7_count l D ca g K (8 : Int32)) 0 fW_0 hcl_X7 ⟨Nat.le_of_ble_eq_true rfl, Nat.le_of_ble_eq_true rfl⟩ ⟨Nat.le_of_ble_eq_true rfl, Nat.le_of_ble_eq_true rfl⟩ rfl rfl (Nat.le_of_ble_eq_true rfl) dL_areSumsSo_230 ?_
      refine j_sti (y := (r_X3_countOfState (K 0) 2)) (cnt_8 K) ?_
      refine j_iadd C dL_areSumsSo_233 ?_
      refine j_aload_n C dL_areSumsSo_234 rfl ?_
      refine j_bipush C dL_areSumsSo_235 (9 : Int32) (by decide) ?_
      refine j_callViRW C g_L_8 (c_X7_count l D ca g K (9 : Int32)) 0 fW_0 hcl_X7 ⟨Nat.le_of_ble_eq_true rfl, Nat.le_of_ble_eq_true rfl⟩ ⟨Nat.le_of_ble_eq_true rfl, Nat.le_of_ble_eq_true rfl⟩ rfl rfl (Nat.le_of_ble_eq_true rfl) dL_areSumsSo_237 ?_
      refine j_sti (y := (r_X3_countOfState (K 0) 3)) (cnt_9 K) ?_
      refine j_iadd C dL_areSumsSo_240 ?_
      refine j_aload_n C dL_areSumsSo_241 rfl ?_
      refine j_iconst C dL_areSumsSo_242 (5 : Int32) (by decide) ?_
      refine j_callViRW C g_L_8 (c_X7_count l D ca g K (5 : Int32)) 0 fW_0 hcl_X7 ⟨Nat.le_of_ble_eq_true rfl, Nat.le_of_ble_eq_true rfl⟩ ⟨Nat.le_of_ble_eq_true rfl, Nat.le_of_ble_eq_true rfl⟩ rfl rfl (Nat.le_of_ble_eq_true rfl) dL_areSumsSo_243 ?_
      refine j_sti (y := (K 0 16 1)) (cnt_5 K) ?_
      refine j_icmp_ne (tgt := 253) C dL_areSumsSo_246 (by decide) (fun h => absurd (by rw [e_ctState hI, e_ctState hI, e_ctState hI, e_ctState hI]; exact sum_states hI) h) (fun _ => ?_)
      refine j_iconst C dL_areSumsSo_249 (1 : Int32) (by decide) ?_
      refine j_goto (tgt := 254) C dL_areSumsSo_250 (by decide) ?_
      exact j_zret E rfl dL_areSumsSo_254 ⟨rfl, rfl⟩
    | succ c ih =>
      intro a3 a4 a5 a6 a7 h0 h1 i3 i4 i5 i6
      have h4 : r_X4_has (K 0) a7 = 1 := has4_1 hI h0 (by omega)
      have hh := i_hi (K 0 16 0)
      have ns := nn_succ h0 (by omega)
      have is := ii_succ (x := a7) (by omega)
      have n7 := nat_of h0
      refine j_iload C dL_areSumsSo_17 rfl ?_
      refine j_aload_n C dL_areSumsSo_19 rfl ?_
      refine j_iconst C dL_areSumsSo_20 (4 : Int32) (by decide) ?_
      refine j_callViRW C g_L_8 (c_X7_count l D ca g K (4 : Int32)) 0 fW_0 hcl_X7 ⟨Nat.le_of_ble_eq_true rfl, Nat.le_of_ble_eq_true rfl⟩ ⟨Nat.le_of_ble_eq_true rfl, Nat.le_of_ble_eq_true rfl⟩ rfl rfl (Nat.le_of_ble_eq_true rfl) dL_areSumsSo_21 ?_
      refine j_sti (y := (K 0 16 0)) (cnt_4 K) ?_
      refine j_icmp_ge (tgt := 83) C dL_areSumsSo_24 (by decide) (fun h => absurd h (by rw [i_le]; omega)) (fun _ => ?_)
      refine j_iload_n C dL_areSumsSo_27 rfl ?_
      refine j_aload_n C dL_areSumsSo_28 rfl ?_
      refine j_iload C dL_areSumsSo_29 rfl ?_
      refine j_iconst C dL_areSumsSo_31 (2 : Int32) (by decide) ?_
      refine j_callViRW C g_L_57 (c_X7_member l D ca g K a7 (2 : Int32)) 0 fW_0 hcl_X7 ⟨Nat.le_of_ble_eq_true rfl, Nat.le_of_ble_eq_true rfl⟩ ⟨Nat.le_of_ble_eq_true rfl, Nat.le_of_ble_eq_true rfl⟩ rfl rfl (Nat.le_of_ble_eq_true rfl) dL_areSumsSo_32 ?_
      refine j_sti (y := (K 0 2 a7.toNatClampNeg + (1000000000 : Int32))) (mem_2 h4) ?_
      refine j_iload_n C dL_areSumsSo_35 rfl ?_
      refine j_isub C dL_areSumsSo_36 ?_
      refine j_iadd C dL_areSumsSo_37 ?_
      refine j_istore_n C [(3, _), (0, _), (1, _), (2, _), (4, _), (5, _), (6, _), (7, _)] dL_areSumsSo_38 (by decide) rfl ?_
      refine j_iload C dL_areSumsSo_39 rfl ?_
      refine j_aload_n C dL_areSumsSo_41 rfl ?_
      refine j_iload C dL_areSumsSo_42 rfl ?_
      refine j_iconst C dL_areSumsSo_44 (5 : Int32) (by decide) ?_
      refine j_callViRW C g_L_57 (c_X7_member l D ca g K a7 (5 : Int32)) 0 fW_0 hcl_X7 ⟨Nat.le_of_ble_eq_true rfl, Nat.le_of_ble_eq_true rfl⟩ ⟨Nat.le_of_ble_eq_true rfl, Nat.le_of_ble_eq_true rfl⟩ rfl rfl (Nat.le_of_ble_eq_true rfl) dL_areSumsSo_45 ?_
      refine j_sti (y := (K 0 3 a7.toNatClampNeg + (1000000000 : Int32))) (mem_5 h4) ?_
      refine j_iload_n C dL_areSumsSo_48 rfl ?_
      refine j_isub C dL_areSumsSo_49 ?_
      refine j_iadd C dL_areSumsSo_50 ?_
      refine j_istore C [(4, _), (3, _), (0, _), (1, _), (2, _), (5, _), (6, _), (7, _)] dL_areSumsSo_51 (by decide) rfl ?_
      refine j_iload C dL_areSumsSo_53 rfl ?_
      refine j_aload_n C dL_areSumsSo_55 rfl ?_
      refine j_iload C dL_areSumsSo_56 rfl ?_
      refine j_iconst C dL_areSumsSo_58 (1 : Int32) (by decide) ?_
      refine j_callViRW C g_L_57 (c_X7_member l D ca g K a7 (1 : Int32)) 0 fW_0 hcl_X7 ⟨Nat.le_of_ble_eq_true rfl, Nat.le_of_ble_eq_true rfl⟩ ⟨Nat.le_of_ble_eq_true rfl, Nat.le_of_ble_eq_true rfl⟩ rfl rfl (Nat.le_of_ble_eq_true rfl) dL_areSumsSo_59 ?_
      refine j_sti (y := (K 0 1 a7.toNatClampNeg)) (mem_1 h4) ?_
      refine j_iadd C dL_areSumsSo_62 ?_
      refine j_istore C [(5, _), (4, _), (3, _), (0, _), (1, _), (2, _), (6, _), (7, _)] dL_areSumsSo_63 (by decide) rfl ?_
      refine j_iload C dL_areSumsSo_65 rfl ?_
      refine j_aload_n C dL_areSumsSo_67 rfl ?_
      refine j_iload C dL_areSumsSo_68 rfl ?_
      refine j_iconst C dL_areSumsSo_70 (4 : Int32) (by decide) ?_
      refine j_callViRW C g_L_57 (c_X7_member l D ca g K a7 (4 : Int32)) 0 fW_0 hcl_X7 ⟨Nat.le_of_ble_eq_true rfl, Nat.le_of_ble_eq_true rfl⟩ ⟨Nat.le_of_ble_eq_true rfl, Nat.le_of_ble_eq_true rfl⟩ rfl rfl (Nat.le_of_ble_eq_true rfl) dL_areSumsSo_71 ?_
      refine j_sti (y := (r_X3_countOfMemberAhead (K 0) a7)) (mem_4 h4) ?_
      refine j_iadd C dL_areSumsSo_74 ?_
      refine j_istore C [(6, _), (5, _), (4, _), (3, _), (0, _), (1, _), (2, _), (7, _)] dL_areSumsSo_75 (by decide) rfl ?_
      refine j_iinc C [(7, _), (6, _), (5, _), (4, _), (3, _), (0, _), (1, _), (2, _)] (v := (a7 + (1 : Int32))) dL_areSumsSo_77 rfl (iinc_1 _) (by decide) rfl ?_
      refine j_goto (tgt := 17) C dL_areSumsSo_80 (by decide) ?_
      refine j_lv [(0, .ref (g 0)), (1, .int p), (2, .int (1000000000 : Int32)), (3, .int (a3 + ((K 0 2 a7.toNatClampNeg + (1000000000 : Int32)) - (1000000000 : Int32)))), (4, .int (a4 + ((K 0 3 a7.toNatClampNeg + (1000000000 : Int32)) - (1000000000 : Int32)))), (5, .int (a5 + (K 0 1 a7.toNatClampNeg))), (6, .int (a6 + (r_X3_countOfMemberAhead (K 0) a7))), (7, .int (a7 + (1 : Int32)))] rfl ?_
      exact ih _ _ _ _ _ (by omega) (by omega) (by unfold sm at *; rw [ns, fs_s0, i3]; grind) (by unfold sm at *; rw [ns, fs_s0, i4]; grind) (by unfold sm at *; rw [ns, fs_s0, i5]) (by rw [ns, fs_s0, i6, n7])
  refine j_lv [(0, .ref (g 0)), (1, .int p), (2, .int (1000000000 : Int32)), (3, .int (0 : Int32)), (4, .int (0 : Int32)), (5, .int (0 : Int32)), (6, .int (0 : Int32)), (7, .int (0 : Int32))] rfl ?_
  exact K17 (mN (K 0)) _ _ _ _ _ (by decide) (by unfold mN; rw [show (0 : Int32).toInt = 0 from rfl]; omega) rfl rfl rfl rfl
