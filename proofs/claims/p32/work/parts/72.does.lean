theorem cnt_0 (K : Nat → jB) : r_X7_count K 0 = K 0 16 2 := by unfold r_X7_count; rw [if_pos rfl]
theorem cnt_1 (K : Nat → jB) : r_X7_count K 1 = K 0 16 3 + 1000000000 := by unfold r_X7_count; rw [if_neg (by decide), if_pos rfl]
theorem cnt_2 (K : Nat → jB) : r_X7_count K 2 = r_X4_allDues (K 0) := by unfold r_X7_count; rw [if_neg (by decide), if_neg (by decide), if_pos rfl]
theorem cnt_3 (K : Nat → jB) : r_X7_count K 3 = r_X0_reserveCents (K 0) := by unfold r_X7_count; rw [if_neg (by decide), if_neg (by decide), if_neg (by decide), if_pos rfl]
theorem cnt_4 (K : Nat → jB) : r_X7_count K 4 = K 0 16 0 := by unfold r_X7_count; rw [if_neg (by decide), if_neg (by decide), if_neg (by decide), if_neg (by decide), if_pos rfl]
theorem cnt_5 (K : Nat → jB) : r_X7_count K 5 = K 0 16 1 := by unfold r_X7_count; rw [if_neg (by decide), if_neg (by decide), if_neg (by decide), if_neg (by decide), if_neg (by decide), if_pos rfl]
theorem cnt_6 (K : Nat → jB) : r_X7_count K 6 = r_X3_countOfState (K 0) 0 := by unfold r_X7_count; rw [if_neg (by decide), if_neg (by decide), if_neg (by decide), if_neg (by decide), if_neg (by decide), if_neg (by decide), if_pos rfl]
theorem cnt_7 (K : Nat → jB) : r_X7_count K 7 = r_X3_countOfState (K 0) 1 := by unfold r_X7_count; rw [if_neg (by decide), if_neg (by decide), if_neg (by decide), if_neg (by decide), if_neg (by decide), if_neg (by decide), if_neg (by decide), if_pos rfl]
theorem cnt_8 (K : Nat → jB) : r_X7_count K 8 = r_X3_countOfState (K 0) 2 := by unfold r_X7_count; rw [if_neg (by decide), if_neg (by decide), if_neg (by decide), if_neg (by decide), if_neg (by decide), if_neg (by decide), if_neg (by decide), if_neg (by decide), if_pos rfl]
theorem cnt_9 (K : Nat → jB) : r_X7_count K 9 = r_X3_countOfState (K 0) 3 := by unfold r_X7_count; rw [if_neg (by decide), if_neg (by decide), if_neg (by decide), if_neg (by decide), if_neg (by decide), if_neg (by decide), if_neg (by decide), if_neg (by decide), if_neg (by decide), if_pos rfl]
theorem cnt_10 (K : Nat → jB) : r_X7_count K 10 = K 0 16 4 := by unfold r_X7_count; rw [if_neg (by decide), if_neg (by decide), if_neg (by decide), if_neg (by decide), if_neg (by decide), if_neg (by decide), if_neg (by decide), if_neg (by decide), if_neg (by decide), if_neg (by decide), if_pos rfl]
theorem cnt_11 (K : Nat → jB) : r_X7_count K 11 = K 0 16 5 := by unfold r_X7_count; rw [if_neg (by decide), if_neg (by decide), if_neg (by decide), if_neg (by decide), if_neg (by decide), if_neg (by decide), if_neg (by decide), if_neg (by decide), if_neg (by decide), if_neg (by decide), if_neg (by decide), if_pos rfl]
theorem cnt_12 (K : Nat → jB) : r_X7_count K 12 = K 0 16 6 := by unfold r_X7_count; rw [if_neg (by decide), if_neg (by decide), if_neg (by decide), if_neg (by decide), if_neg (by decide), if_neg (by decide), if_neg (by decide), if_neg (by decide), if_neg (by decide), if_neg (by decide), if_neg (by decide), if_neg (by decide), if_pos rfl]
theorem cnt_13 (K : Nat → jB) : r_X7_count K 13 = K 0 16 7 := by unfold r_X7_count; rw [if_neg (by decide), if_neg (by decide), if_neg (by decide), if_neg (by decide), if_neg (by decide), if_neg (by decide), if_neg (by decide), if_neg (by decide), if_neg (by decide), if_neg (by decide), if_neg (by decide), if_neg (by decide), if_neg (by decide), if_pos rfl]
/-- the invoice that an event speaks of -/
def ixi (v N : Int32) : Int32 := if N = 0 then 0 else r_L_low (v >>> ((4 : Int32) &&& 31)) N
/-- what an event does -/
def Dz (ca : Nat → ClassId) (g : Nat → Nat) (n : Nat) (P : Int32) (K : Nat → jB) (v : Int32) : Option Value → va_W → Prop := fun v' w' => ∃ (r : Int32) (K' : Nat → jB), v' = some (.int r) ∧ w' = fW ca g K' ∧ -5 ≤ r.toInt ∧ St (n + 1) (P + if r_X7_invoice K (ixi v (K 0 16 1)) 4 = 1 then K' 0 16 5 - K 0 16 5 else 0) K' ∧ (v &&& 15 = 6 → 0 ≤ r.toInt → ¬ (K' 0 16 3 < r_X0_reserveCents (K' 0)))
theorem Dz_res {ca : Nat → ClassId} {g : Nat → Nat} {n : Nat} {P : Int32} {K : Nat → jB} {v : Int32} {r : Int32 × (Nat → jB)} (R : Res n P K r) (h6 : v &&& 15 = 6 → 0 ≤ r.1.toInt → ¬ (r.2 0 16 3 < r_X0_reserveCents (r.2 0))) : Dz ca g n P K v (some (.int r.1)) (fW ca g r.2) := by
  refine ⟨r.1, r.2, rfl, rfl, R.1, ?_, h6⟩
  have e : (if r_X7_invoice K (ixi v (K 0 16 1)) 4 = 1 then r.2 0 16 5 - K 0 16 5 else 0) = (0 : Int32) := by
    rw [R.2.2]; split <;> grind
  rw [e, add_zero32]
  exact R.2.1
theorem Dz_pay {ca : Nat → ClassId} {g : Nat → Nat} {n : Nat} {P : Int32} {K : Nat → jB} {v i : Int32} {r : Int32 × (Nat → jB)} {q : Prop} (hi : i = ixi v (K 0 16 1)) (R : q ∧ -5 ≤ r.1.toInt ∧ St (n + 1) (P + if r_X7_invoice K i 4 = 1 then r.2 0 16 5 - K 0 16 5 else 0) r.2) (h6 : v &&& 15 = 6 → 0 ≤ r.1.toInt → ¬ (r.2 0 16 3 < r_X0_reserveCents (r.2 0))) : Dz ca g n P K v (some (.int r.1)) (fW ca g r.2) := by
  subst hi
  exact ⟨r.1, r.2, rfl, rfl, R.2.1, R.2.2, h6⟩
set_option maxRecDepth 100000 in
set_option maxHeartbeats 4000000 in
theorem c_L_cell (l : Launch) (D : va_G) (ca : Nat → ClassId) (b L : Nat) (xs : Nat → Int32) (i : Int32) (hL : L < 2147483648) (h0 : 0 ≤ i.toInt) : jML b L xs l D ca yL_cell cL_cell 2 (some .int) 0 0 [.ref b, .int i] (fun v w => w = [] ∧ ∃ r : Int32, v = some (.int r)) := by
  refine jML_of [(0, .ref b), (1, .int i)] (by decide) (Nat.le_of_ble_eq_true rfl) rfl (fun X C E S0 => ?_)
  refine j_iload_n C dL_cell_0 rfl ?_
  refine j_aload_n C dL_cell_1 rfl ?_
  refine j_slen C S0 dL_cell_2 ?_
  refine j_icmp_ge (tgt := 12) C dL_cell_3 (by decide) (fun (hc : (Int32.ofNat L) ≤ i) => ?_) (fun (hc : ¬ ((Int32.ofNat L) ≤ i)) => ?_)
  · refine j_sipush C dL_cell_12 (7919 : Int32) (by decide) ?_
    refine j_iload_n C dL_cell_15 rfl ?_
    refine j_iconst C dL_cell_16 (3 : Int32) (by decide) ?_
    refine j_iadd C dL_cell_17 ?_
    refine j_imul C dL_cell_18 ?_
    refine j_iload_n C dL_cell_19 rfl ?_
    refine j_bipush C dL_cell_20 (11 : Int32) (by decide) ?_
    refine j_iadd C dL_cell_22 ?_
    refine j_imul C dL_cell_23 ?_
    exact j_iret E dL_cell_24 ⟨rfl, _, rfl⟩
  · refine j_aload_n C dL_cell_6 rfl ?_
    refine j_iload_n C dL_cell_7 rfl ?_
    refine j_sld C S0 dL_cell_8 (vpi_of h0 (by rw [i_le, an_toInt hL] at hc; omega)) ?_
    refine j_goto (tgt := 24) C dL_cell_9 (by decide) ?_
    exact j_iret E dL_cell_24 ⟨rfl, _, rfl⟩
set_option maxRecDepth 100000 in
set_option maxHeartbeats 4000000 in
theorem c_L_does (l : Launch) (D : va_G) (ca : Nat → ClassId) (ts : Nat → Nat) (g : Nat → Nat) (K : Nat → jB) (v : Int32) {n : Nat} {P : Int32} (h : St n P K) (hN : n ≤ 190) : jMS ts l D ca yL_does cL_does 7 (some .int) 7 156 0 0 [.ref (g 0), .int v] (fW ca g K) (Dz ca g n P K v) := by
  refine jMS_of [(0, .ref (g 0)), (1, .int v)] (by decide) (Nat.le_of_ble_eq_true rfl) rfl (fun X C E Sx => ?_)
  have hI := St_I h
  refine j_aload_n C dL_does_0 rfl ?_
  refine j_iconst C dL_does_1 (4 : Int32) (by decide) ?_
  refine j_callViRW C g_L_8 (c_X7_count l D ca g K (4 : Int32)) 0 fW_0 hcl_X7 ⟨Nat.le_of_ble_eq_true rfl, Nat.le_of_ble_eq_true rfl⟩ ⟨Nat.le_of_ble_eq_true rfl, Nat.le_of_ble_eq_true rfl⟩ rfl rfl (Nat.le_of_ble_eq_true rfl) dL_does_2 ?_
  refine j_topi (fun x2 _ => ?_)
  refine j_istore_n C [(2, _), (0, _), (1, _)] dL_does_5 (by decide) rfl ?_
  refine j_aload_n C dL_does_6 rfl ?_
  refine j_iconst C dL_does_7 (5 : Int32) (by decide) ?_
  refine j_callViRW C g_L_8 (c_X7_count l D ca g K (5 : Int32)) 0 fW_0 hcl_X7 ⟨Nat.le_of_ble_eq_true rfl, Nat.le_of_ble_eq_true rfl⟩ ⟨Nat.le_of_ble_eq_true rfl, Nat.le_of_ble_eq_true rfl⟩ rfl rfl (Nat.le_of_ble_eq_true rfl) dL_does_8 ?_
  refine j_sti (y := (K 0 16 1)) (cnt_5 K) ?_
  refine j_istore_n C [(3, _), (2, _), (0, _), (1, _)] dL_does_11 (by decide) rfl ?_
  refine j_iload_n C dL_does_12 rfl ?_
  have K27 : ∀ x4 : Int32, J l { frames := 7, cells := 0, slots := 0, locals := 156 } D 7 X 0 0 (fW ca g K) [(3, .int (K 0 16 1)), (2, .int x2), (0, .ref (g 0)), (1, .int v)] [.int x4] 27 := by
    intro x4
    refine j_istore C [(4, _), (3, _), (2, _), (0, _), (1, _)] dL_does_27 (by decide) rfl ?_
    refine j_iload_n C dL_does_29 rfl ?_
    have K44 : ∀ x5 : Int32, x5 = ixi v (K 0 16 1) → J l { frames := 7, cells := 0, slots := 0, locals := 156 } D 7 X 0 0 (fW ca g K) [(4, .int x4), (3, .int (K 0 16 1)), (2, .int x2), (0, .ref (g 0)), (1, .int v)] [.int x5] 44 := by
      intro x5 hx
      refine j_istore C [(5, _), (4, _), (3, _), (2, _), (0, _), (1, _)] dL_does_44 (by decide) rfl ?_
      refine j_iload_n C dL_does_46 rfl ?_
      refine j_bipush C dL_does_47 (15 : Int32) (by decide) ?_
      refine j_iand C dL_does_49 ?_
      by_cases hj : (v &&& (15 : Int32)) = (0 : Int32)
      · refine j_tabEq (tgt := 116) C hj dL_does_50 (by decide) (by decide) (off := 66) rfl (by decide) ?_
        refine j_aload_n C dL_does_116 rfl ?_
        refine j_iconst C dL_does_117 (1 : Int32) (by decide) ?_
        refine j_iload_n C dL_does_118 rfl ?_
        refine j_iconst C dL_does_119 (4 : Int32) (by decide) ?_
        refine j_ishr C dL_does_120 ?_
        refine j_bipush C dL_does_121 (9 : Int32) (by decide) ?_
        refine j_callSiR C g_L_14 (c_L_low l D ca (v >>> ((4 : Int32) &&& 31)) (9 : Int32) ⟨by decide, trivial⟩) ⟨Nat.le_of_ble_eq_true rfl, Nat.le_of_ble_eq_true rfl⟩ ⟨Nat.le_of_ble_eq_true rfl, Nat.le_of_ble_eq_true rfl⟩ [] rfl rfl rfl rfl (Nat.le_of_ble_eq_true rfl) dL_does_123 ?_
        refine j_iadd C dL_does_126 ?_
        refine j_callViW C g_L_20 (c_X7_addMember l D ca g K ((1 : Int32) + (r_L_low (v >>> ((4 : Int32) &&& 31)) (9 : Int32))) (C_addMember h _).1) 0 fW_0 hcl_X7 ⟨Nat.le_of_ble_eq_true rfl, Nat.le_of_ble_eq_true rfl⟩ ⟨Nat.le_of_ble_eq_true rfl, Nat.le_of_ble_eq_true rfl⟩ rfl rfl (Nat.le_of_ble_eq_true rfl) dL_does_127 fst_f ?_
        exact j_iret E dL_does_130 (Dz_res (C_addMember h _).2 (fun q => absurd (hj.symm.trans q) (by decide)))
      have h50_0 := hj
      clear hj
      by_cases hj : (v &&& (15 : Int32)) = (1 : Int32)
      · refine j_tabEq (tgt := 131) C hj dL_does_50 (by decide) (by decide) (off := 81) rfl (by decide) ?_
        refine j_aload_n C dL_does_131 rfl ?_
        refine j_iload C dL_does_132 rfl ?_
        refine j_iconst C dL_does_134 (1 : Int32) (by decide) ?_
        refine j_iload_n C dL_does_135 rfl ?_
        refine j_bipush C dL_does_136 (6 : Int32) (by decide) ?_
        refine j_ishr C dL_does_138 ?_
        refine j_ldc C q_380 dL_does_139 ?_
        refine j_callSiR C g_L_14 (c_L_low l D ca (v >>> ((6 : Int32) &&& 31)) (1000000 : Int32) ⟨by decide, trivial⟩) ⟨Nat.le_of_ble_eq_true rfl, Nat.le_of_ble_eq_true rfl⟩ ⟨Nat.le_of_ble_eq_true rfl, Nat.le_of_ble_eq_true rfl⟩ [] rfl rfl rfl rfl (Nat.le_of_ble_eq_true rfl) dL_does_141 ?_
        refine j_iadd C dL_does_144 ?_
        refine j_callViW C g_L_24 (c_X7_payDues l D ca g K x4 ((1 : Int32) + (r_L_low (v >>> ((6 : Int32) &&& 31)) (1000000 : Int32))) (C_payDues h _ _).1) 0 fW_0 hcl_X7 ⟨Nat.le_of_ble_eq_true rfl, Nat.le_of_ble_eq_true rfl⟩ ⟨Nat.le_of_ble_eq_true rfl, Nat.le_of_ble_eq_true rfl⟩ rfl rfl (Nat.le_of_ble_eq_true rfl) dL_does_145 fst_f ?_
        exact j_iret E dL_does_148 (Dz_res (C_payDues h _ _).2 (fun q => absurd (hj.symm.trans q) (by decide)))
      have h50_1 := hj
      clear hj
      by_cases hj : (v &&& (15 : Int32)) = (2 : Int32)
      · refine j_tabEq (tgt := 131) C hj dL_does_50 (by decide) (by decide) (off := 81) rfl (by decide) ?_
        refine j_aload_n C dL_does_131 rfl ?_
        refine j_iload C dL_does_132 rfl ?_
        refine j_iconst C dL_does_134 (1 : Int32) (by decide) ?_
        refine j_iload_n C dL_does_135 rfl ?_
        refine j_bipush C dL_does_136 (6 : Int32) (by decide) ?_
        refine j_ishr C dL_does_138 ?_
        refine j_ldc C q_380 dL_does_139 ?_
        refine j_callSiR C g_L_14 (c_L_low l D ca (v >>> ((6 : Int32) &&& 31)) (1000000 : Int32) ⟨by decide, trivial⟩) ⟨Nat.le_of_ble_eq_true rfl, Nat.le_of_ble_eq_true rfl⟩ ⟨Nat.le_of_ble_eq_true rfl, Nat.le_of_ble_eq_true rfl⟩ [] rfl rfl rfl rfl (Nat.le_of_ble_eq_true rfl) dL_does_141 ?_
        refine j_iadd C dL_does_144 ?_
        refine j_callViW C g_L_24 (c_X7_payDues l D ca g K x4 ((1 : Int32) + (r_L_low (v >>> ((6 : Int32) &&& 31)) (1000000 : Int32))) (C_payDues h _ _).1) 0 fW_0 hcl_X7 ⟨Nat.le_of_ble_eq_true rfl, Nat.le_of_ble_eq_true rfl⟩ ⟨Nat.le_of_ble_eq_true rfl, Nat.le_of_ble_eq_true rfl⟩ rfl rfl (Nat.le_of_ble_eq_true rfl) dL_does_145 fst_f ?_
        exact j_iret E dL_does_148 (Dz_res (C_payDues h _ _).2 (fun q => absurd (hj.symm.trans q) (by decide)))
      have h50_2 := hj
      clear hj
      by_cases hj : (v &&& (15 : Int32)) = (3 : Int32)
      · refine j_tabEq (tgt := 149) C hj dL_does_50 (by decide) (by decide) (off := 99) rfl (by decide) ?_
        refine j_aload_n C dL_does_149 rfl ?_
        refine j_iload C dL_does_150 rfl ?_
        refine j_iload_n C dL_does_152 rfl ?_
        refine j_bipush C dL_does_153 (6 : Int32) (by decide) ?_
        refine j_ishr C dL_does_155 ?_
        refine j_bipush C dL_does_156 (6 : Int32) (by decide) ?_
        refine j_callSiR C g_L_14 (c_L_low l D ca (v >>> ((6 : Int32) &&& 31)) (6 : Int32) ⟨by decide, trivial⟩) ⟨Nat.le_of_ble_eq_true rfl, Nat.le_of_ble_eq_true rfl⟩ ⟨Nat.le_of_ble_eq_true rfl, Nat.le_of_ble_eq_true rfl⟩ [] rfl rfl rfl rfl (Nat.le_of_ble_eq_true rfl) dL_does_158 ?_
        refine j_bipush C dL_does_161 (100 : Int32) (by decide) ?_
        refine j_iload_n C dL_does_163 rfl ?_
        refine j_bipush C dL_does_164 (7 : Int32) (by decide) ?_
        refine j_ishr C dL_does_166 ?_
        refine j_ldc C q_388 dL_does_167 ?_
        refine j_callSiR C g_L_14 (c_L_low l D ca (v >>> ((7 : Int32) &&& 31)) (999901 : Int32) ⟨by decide, trivial⟩) ⟨Nat.le_of_ble_eq_true rfl, Nat.le_of_ble_eq_true rfl⟩ ⟨Nat.le_of_ble_eq_true rfl, Nat.le_of_ble_eq_true rfl⟩ [] rfl rfl rfl rfl (Nat.le_of_ble_eq_true rfl) dL_does_169 ?_
        refine j_iadd C dL_does_172 ?_
        refine j_aload_n C dL_does_173 rfl ?_
        refine j_iconst C dL_does_174 (0 : Int32) (by decide) ?_
        refine j_callViRW C g_L_8 (c_X7_count l D ca g K (0 : Int32)) 0 fW_0 hcl_X7 ⟨Nat.le_of_ble_eq_true rfl, Nat.le_of_ble_eq_true rfl⟩ ⟨Nat.le_of_ble_eq_true rfl, Nat.le_of_ble_eq_true rfl⟩ rfl rfl (Nat.le_of_ble_eq_true rfl) dL_does_175 ?_
        refine j_iload_n C dL_does_178 rfl ?_
        refine j_bipush C dL_does_179 (9 : Int32) (by decide) ?_
        refine j_ishr C dL_does_181 ?_
        refine j_bipush C dL_does_182 (30 : Int32) (by decide) ?_
        refine j_callSiR C g_L_14 (c_L_low l D ca (v >>> ((9 : Int32) &&& 31)) (30 : Int32) ⟨by decide, trivial⟩) ⟨Nat.le_of_ble_eq_true rfl, Nat.le_of_ble_eq_true rfl⟩ ⟨Nat.le_of_ble_eq_true rfl, Nat.le_of_ble_eq_true rfl⟩ [] rfl rfl rfl rfl (Nat.le_of_ble_eq_true rfl) dL_does_184 ?_
        refine j_iadd C dL_does_187 ?_
        refine j_callViW C g_L_28 (c_X7_addInvoice l D ca g K x4 (r_L_low (v >>> ((6 : Int32) &&& 31)) (6 : Int32)) ((100 : Int32) + (r_L_low (v >>> ((7 : Int32) &&& 31)) (999901 : Int32))) ((r_X7_count K (0 : Int32)) + (r_L_low (v >>> ((9 : Int32) &&& 31)) (30 : Int32))) (C_addInvoice h _ _ _ _).1) 0 fW_0 hcl_X7 ⟨Nat.le_of_ble_eq_true rfl, Nat.le_of_ble_eq_true rfl⟩ ⟨Nat.le_of_ble_eq_true rfl, Nat.le_of_ble_eq_true rfl⟩ rfl rfl (Nat.le_of_ble_eq_true rfl) dL_does_188 fst_f ?_
        exact j_iret E dL_does_191 (Dz_res (C_addInvoice h _ _ _ _).2 (fun q => absurd (hj.symm.trans q) (by decide)))
      have h50_3 := hj
      clear hj
      by_cases hj : (v &&& (15 : Int32)) = (4 : Int32)
      · refine j_tabEq (tgt := 149) C hj dL_does_50 (by decide) (by decide) (off := 99) rfl (by decide) ?_
        refine j_aload_n C dL_does_149 rfl ?_
        refine j_iload C dL_does_150 rfl ?_
        refine j_iload_n C dL_does_152 rfl ?_
        refine j_bipush C dL_does_153 (6 : Int32) (by decide) ?_
        refine j_ishr C dL_does_155 ?_
        refine j_bipush C dL_does_156 (6 : Int32) (by decide) ?_
        refine j_callSiR C g_L_14 (c_L_low l D ca (v >>> ((6 : Int32) &&& 31)) (6 : Int32) ⟨by decide, trivial⟩) ⟨Nat.le_of_ble_eq_true rfl, Nat.le_of_ble_eq_true rfl⟩ ⟨Nat.le_of_ble_eq_true rfl, Nat.le_of_ble_eq_true rfl⟩ [] rfl rfl rfl rfl (Nat.le_of_ble_eq_true rfl) dL_does_158 ?_
        refine j_bipush C dL_does_161 (100 : Int32) (by decide) ?_
        refine j_iload_n C dL_does_163 rfl ?_
        refine j_bipush C dL_does_164 (7 : Int32) (by decide) ?_
        refine j_ishr C dL_does_166 ?_
        refine j_ldc C q_388 dL_does_167 ?_
        refine j_callSiR C g_L_14 (c_L_low l D ca (v >>> ((7 : Int32) &&& 31)) (999901 : Int32) ⟨by decide, trivial⟩) ⟨Nat.le_of_ble_eq_true rfl, Nat.le_of_ble_eq_true rfl⟩ ⟨Nat.le_of_ble_eq_true rfl, Nat.le_of_ble_eq_true rfl⟩ [] rfl rfl rfl rfl (Nat.le_of_ble_eq_true rfl) dL_does_169 ?_
        refine j_iadd C dL_does_172 ?_
        refine j_aload_n C dL_does_173 rfl ?_
        refine j_iconst C dL_does_174 (0 : Int32) (by decide) ?_
        refine j_callViRW C g_L_8 (c_X7_count l D ca g K (0 : Int32)) 0 fW_0 hcl_X7 ⟨Nat.le_of_ble_eq_true rfl, Nat.le_of_ble_eq_true rfl⟩ ⟨Nat.le_of_ble_eq_true rfl, Nat.le_of_ble_eq_true rfl⟩ rfl rfl (Nat.le_of_ble_eq_true rfl) dL_does_175 ?_
        refine j_iload_n C dL_does_178 rfl ?_
        refine j_bipush C dL_does_179 (9 : Int32) (by decide) ?_
        refine j_ishr C dL_does_181 ?_
        refine j_bipush C dL_does_182 (30 : Int32) (by decide) ?_
        refine j_callSiR C g_L_14 (c_L_low l D ca (v >>> ((9 : Int32) &&& 31)) (30 : Int32) ⟨by decide, trivial⟩) ⟨Nat.le_of_ble_eq_true rfl, Nat.le_of_ble_eq_true rfl⟩ ⟨Nat.le_of_ble_eq_true rfl, Nat.le_of_ble_eq_true rfl⟩ [] rfl rfl rfl rfl (Nat.le_of_ble_eq_true rfl) dL_does_184 ?_
        refine j_iadd C dL_does_187 ?_
        refine j_callViW C g_L_28 (c_X7_addInvoice l D ca g K x4 (r_L_low (v >>> ((6 : Int32) &&& 31)) (6 : Int32)) ((100 : Int32) + (r_L_low (v >>> ((7 : Int32) &&& 31)) (999901 : Int32))) ((r_X7_count K (0 : Int32)) + (r_L_low (v >>> ((9 : Int32) &&& 31)) (30 : Int32))) (C_addInvoice h _ _ _ _).1) 0 fW_0 hcl_X7 ⟨Nat.le_of_ble_eq_true rfl, Nat.le_of_ble_eq_true rfl⟩ ⟨Nat.le_of_ble_eq_true rfl, Nat.le_of_ble_eq_true rfl⟩ rfl rfl (Nat.le_of_ble_eq_true rfl) dL_does_188 fst_f ?_
        exact j_iret E dL_does_191 (Dz_res (C_addInvoice h _ _ _ _).2 (fun q => absurd (hj.symm.trans q) (by decide)))
      have h50_4 := hj
      clear hj
      by_cases hj : (v &&& (15 : Int32)) = (5 : Int32)
      · refine j_tabEq (tgt := 149) C hj dL_does_50 (by decide) (by decide) (off := 99) rfl (by decide) ?_
        refine j_aload_n C dL_does_149 rfl ?_
        refine j_iload C dL_does_150 rfl ?_
        refine j_iload_n C dL_does_152 rfl ?_
        refine j_bipush C dL_does_153 (6 : Int32) (by decide) ?_
        refine j_ishr C dL_does_155 ?_
        refine j_bipush C dL_does_156 (6 : Int32) (by decide) ?_
        refine j_callSiR C g_L_14 (c_L_low l D ca (v >>> ((6 : Int32) &&& 31)) (6 : Int32) ⟨by decide, trivial⟩) ⟨Nat.le_of_ble_eq_true rfl, Nat.le_of_ble_eq_true rfl⟩ ⟨Nat.le_of_ble_eq_true rfl, Nat.le_of_ble_eq_true rfl⟩ [] rfl rfl rfl rfl (Nat.le_of_ble_eq_true rfl) dL_does_158 ?_
        refine j_bipush C dL_does_161 (100 : Int32) (by decide) ?_
        refine j_iload_n C dL_does_163 rfl ?_
        refine j_bipush C dL_does_164 (7 : Int32) (by decide) ?_
        refine j_ishr C dL_does_166 ?_
        refine j_ldc C q_388 dL_does_167 ?_
        refine j_callSiR C g_L_14 (c_L_low l D ca (v >>> ((7 : Int32) &&& 31)) (999901 : Int32) ⟨by decide, trivial⟩) ⟨Nat.le_of_ble_eq_true rfl, Nat.le_of_ble_eq_true rfl⟩ ⟨Nat.le_of_ble_eq_true rfl, Nat.le_of_ble_eq_true rfl⟩ [] rfl rfl rfl rfl (Nat.le_of_ble_eq_true rfl) dL_does_169 ?_
        refine j_iadd C dL_does_172 ?_
        refine j_aload_n C dL_does_173 rfl ?_
        refine j_iconst C dL_does_174 (0 : Int32) (by decide) ?_
        refine j_callViRW C g_L_8 (c_X7_count l D ca g K (0 : Int32)) 0 fW_0 hcl_X7 ⟨Nat.le_of_ble_eq_true rfl, Nat.le_of_ble_eq_true rfl⟩ ⟨Nat.le_of_ble_eq_true rfl, Nat.le_of_ble_eq_true rfl⟩ rfl rfl (Nat.le_of_ble_eq_true rfl) dL_does_175 ?_
        refine j_iload_n C dL_does_178 rfl ?_
        refine j_bipush C dL_does_179 (9 : Int32) (by decide) ?_
        refine j_ishr C dL_does_181 ?_
        refine j_bipush C dL_does_182 (30 : Int32) (by decide) ?_
        refine j_callSiR C g_L_14 (c_L_low l D ca (v >>> ((9 : Int32) &&& 31)) (30 : Int32) ⟨by decide, trivial⟩) ⟨Nat.le_of_ble_eq_true rfl, Nat.le_of_ble_eq_true rfl⟩ ⟨Nat.le_of_ble_eq_true rfl, Nat.le_of_ble_eq_true rfl⟩ [] rfl rfl rfl rfl (Nat.le_of_ble_eq_true rfl) dL_does_184 ?_
        refine j_iadd C dL_does_187 ?_
        refine j_callViW C g_L_28 (c_X7_addInvoice l D ca g K x4 (r_L_low (v >>> ((6 : Int32) &&& 31)) (6 : Int32)) ((100 : Int32) + (r_L_low (v >>> ((7 : Int32) &&& 31)) (999901 : Int32))) ((r_X7_count K (0 : Int32)) + (r_L_low (v >>> ((9 : Int32) &&& 31)) (30 : Int32))) (C_addInvoice h _ _ _ _).1) 0 fW_0 hcl_X7 ⟨Nat.le_of_ble_eq_true rfl, Nat.le_of_ble_eq_true rfl⟩ ⟨Nat.le_of_ble_eq_true rfl, Nat.le_of_ble_eq_true rfl⟩ rfl rfl (Nat.le_of_ble_eq_true rfl) dL_does_188 fst_f ?_
        exact j_iret E dL_does_191 (Dz_res (C_addInvoice h _ _ _ _).2 (fun q => absurd (hj.symm.trans q) (by decide)))
      have h50_5 := hj
      clear hj
      by_cases hj : (v &&& (15 : Int32)) = (6 : Int32)
      · refine j_tabEq (tgt := 192) C hj dL_does_50 (by decide) (by decide) (off := 142) rfl (by decide) ?_
        refine j_aload_n C dL_does_192 rfl ?_
        refine j_iload C dL_does_193 rfl ?_
        refine j_callViW C g_L_32 (c_X7_payAhead l D ca g K x5 (C_payAhead h (by omega) _).1) 0 fW_0 hcl_X7 ⟨Nat.le_of_ble_eq_true rfl, Nat.le_of_ble_eq_true rfl⟩ ⟨Nat.le_of_ble_eq_true rfl, Nat.le_of_ble_eq_true rfl⟩ rfl rfl (Nat.le_of_ble_eq_true rfl) dL_does_195 fst_f ?_
        exact j_iret E dL_does_198 (Dz_res (C_payAhead h (by omega) _).2.1 (fun _ q => (C_payAhead h (by omega) _).2.2 q))
      have h50_6 := hj
      clear hj
      by_cases hj : (v &&& (15 : Int32)) = (7 : Int32)
      · refine j_tabEq (tgt := 192) C hj dL_does_50 (by decide) (by decide) (off := 142) rfl (by decide) ?_
        refine j_aload_n C dL_does_192 rfl ?_
        refine j_iload C dL_does_193 rfl ?_
        refine j_callViW C g_L_32 (c_X7_payAhead l D ca g K x5 (C_payAhead h (by omega) _).1) 0 fW_0 hcl_X7 ⟨Nat.le_of_ble_eq_true rfl, Nat.le_of_ble_eq_true rfl⟩ ⟨Nat.le_of_ble_eq_true rfl, Nat.le_of_ble_eq_true rfl⟩ rfl rfl (Nat.le_of_ble_eq_true rfl) dL_does_195 fst_f ?_
        exact j_iret E dL_does_198 (Dz_res (C_payAhead h (by omega) _).2.1 (fun q => absurd (hj.symm.trans q) (by decide)))
      have h50_7 := hj
      clear hj
      by_cases hj : (v &&& (15 : Int32)) = (8 : Int32)
      · refine j_tabEq (tgt := 199) C hj dL_does_50 (by decide) (by decide) (off := 149) rfl (by decide) ?_
        refine j_iload_n C dL_does_199 rfl ?_
        have K222 : ∀ x6 : Int32, J l { frames := 7, cells := 0, slots := 0, locals := 156 } D 7 X 0 0 (fW ca g K) [(5, .int x5), (4, .int x4), (3, .int (K 0 16 1)), (2, .int x2), (0, .ref (g 0)), (1, .int v)] [.int x6] 222 := by
          intro x6
          refine j_istore C [(6, _), (5, _), (4, _), (3, _), (2, _), (0, _), (1, _)] dL_does_222 (by decide) rfl ?_
          refine j_aload_n C dL_does_224 rfl ?_
          refine j_iload C dL_does_225 rfl ?_
          refine j_iload_n C dL_does_227 rfl ?_
          refine j_bipush C dL_does_228 (9 : Int32) (by decide) ?_
          refine j_ishr C dL_does_230 ?_
          refine j_iconst C dL_does_231 (1 : Int32) (by decide) ?_
          refine j_iand C dL_does_232 ?_
          have K261 : ∀ c : Int32, J l { frames := 7, cells := 0, slots := 0, locals := 156 } D 7 X 0 0 (fW ca g K) [(6, .int x6), (5, .int x5), (4, .int x4), (3, .int (K 0 16 1)), (2, .int x2), (0, .ref (g 0)), (1, .int v)] [.int c, .int x5, .ref (g 0)] 261 := by
            intro c
            refine j_callViW C g_L_38 (c_X7_pay l D ca g K x5 c (C_pay h (by omega) _ _).1) 0 fW_0 hcl_X7 ⟨Nat.le_of_ble_eq_true rfl, Nat.le_of_ble_eq_true rfl⟩ ⟨Nat.le_of_ble_eq_true rfl, Nat.le_of_ble_eq_true rfl⟩ rfl rfl (Nat.le_of_ble_eq_true rfl) dL_does_261 fst_f ?_
            exact j_iret E dL_does_264 (Dz_pay hx (C_pay h (by omega) x5 c) (fun q => absurd (hj.symm.trans q) (by decide)))
          refine j_if_ne (tgt := 241) C dL_does_233 (by decide) (fun (h233 : ¬ (((v >>> ((9 : Int32) &&& 31)) &&& (1 : Int32)) = (0 : Int32))) => ?_) (fun (h233 : ((v >>> ((9 : Int32) &&& 31)) &&& (1 : Int32)) = (0 : Int32)) => ?_)
          · refine j_iconst C dL_does_241 (1 : Int32) (by decide) ?_
            refine j_iload_n C dL_does_242 rfl ?_
            refine j_bipush C dL_does_243 (10 : Int32) (by decide) ?_
            refine j_ishr C dL_does_245 ?_
            refine j_iload C dL_does_246 rfl ?_
            have K257 : ∀ x7 : Int32, ¬ x7 = 0 → J l { frames := 7, cells := 0, slots := 0, locals := 156 } D 7 X 0 0 (fW ca g K) [(6, .int x6), (5, .int x5), (4, .int x4), (3, .int (K 0 16 1)), (2, .int x2), (0, .ref (g 0)), (1, .int v)] [.int x7, .int (v >>> ((10 : Int32) &&& 31)), .int (1 : Int32), .int x5, .ref (g 0)] 257 := by
              intro x7 hx
              refine j_callSiR C g_L_14 (c_L_low l D ca (v >>> ((10 : Int32) &&& 31)) x7 ⟨hx, trivial⟩) ⟨Nat.le_of_ble_eq_true rfl, Nat.le_of_ble_eq_true rfl⟩ ⟨Nat.le_of_ble_eq_true rfl, Nat.le_of_ble_eq_true rfl⟩ [] rfl rfl rfl rfl (Nat.le_of_ble_eq_true rfl) dL_does_257 ?_
              refine j_iadd C dL_does_260 ?_
              exact K261 _
            refine j_if_ne (tgt := 255) C dL_does_248 (by decide) (fun (h248 : ¬ (x6 = (0 : Int32))) => ?_) (fun (h248 : x6 = (0 : Int32)) => ?_)
            · refine j_iload C dL_does_255 rfl ?_
              exact K257 _ h248
            · refine j_iconst C dL_does_251 (1 : Int32) (by decide) ?_
              refine j_goto (tgt := 257) C dL_does_252 (by decide) ?_
              exact K257 _ (by decide)
          · refine j_iload C dL_does_236 rfl ?_
            refine j_goto (tgt := 261) C dL_does_238 (by decide) ?_
            exact K261 _
        refine j_if_ne (tgt := 207) C dL_does_200 (by decide) (fun (h200 : ¬ ((K 0 16 1) = (0 : Int32))) => ?_) (fun (h200 : (K 0 16 1) = (0 : Int32)) => ?_)
        · refine j_aload_n C dL_does_207 rfl ?_
          refine j_iload C dL_does_208 rfl ?_
          refine j_iconst C dL_does_210 (2 : Int32) (by decide) ?_
          refine j_callViRW C g_L_35 (c_X7_invoice l D ca g K x5 (2 : Int32) (n_invoice hI (by omega) _ _)) 0 fW_0 hcl_X7 ⟨Nat.le_of_ble_eq_true rfl, Nat.le_of_ble_eq_true rfl⟩ ⟨Nat.le_of_ble_eq_true rfl, Nat.le_of_ble_eq_true rfl⟩ rfl rfl (Nat.le_of_ble_eq_true rfl) dL_does_211 ?_
          refine j_aload_n C dL_does_214 rfl ?_
          refine j_iload C dL_does_215 rfl ?_
          refine j_iconst C dL_does_217 (5 : Int32) (by decide) ?_
          refine j_callViRW C g_L_35 (c_X7_invoice l D ca g K x5 (5 : Int32) (n_invoice hI (by omega) _ _)) 0 fW_0 hcl_X7 ⟨Nat.le_of_ble_eq_true rfl, Nat.le_of_ble_eq_true rfl⟩ ⟨Nat.le_of_ble_eq_true rfl, Nat.le_of_ble_eq_true rfl⟩ rfl rfl (Nat.le_of_ble_eq_true rfl) dL_does_218 ?_
          refine j_isub C dL_does_221 ?_
          exact K222 _
        · refine j_iconst C dL_does_203 (1 : Int32) (by decide) ?_
          refine j_goto (tgt := 222) C dL_does_204 (by decide) ?_
          exact K222 _
      have h50_8 := hj
      clear hj
      by_cases hj : (v &&& (15 : Int32)) = (9 : Int32)
      · refine j_tabEq (tgt := 199) C hj dL_does_50 (by decide) (by decide) (off := 149) rfl (by decide) ?_
        refine j_iload_n C dL_does_199 rfl ?_
        have K222 : ∀ x6 : Int32, J l { frames := 7, cells := 0, slots := 0, locals := 156 } D 7 X 0 0 (fW ca g K) [(5, .int x5), (4, .int x4), (3, .int (K 0 16 1)), (2, .int x2), (0, .ref (g 0)), (1, .int v)] [.int x6] 222 := by
          intro x6
          refine j_istore C [(6, _), (5, _), (4, _), (3, _), (2, _), (0, _), (1, _)] dL_does_222 (by decide) rfl ?_
          refine j_aload_n C dL_does_224 rfl ?_
          refine j_iload C dL_does_225 rfl ?_
          refine j_iload_n C dL_does_227 rfl ?_
          refine j_bipush C dL_does_228 (9 : Int32) (by decide) ?_
          refine j_ishr C dL_does_230 ?_
          refine j_iconst C dL_does_231 (1 : Int32) (by decide) ?_
          refine j_iand C dL_does_232 ?_
          have K261 : ∀ c : Int32, J l { frames := 7, cells := 0, slots := 0, locals := 156 } D 7 X 0 0 (fW ca g K) [(6, .int x6), (5, .int x5), (4, .int x4), (3, .int (K 0 16 1)), (2, .int x2), (0, .ref (g 0)), (1, .int v)] [.int c, .int x5, .ref (g 0)] 261 := by
            intro c
            refine j_callViW C g_L_38 (c_X7_pay l D ca g K x5 c (C_pay h (by omega) _ _).1) 0 fW_0 hcl_X7 ⟨Nat.le_of_ble_eq_true rfl, Nat.le_of_ble_eq_true rfl⟩ ⟨Nat.le_of_ble_eq_true rfl, Nat.le_of_ble_eq_true rfl⟩ rfl rfl (Nat.le_of_ble_eq_true rfl) dL_does_261 fst_f ?_
            exact j_iret E dL_does_264 (Dz_pay hx (C_pay h (by omega) x5 c) (fun q => absurd (hj.symm.trans q) (by decide)))
          refine j_if_ne (tgt := 241) C dL_does_233 (by decide) (fun (h233 : ¬ (((v >>> ((9 : Int32) &&& 31)) &&& (1 : Int32)) = (0 : Int32))) => ?_) (fun (h233 : ((v >>> ((9 : Int32) &&& 31)) &&& (1 : Int32)) = (0 : Int32)) => ?_)
          · refine j_iconst C dL_does_241 (1 : Int32) (by decide) ?_
            refine j_iload_n C dL_does_242 rfl ?_
            refine j_bipush C dL_does_243 (10 : Int32) (by decide) ?_
            refine j_ishr C dL_does_245 ?_
            refine j_iload C dL_does_246 rfl ?_
            have K257 : ∀ x7 : Int32, ¬ x7 = 0 → J l { frames := 7, cells := 0, slots := 0, locals := 156 } D 7 X 0 0 (fW ca g K) [(6, .int x6), (5, .int x5), (4, .int x4), (3, .int (K 0 16 1)), (2, .int x2), (0, .ref (g 0)), (1, .int v)] [.int x7, .int (v >>> ((10 : Int32) &&& 31)), .int (1 : Int32), .int x5, .ref (g 0)] 257 := by
              intro x7 hx
              refine j_callSiR C g_L_14 (c_L_low l D ca (v >>> ((10 : Int32) &&& 31)) x7 ⟨hx, trivial⟩) ⟨Nat.le_of_ble_eq_true rfl, Nat.le_of_ble_eq_true rfl⟩ ⟨Nat.le_of_ble_eq_true rfl, Nat.le_of_ble_eq_true rfl⟩ [] rfl rfl rfl rfl (Nat.le_of_ble_eq_true rfl) dL_does_257 ?_
              refine j_iadd C dL_does_260 ?_
              exact K261 _
            refine j_if_ne (tgt := 255) C dL_does_248 (by decide) (fun (h248 : ¬ (x6 = (0 : Int32))) => ?_) (fun (h248 : x6 = (0 : Int32)) => ?_)
            · refine j_iload C dL_does_255 rfl ?_
              exact K257 _ h248
            · refine j_iconst C dL_does_251 (1 : Int32) (by decide) ?_
              refine j_goto (tgt := 257) C dL_does_252 (by decide) ?_
              exact K257 _ (by decide)
          · refine j_iload C dL_does_236 rfl ?_
            refine j_goto (tgt := 261) C dL_does_238 (by decide) ?_
            exact K261 _
        refine j_if_ne (tgt := 207) C dL_does_200 (by decide) (fun (h200 : ¬ ((K 0 16 1) = (0 : Int32))) => ?_) (fun (h200 : (K 0 16 1) = (0 : Int32)) => ?_)
        · refine j_aload_n C dL_does_207 rfl ?_
          refine j_iload C dL_does_208 rfl ?_
          refine j_iconst C dL_does_210 (2 : Int32) (by decide) ?_
          refine j_callViRW C g_L_35 (c_X7_invoice l D ca g K x5 (2 : Int32) (n_invoice hI (by omega) _ _)) 0 fW_0 hcl_X7 ⟨Nat.le_of_ble_eq_true rfl, Nat.le_of_ble_eq_true rfl⟩ ⟨Nat.le_of_ble_eq_true rfl, Nat.le_of_ble_eq_true rfl⟩ rfl rfl (Nat.le_of_ble_eq_true rfl) dL_does_211 ?_
          refine j_aload_n C dL_does_214 rfl ?_
          refine j_iload C dL_does_215 rfl ?_
          refine j_iconst C dL_does_217 (5 : Int32) (by decide) ?_
          refine j_callViRW C g_L_35 (c_X7_invoice l D ca g K x5 (5 : Int32) (n_invoice hI (by omega) _ _)) 0 fW_0 hcl_X7 ⟨Nat.le_of_ble_eq_true rfl, Nat.le_of_ble_eq_true rfl⟩ ⟨Nat.le_of_ble_eq_true rfl, Nat.le_of_ble_eq_true rfl⟩ rfl rfl (Nat.le_of_ble_eq_true rfl) dL_does_218 ?_
          refine j_isub C dL_does_221 ?_
          exact K222 _
        · refine j_iconst C dL_does_203 (1 : Int32) (by decide) ?_
          refine j_goto (tgt := 222) C dL_does_204 (by decide) ?_
          exact K222 _
      have h50_9 := hj
      clear hj
      by_cases hj : (v &&& (15 : Int32)) = (10 : Int32)
      · refine j_tabEq (tgt := 265) C hj dL_does_50 (by decide) (by decide) (off := 215) rfl (by decide) ?_
        refine j_aload_n C dL_does_265 rfl ?_
        refine j_iload C dL_does_266 rfl ?_
        refine j_callViW C g_L_41 (c_X7_giveUp l D ca g K x5 (C_giveUp h (by omega) _).1) 0 fW_0 hcl_X7 ⟨Nat.le_of_ble_eq_true rfl, Nat.le_of_ble_eq_true rfl⟩ ⟨Nat.le_of_ble_eq_true rfl, Nat.le_of_ble_eq_true rfl⟩ rfl rfl (Nat.le_of_ble_eq_true rfl) dL_does_268 fst_f ?_
        exact j_iret E dL_does_271 (Dz_res (C_giveUp h (by omega) _).2 (fun q => absurd (hj.symm.trans q) (by decide)))
      have h50_10 := hj
      clear hj
      by_cases hj : (v &&& (15 : Int32)) = (11 : Int32)
      · refine j_tabEq (tgt := 272) C hj dL_does_50 (by decide) (by decide) (off := 222) rfl (by decide) ?_
        refine j_aload_n C dL_does_272 rfl ?_
        refine j_iload_n C dL_does_273 rfl ?_
        refine j_iconst C dL_does_274 (4 : Int32) (by decide) ?_
        refine j_ishr C dL_does_275 ?_
        refine j_iconst C dL_does_276 (3 : Int32) (by decide) ?_
        refine j_callSiR C g_L_14 (c_L_low l D ca (v >>> ((4 : Int32) &&& 31)) (3 : Int32) ⟨by decide, trivial⟩) ⟨Nat.le_of_ble_eq_true rfl, Nat.le_of_ble_eq_true rfl⟩ ⟨Nat.le_of_ble_eq_true rfl, Nat.le_of_ble_eq_true rfl⟩ [] rfl rfl rfl rfl (Nat.le_of_ble_eq_true rfl) dL_does_277 ?_
        refine j_iload_n C dL_does_280 rfl ?_
        refine j_bipush C dL_does_281 (6 : Int32) (by decide) ?_
        refine j_ishr C dL_does_283 ?_
        refine j_bipush C dL_does_284 (120 : Int32) (by decide) ?_
        refine j_callSiR C g_L_14 (c_L_low l D ca (v >>> ((6 : Int32) &&& 31)) (120 : Int32) ⟨by decide, trivial⟩) ⟨Nat.le_of_ble_eq_true rfl, Nat.le_of_ble_eq_true rfl⟩ ⟨Nat.le_of_ble_eq_true rfl, Nat.le_of_ble_eq_true rfl⟩ [] rfl rfl rfl rfl (Nat.le_of_ble_eq_true rfl) dL_does_286 ?_
        refine j_callVX C Sx g_L_44 (c_X7_setNumber l D ca ts g K (r_L_low (v >>> ((4 : Int32) &&& 31)) (3 : Int32)) (r_L_low (v >>> ((6 : Int32) &&& 31)) (120 : Int32)) (C_setNumber h _ _).1) 0 fW_0 hcl_X7 ⟨Nat.le_of_ble_eq_true rfl, Nat.le_of_ble_eq_true rfl⟩ ⟨Nat.le_of_ble_eq_true rfl, Nat.le_of_ble_eq_true rfl⟩ rfl rfl (Nat.le_of_ble_eq_true rfl) dL_does_289 (fun v9 w9 hp => by rw [hp.2]; exact fst_f) (fun v9 w9 hp => ?_)
        obtain ⟨rfl, rfl⟩ := hp
        exact j_iret E dL_does_292 (Dz_res (C_setNumber h _ _).2 (fun q => absurd (hj.symm.trans q) (by decide)))
      have h50_11 := hj
      clear hj
      by_cases hj : (v &&& (15 : Int32)) = (12 : Int32)
      · refine j_tabEq (tgt := 293) C hj dL_does_50 (by decide) (by decide) (off := 243) rfl (by decide) ?_
        refine j_aload_n C dL_does_293 rfl ?_
        refine j_iload_n C dL_does_294 rfl ?_
        refine j_iconst C dL_does_295 (4 : Int32) (by decide) ?_
        refine j_ishr C dL_does_296 ?_
        refine j_iconst C dL_does_297 (3 : Int32) (by decide) ?_
        refine j_callSiR C g_L_14 (c_L_low l D ca (v >>> ((4 : Int32) &&& 31)) (3 : Int32) ⟨by decide, trivial⟩) ⟨Nat.le_of_ble_eq_true rfl, Nat.le_of_ble_eq_true rfl⟩ ⟨Nat.le_of_ble_eq_true rfl, Nat.le_of_ble_eq_true rfl⟩ [] rfl rfl rfl rfl (Nat.le_of_ble_eq_true rfl) dL_does_298 ?_
        refine j_iload_n C dL_does_301 rfl ?_
        refine j_bipush C dL_does_302 (6 : Int32) (by decide) ?_
        refine j_ishr C dL_does_304 ?_
        refine j_iconst C dL_does_305 (1 : Int32) (by decide) ?_
        refine j_iand C dL_does_306 ?_
        have K334 : ∀ bb : Int32, J l { frames := 7, cells := 0, slots := 0, locals := 156 } D 7 X 0 0 (fW ca g K) [(5, .int x5), (4, .int x4), (3, .int (K 0 16 1)), (2, .int x2), (0, .ref (g 0)), (1, .int v)] [.int bb, .int (r_L_low (v >>> ((4 : Int32) &&& 31)) (3 : Int32)), .ref (g 0)] 334 := by
          intro bb
          refine j_callVX C Sx g_L_50 (c_X7_setRate l D ca ts g K (r_L_low (v >>> ((4 : Int32) &&& 31)) (3 : Int32)) bb (C_setRate h _ _).1) 0 fW_0 hcl_X7 ⟨Nat.le_of_ble_eq_true rfl, Nat.le_of_ble_eq_true rfl⟩ ⟨Nat.le_of_ble_eq_true rfl, Nat.le_of_ble_eq_true rfl⟩ rfl rfl (Nat.le_of_ble_eq_true rfl) dL_does_334 (fun v9 w9 hp => by rw [hp.2]; exact fst_f) (fun v9 w9 hp => ?_)
          obtain ⟨rfl, rfl⟩ := hp
          exact j_iret E dL_does_337 (Dz_res (C_setRate h _ _).2 (fun q => absurd (hj.symm.trans q) (by decide)))
        refine j_if_ne (tgt := 325) C dL_does_307 (by decide) (fun (h307 : ¬ (((v >>> ((6 : Int32) &&& 31)) &&& (1 : Int32)) = (0 : Int32))) => ?_) (fun (h307 : ((v >>> ((6 : Int32) &&& 31)) &&& (1 : Int32)) = (0 : Int32)) => ?_)
        · refine j_iload_n C dL_does_325 rfl ?_
          refine j_bipush C dL_does_326 (7 : Int32) (by decide) ?_
          refine j_ishr C dL_does_328 ?_
          refine j_ldc C q_469 dL_does_329 ?_
          refine j_callSiR C g_L_14 (c_L_low l D ca (v >>> ((7 : Int32) &&& 31)) (1065353216 : Int32) ⟨by decide, trivial⟩) ⟨Nat.le_of_ble_eq_true rfl, Nat.le_of_ble_eq_true rfl⟩ ⟨Nat.le_of_ble_eq_true rfl, Nat.le_of_ble_eq_true rfl⟩ [] rfl rfl rfl rfl (Nat.le_of_ble_eq_true rfl) dL_does_331 ?_
          exact K334 _
        · refine j_ldc C q_467 dL_does_310 ?_
          refine j_iload_n C dL_does_312 rfl ?_
          refine j_bipush C dL_does_313 (7 : Int32) (by decide) ?_
          refine j_ishr C dL_does_315 ?_
          refine j_ldc C q_468 dL_does_316 ?_
          refine j_callSiR C g_L_14 (c_L_low l D ca (v >>> ((7 : Int32) &&& 31)) (37748736 : Int32) ⟨by decide, trivial⟩) ⟨Nat.le_of_ble_eq_true rfl, Nat.le_of_ble_eq_true rfl⟩ ⟨Nat.le_of_ble_eq_true rfl, Nat.le_of_ble_eq_true rfl⟩ [] rfl rfl rfl rfl (Nat.le_of_ble_eq_true rfl) dL_does_318 ?_
          refine j_iadd C dL_does_321 ?_
          refine j_goto (tgt := 334) C dL_does_322 (by decide) ?_
          exact K334 _
      have h50_12 := hj
      clear hj
      refine j_tabOut (tgt := 338) C dL_does_50 (by have e0 := tab_ne h50_0 0 rfl; have e1 := tab_ne h50_1 1 rfl; have e2 := tab_ne h50_2 2 rfl; have e3 := tab_ne h50_3 3 rfl; have e4 := tab_ne h50_4 4 rfl; have e5 := tab_ne h50_5 5 rfl; have e6 := tab_ne h50_6 6 rfl; have e7 := tab_ne h50_7 7 rfl; have e8 := tab_ne h50_8 8 rfl; have e9 := tab_ne h50_9 9 rfl; have e10 := tab_ne h50_10 10 rfl; have e11 := tab_ne h50_11 11 rfl; have e12 := tab_ne h50_12 12 rfl; omega) (by decide) ?_
      refine j_aload_n C dL_does_338 rfl ?_
      refine j_iconst C dL_does_339 (1 : Int32) (by decide) ?_
      refine j_iload_n C dL_does_340 rfl ?_
      refine j_iconst C dL_does_341 (4 : Int32) (by decide) ?_
      refine j_ishr C dL_does_342 ?_
      refine j_bipush C dL_does_343 (60 : Int32) (by decide) ?_
      refine j_callSiR C g_L_14 (c_L_low l D ca (v >>> ((4 : Int32) &&& 31)) (60 : Int32) ⟨by decide, trivial⟩) ⟨Nat.le_of_ble_eq_true rfl, Nat.le_of_ble_eq_true rfl⟩ ⟨Nat.le_of_ble_eq_true rfl, Nat.le_of_ble_eq_true rfl⟩ [] rfl rfl rfl rfl (Nat.le_of_ble_eq_true rfl) dL_does_345 ?_
      refine j_iadd C dL_does_348 ?_
      refine j_callViW C g_L_53 (c_X7_pass l D ca g K ((1 : Int32) + (r_L_low (v >>> ((4 : Int32) &&& 31)) (60 : Int32))) (C_pass h (by omega) _).1) 0 fW_0 hcl_X7 ⟨Nat.le_of_ble_eq_true rfl, Nat.le_of_ble_eq_true rfl⟩ ⟨Nat.le_of_ble_eq_true rfl, Nat.le_of_ble_eq_true rfl⟩ rfl rfl (Nat.le_of_ble_eq_true rfl) dL_does_349 fst_f ?_
      exact j_iret E dL_does_352 (Dz_res (C_pass h (by omega) _).2 (fun q => absurd q h50_6))
    refine j_if_ne (tgt := 37) C dL_does_30 (by decide) (fun (h30 : ¬ ((K 0 16 1) = (0 : Int32))) => ?_) (fun (h30 : (K 0 16 1) = (0 : Int32)) => ?_)
    · refine j_iload_n C dL_does_37 rfl ?_
      refine j_iconst C dL_does_38 (4 : Int32) (by decide) ?_
      refine j_ishr C dL_does_39 ?_
      refine j_iload_n C dL_does_40 rfl ?_
      refine j_callSiR C g_L_14 (c_L_low l D ca (v >>> ((4 : Int32) &&& 31)) (K 0 16 1) ⟨h30, trivial⟩) ⟨Nat.le_of_ble_eq_true rfl, Nat.le_of_ble_eq_true rfl⟩ ⟨Nat.le_of_ble_eq_true rfl, Nat.le_of_ble_eq_true rfl⟩ [] rfl rfl rfl rfl (Nat.le_of_ble_eq_true rfl) dL_does_41 ?_
      exact K44 _ (by unfold ixi; rw [if_neg h30])
    · refine j_iconst C dL_does_33 (0 : Int32) (by decide) ?_
      refine j_goto (tgt := 44) C dL_does_34 (by decide) ?_
      exact K44 _ (by unfold ixi; rw [if_pos h30])
  refine j_if_ne (tgt := 20) C dL_does_13 (by decide) (fun (h13 : ¬ (x2 = (0 : Int32))) => ?_) (fun (h13 : x2 = (0 : Int32)) => ?_)
  · refine j_iload_n C dL_does_20 rfl ?_
    refine j_iconst C dL_does_21 (4 : Int32) (by decide) ?_
    refine j_ishr C dL_does_22 ?_
    refine j_iload_n C dL_does_23 rfl ?_
    refine j_callSiR C g_L_14 (c_L_low l D ca (v >>> ((4 : Int32) &&& 31)) x2 ⟨h13, trivial⟩) ⟨Nat.le_of_ble_eq_true rfl, Nat.le_of_ble_eq_true rfl⟩ ⟨Nat.le_of_ble_eq_true rfl, Nat.le_of_ble_eq_true rfl⟩ [] rfl rfl rfl rfl (Nat.le_of_ble_eq_true rfl) dL_does_24 ?_
    exact K27 _
  · refine j_iconst C dL_does_16 (0 : Int32) (by decide) ?_
    refine j_goto (tgt := 27) C dL_does_17 (by decide) ?_
    exact K27 _
