theorem le_1000 {q : Int32} (h : ¬ (1000 : Int32) < q) : ¬ (1001 : Int32) ≤ q := by
  have h1 := Int32.le_iff_toInt_le.mp (Int32.not_lt.mp h)
  intro z
  have h2 := Int32.le_iff_toInt_le.mp z
  have e1 : (1000 : Int32).toInt = 1000 := rfl
  have e2 : (1001 : Int32).toInt = 1001 := rfl
  omega


def r_X7_member (K : (Nat → jB)) (i : Int32) (w : Int32) : Int32 := (if (r_X4_has (K 0) i) = (0 : Int32) then (-1 : Int32) else (if w = (0 : Int32) then (K 0 0 i.toNatClampNeg) else (if w = (1 : Int32) then (K 0 1 i.toNatClampNeg) else (if w = (2 : Int32) then ((K 0 2 i.toNatClampNeg) + (1000000000 : Int32)) else (if w = (3 : Int32) then (r_X3_countOfMember (K 0) i) else (if w = (4 : Int32) then (r_X3_countOfMemberAhead (K 0) i) else (if w = (5 : Int32) then ((K 0 3 i.toNatClampNeg) + (1000000000 : Int32)) else (-2 : Int32))))))))
set_option maxRecDepth 100000 in
set_option maxHeartbeats 4000000 in
theorem c_X7_member (l : Launch) (D : va_G) (ca : Nat → ClassId) (g : Nat → Nat) (K : (Nat → jB)) (i : Int32) (w : Int32) : jM l D ca yX7_member cX7_member 4 (some .int) 2 44 0 0 [.ref (g 0), .int i, .int w] (fW ca g K) (jD (some (.int (r_X7_member K i w))) (fW ca g K)) := by
  refine jM_of [(0, .ref (g 0)), (1, .int i), (2, .int w)] (by decide) (Nat.le_of_ble_eq_true rfl) rfl (fun X C E => ?_)
  refine j_aload_n C dX7_member_0 rfl ?_
  refine j_get C f_X7_10.F 0 dX7_member_1 fW_0 rfl ?_
  refine j_get C f_X7_75.F 10 dX7_member_4 fW_10 rfl ?_
  refine j_astore_n C [(3, _), (0, _), (1, _), (2, _)] dX7_member_7 (by decide) rfl ?_
  refine j_aload_n C dX7_member_8 rfl ?_
  refine j_iload_n C dX7_member_9 rfl ?_
  refine j_callViR C g_X7_88 (c_X4_has l D ca (fun j => g (10 + j)) (K 0) i) 11 fW_11 hcl_X4 ⟨Nat.le_of_ble_eq_true rfl, Nat.le_of_ble_eq_true rfl⟩ ⟨Nat.le_of_ble_eq_true rfl, Nat.le_of_ble_eq_true rfl⟩ [11, 16, 17, 18, 19] pl_f_mb_0 rfl rfl rfl (Nat.le_of_ble_eq_true rfl) dX7_member_10 ?_
  refine j_if_ne (tgt := 18) C dX7_member_13 (by decide) (fun (h13 : ¬ ((r_X4_has (K 0) i) = (0 : Int32))) => ?_) (fun (h13 : (r_X4_has (K 0) i) = (0 : Int32)) => ?_)
  · refine j_iload_n C dX7_member_18 rfl ?_
    by_cases h19_0 : w = (0 : Int32)
    · refine j_tabEq (tgt := 56) C h19_0 dX7_member_19 (by decide) (by decide) (off := 37) rfl (by decide) ?_
      refine j_aload_n C dX7_member_56 rfl ?_
      refine j_get C f_X7_178.F 11 dX7_member_57 fW_11 rfl ?_
      refine j_iload_n C dX7_member_60 rfl ?_
      refine j_iald C 16 dX7_member_61 fW_16 (has_X4 (by assumption)) ?_
      have e9 : r_X7_member K i w = (K 0 0 i.toNatClampNeg) := by rw [r_X7_member, if_neg h13, if_pos h19_0]
      exact j_iret E dX7_member_62 (by rw [e9]; exact ⟨rfl, rfl⟩)
    by_cases h19_1 : w = (1 : Int32)
    · refine j_tabEq (tgt := 63) C h19_1 dX7_member_19 (by decide) (by decide) (off := 44) rfl (by decide) ?_
      refine j_aload_n C dX7_member_63 rfl ?_
      refine j_get C f_X7_93.F 11 dX7_member_64 fW_11 rfl ?_
      refine j_iload_n C dX7_member_67 rfl ?_
      refine j_iald C 17 dX7_member_68 fW_17 (has_X4 (by assumption)) ?_
      have e9 : r_X7_member K i w = (K 0 1 i.toNatClampNeg) := by rw [r_X7_member, if_neg h13, if_neg h19_0, if_pos h19_1]
      exact j_iret E dX7_member_69 (by rw [e9]; exact ⟨rfl, rfl⟩)
    by_cases h19_2 : w = (2 : Int32)
    · refine j_tabEq (tgt := 70) C h19_2 dX7_member_19 (by decide) (by decide) (off := 51) rfl (by decide) ?_
      refine j_aload_n C dX7_member_70 rfl ?_
      refine j_get C f_X7_181.F 11 dX7_member_71 fW_11 rfl ?_
      refine j_iload_n C dX7_member_74 rfl ?_
      refine j_iald C 18 dX7_member_75 fW_18 (has_X4 (by assumption)) ?_
      refine j_ldc C q_363 dX7_member_76 ?_
      refine j_iadd C dX7_member_78 ?_
      have e9 : r_X7_member K i w = ((K 0 2 i.toNatClampNeg) + (1000000000 : Int32)) := by rw [r_X7_member, if_neg h13, if_neg h19_0, if_neg h19_1, if_pos h19_2]
      exact j_iret E dX7_member_79 (by rw [e9]; exact ⟨rfl, rfl⟩)
    by_cases h19_3 : w = (3 : Int32)
    · refine j_tabEq (tgt := 80) C h19_3 dX7_member_19 (by decide) (by decide) (off := 61) rfl (by decide) ?_
      refine j_aload_n C dX7_member_80 rfl ?_
      refine j_get C f_X7_10.F 0 dX7_member_81 fW_0 rfl ?_
      refine j_get C f_X7_107.F 10 dX7_member_84 fW_10 rfl ?_
      refine j_iload_n C dX7_member_87 rfl ?_
      refine j_callViR C g_X7_185 (c_X3_countOfMember l D ca (fun j => g (10 + j)) (K 0) i) 13 fW_13 hcl_X3 ⟨Nat.le_of_ble_eq_true rfl, Nat.le_of_ble_eq_true rfl⟩ ⟨Nat.le_of_ble_eq_true rfl, Nat.le_of_ble_eq_true rfl⟩ [13, 23, 24, 25, 26, 27, 28, 29] pl_f_iv_0 rfl rfl rfl (Nat.le_of_ble_eq_true rfl) dX7_member_88 ?_
      have e9 : r_X7_member K i w = (r_X3_countOfMember (K 0) i) := by rw [r_X7_member, if_neg h13, if_neg h19_0, if_neg h19_1, if_neg h19_2, if_pos h19_3]
      exact j_iret E dX7_member_91 (by rw [e9]; exact ⟨rfl, rfl⟩)
    by_cases h19_4 : w = (4 : Int32)
    · refine j_tabEq (tgt := 92) C h19_4 dX7_member_19 (by decide) (by decide) (off := 73) rfl (by decide) ?_
      refine j_aload_n C dX7_member_92 rfl ?_
      refine j_get C f_X7_10.F 0 dX7_member_93 fW_0 rfl ?_
      refine j_get C f_X7_107.F 10 dX7_member_96 fW_10 rfl ?_
      refine j_iload_n C dX7_member_99 rfl ?_
      refine j_callViR C g_X7_188 (c_X3_countOfMemberAhead l D ca (fun j => g (10 + j)) (K 0) i) 13 fW_13 hcl_X3 ⟨Nat.le_of_ble_eq_true rfl, Nat.le_of_ble_eq_true rfl⟩ ⟨Nat.le_of_ble_eq_true rfl, Nat.le_of_ble_eq_true rfl⟩ [13, 23, 24, 25, 26, 27, 28, 29] pl_f_iv_0 rfl rfl rfl (Nat.le_of_ble_eq_true rfl) dX7_member_100 ?_
      have e9 : r_X7_member K i w = (r_X3_countOfMemberAhead (K 0) i) := by rw [r_X7_member, if_neg h13, if_neg h19_0, if_neg h19_1, if_neg h19_2, if_neg h19_3, if_pos h19_4]
      exact j_iret E dX7_member_103 (by rw [e9]; exact ⟨rfl, rfl⟩)
    by_cases h19_5 : w = (5 : Int32)
    · refine j_tabEq (tgt := 104) C h19_5 dX7_member_19 (by decide) (by decide) (off := 85) rfl (by decide) ?_
      refine j_aload_n C dX7_member_104 rfl ?_
      refine j_get C f_X7_191.F 11 dX7_member_105 fW_11 rfl ?_
      refine j_iload_n C dX7_member_108 rfl ?_
      refine j_iald C 19 dX7_member_109 fW_19 (has_X4 (by assumption)) ?_
      refine j_ldc C q_363 dX7_member_110 ?_
      refine j_iadd C dX7_member_112 ?_
      have e9 : r_X7_member K i w = ((K 0 3 i.toNatClampNeg) + (1000000000 : Int32)) := by rw [r_X7_member, if_neg h13, if_neg h19_0, if_neg h19_1, if_neg h19_2, if_neg h19_3, if_neg h19_4, if_pos h19_5]
      exact j_iret E dX7_member_113 (by rw [e9]; exact ⟨rfl, rfl⟩)
    refine j_tabOut (tgt := 114) C dX7_member_19 (by have e0 := tab_ne h19_0 0 rfl; have e1 := tab_ne h19_1 1 rfl; have e2 := tab_ne h19_2 2 rfl; have e3 := tab_ne h19_3 3 rfl; have e4 := tab_ne h19_4 4 rfl; have e5 := tab_ne h19_5 5 rfl; omega) (by decide) ?_
    refine j_bipush C dX7_member_114 (-2 : Int32) (by decide) ?_
    have e9 : r_X7_member K i w = (-2 : Int32) := by rw [r_X7_member, if_neg h13, if_neg h19_0, if_neg h19_1, if_neg h19_2, if_neg h19_3, if_neg h19_4, if_neg h19_5]
    exact j_iret E dX7_member_116 (by rw [e9]; exact ⟨rfl, rfl⟩)
  · refine j_iconst C dX7_member_16 (-1 : Int32) (by decide) ?_
    have e9 : r_X7_member K i w = (-1 : Int32) := by rw [r_X7_member, if_pos h13]
    exact j_iret E dX7_member_17 (by rw [e9]; exact ⟨rfl, rfl⟩)


def r_X7_client (K : (Nat → jB)) (i : Int32) (w : Int32) : Int32 := (if (r_X1_has (K 0) i) = (0 : Int32) then (-1 : Int32) else (if w = (0 : Int32) then (K 0 4 i.toNatClampNeg) else (if w = (1 : Int32) then (K 0 5 i.toNatClampNeg) else (if w = (2 : Int32) then (K 0 6 i.toNatClampNeg) else (if w = (3 : Int32) then (r_X3_countOfClientUnsettled (K 0) i) else (-2 : Int32))))))
set_option maxRecDepth 100000 in
set_option maxHeartbeats 4000000 in
theorem c_X7_client (l : Launch) (D : va_G) (ca : Nat → ClassId) (g : Nat → Nat) (K : (Nat → jB)) (i : Int32) (w : Int32) : jM l D ca yX7_client cX7_client 4 (some .int) 3 65 0 0 [.ref (g 0), .int i, .int w] (fW ca g K) (jD (some (.int (r_X7_client K i w))) (fW ca g K)) := by
  refine jM_of [(0, .ref (g 0)), (1, .int i), (2, .int w)] (by decide) (Nat.le_of_ble_eq_true rfl) rfl (fun X C E => ?_)
  refine j_aload_n C dX7_client_0 rfl ?_
  refine j_get C f_X7_10.F 0 dX7_client_1 fW_0 rfl ?_
  refine j_get C f_X7_100.F 10 dX7_client_4 fW_10 rfl ?_
  refine j_astore_n C [(3, _), (0, _), (1, _), (2, _)] dX7_client_7 (by decide) rfl ?_
  refine j_aload_n C dX7_client_8 rfl ?_
  refine j_iload_n C dX7_client_9 rfl ?_
  refine j_callViR C g_X7_104 (c_X1_has l D ca (fun j => g (10 + j)) (K 0) i) 12 fW_12 hcl_X1 ⟨Nat.le_of_ble_eq_true rfl, Nat.le_of_ble_eq_true rfl⟩ ⟨Nat.le_of_ble_eq_true rfl, Nat.le_of_ble_eq_true rfl⟩ [12, 20, 21, 22] pl_f_cl_0 rfl rfl rfl (Nat.le_of_ble_eq_true rfl) dX7_client_10 ?_
  refine j_if_ne (tgt := 18) C dX7_client_13 (by decide) (fun (h13 : ¬ ((r_X1_has (K 0) i) = (0 : Int32))) => ?_) (fun (h13 : (r_X1_has (K 0) i) = (0 : Int32)) => ?_)
  · refine j_iload_n C dX7_client_18 rfl ?_
    by_cases h19_0 : w = (0 : Int32)
    · refine j_tabEq (tgt := 48) C h19_0 dX7_client_19 (by decide) (by decide) (off := 29) rfl (by decide) ?_
      refine j_aload_n C dX7_client_48 rfl ?_
      refine j_get C f_X7_194.F 12 dX7_client_49 fW_12 rfl ?_
      refine j_iload_n C dX7_client_52 rfl ?_
      refine j_iald C 20 dX7_client_53 fW_20 (has_X1 (by assumption)) ?_
      have e9 : r_X7_client K i w = (K 0 4 i.toNatClampNeg) := by rw [r_X7_client, if_neg h13, if_pos h19_0]
      exact j_iret E dX7_client_54 (by rw [e9]; exact ⟨rfl, rfl⟩)
    by_cases h19_1 : w = (1 : Int32)
    · refine j_tabEq (tgt := 55) C h19_1 dX7_client_19 (by decide) (by decide) (off := 36) rfl (by decide) ?_
      refine j_aload_n C dX7_client_55 rfl ?_
      refine j_get C f_X7_197.F 12 dX7_client_56 fW_12 rfl ?_
      refine j_iload_n C dX7_client_59 rfl ?_
      refine j_iald C 21 dX7_client_60 fW_21 (has_X1 (by assumption)) ?_
      have e9 : r_X7_client K i w = (K 0 5 i.toNatClampNeg) := by rw [r_X7_client, if_neg h13, if_neg h19_0, if_pos h19_1]
      exact j_iret E dX7_client_61 (by rw [e9]; exact ⟨rfl, rfl⟩)
    by_cases h19_2 : w = (2 : Int32)
    · refine j_tabEq (tgt := 62) C h19_2 dX7_client_19 (by decide) (by decide) (off := 43) rfl (by decide) ?_
      refine j_aload_n C dX7_client_62 rfl ?_
      refine j_get C f_X7_200.F 12 dX7_client_63 fW_12 rfl ?_
      refine j_iload_n C dX7_client_66 rfl ?_
      refine j_iald C 22 dX7_client_67 fW_22 (has_X1 (by assumption)) ?_
      have e9 : r_X7_client K i w = (K 0 6 i.toNatClampNeg) := by rw [r_X7_client, if_neg h13, if_neg h19_0, if_neg h19_1, if_pos h19_2]
      exact j_iret E dX7_client_68 (by rw [e9]; exact ⟨rfl, rfl⟩)
    by_cases h19_3 : w = (3 : Int32)
    · refine j_tabEq (tgt := 69) C h19_3 dX7_client_19 (by decide) (by decide) (off := 50) rfl (by decide) ?_
      refine j_aload_n C dX7_client_69 rfl ?_
      refine j_get C f_X7_10.F 0 dX7_client_70 fW_0 rfl ?_
      refine j_get C f_X7_107.F 10 dX7_client_73 fW_10 rfl ?_
      refine j_iload_n C dX7_client_76 rfl ?_
      refine j_callViR C g_X7_203 (c_X3_countOfClientUnsettled l D ca (fun j => g (10 + j)) (K 0) i) 13 fW_13 hcl_X3 ⟨Nat.le_of_ble_eq_true rfl, Nat.le_of_ble_eq_true rfl⟩ ⟨Nat.le_of_ble_eq_true rfl, Nat.le_of_ble_eq_true rfl⟩ [13, 23, 24, 25, 26, 27, 28, 29] pl_f_iv_0 rfl rfl rfl (Nat.le_of_ble_eq_true rfl) dX7_client_77 ?_
      have e9 : r_X7_client K i w = (r_X3_countOfClientUnsettled (K 0) i) := by rw [r_X7_client, if_neg h13, if_neg h19_0, if_neg h19_1, if_neg h19_2, if_pos h19_3]
      exact j_iret E dX7_client_80 (by rw [e9]; exact ⟨rfl, rfl⟩)
    refine j_tabOut (tgt := 81) C dX7_client_19 (by have e0 := tab_ne h19_0 0 rfl; have e1 := tab_ne h19_1 1 rfl; have e2 := tab_ne h19_2 2 rfl; have e3 := tab_ne h19_3 3 rfl; omega) (by decide) ?_
    refine j_bipush C dX7_client_81 (-2 : Int32) (by decide) ?_
    have e9 : r_X7_client K i w = (-2 : Int32) := by rw [r_X7_client, if_neg h13, if_neg h19_0, if_neg h19_1, if_neg h19_2, if_neg h19_3]
    exact j_iret E dX7_client_83 (by rw [e9]; exact ⟨rfl, rfl⟩)
  · refine j_iconst C dX7_client_16 (-1 : Int32) (by decide) ?_
    have e9 : r_X7_client K i w = (-1 : Int32) := by rw [r_X7_client, if_pos h13]
    exact j_iret E dX7_client_17 (by rw [e9]; exact ⟨rfl, rfl⟩)


def r_X7_invoice (K : (Nat → jB)) (i : Int32) (w : Int32) : Int32 := (if (r_X3_has (K 0) i) = (0 : Int32) then (-1 : Int32) else (if w = (0 : Int32) then (K 0 7 i.toNatClampNeg) else (if w = (1 : Int32) then (K 0 8 i.toNatClampNeg) else (if w = (2 : Int32) then (K 0 9 i.toNatClampNeg) else (if w = (3 : Int32) then (K 0 10 i.toNatClampNeg) else (if w = (4 : Int32) then (K 0 11 i.toNatClampNeg) else (if w = (5 : Int32) then (K 0 12 i.toNatClampNeg) else (if w = (6 : Int32) then (K 0 13 i.toNatClampNeg) else (if w = (7 : Int32) then ((r_X0_ageOf (K 0) i) + (100000 : Int32)) else (if w = (8 : Int32) then (r_X0_offerAfter (K 0) i (0 : Int32)) else (if w = (9 : Int32) then (if (r_X0_canPayAhead (K 0) i) = (0 : Int32) then (0 : Int32) else (1 : Int32)) else (if w = (10 : Int32) then (if (r_X0_canGiveUp (K 0) i) = (0 : Int32) then (0 : Int32) else (1 : Int32)) else (-2 : Int32)))))))))))))
def n_X7_invoice (K : (Nat → jB)) (i : Int32) (w : Int32) : Prop := (((r_X3_has (K 0) i) = (0 : Int32) → True) ∧ (¬ ((r_X3_has (K 0) i) = (0 : Int32)) → ((w = (0 : Int32) → True) ∧ (¬ w = (0 : Int32) → ((w = (1 : Int32) → True) ∧ (¬ w = (1 : Int32) → ((w = (2 : Int32) → True) ∧ (¬ w = (2 : Int32) → ((w = (3 : Int32) → True) ∧ (¬ w = (3 : Int32) → ((w = (4 : Int32) → True) ∧ (¬ w = (4 : Int32) → ((w = (5 : Int32) → True) ∧ (¬ w = (5 : Int32) → ((w = (6 : Int32) → True) ∧ (¬ w = (6 : Int32) → ((w = (7 : Int32) → True) ∧ (¬ w = (7 : Int32) → ((w = (8 : Int32) → ((n_X0_offerAfter (K 0) i (0 : Int32)) ∧ True)) ∧ (¬ w = (8 : Int32) → ((w = (9 : Int32) → ((n_X0_canPayAhead (K 0) i) ∧ (((r_X0_canPayAhead (K 0) i) = (0 : Int32) → True) ∧ (¬ ((r_X0_canPayAhead (K 0) i) = (0 : Int32)) → True)))) ∧ (¬ w = (9 : Int32) → ((w = (10 : Int32) → (((r_X0_canGiveUp (K 0) i) = (0 : Int32) → True) ∧ (¬ ((r_X0_canGiveUp (K 0) i) = (0 : Int32)) → True))) ∧ (¬ w = (10 : Int32) → True))))))))))))))))))))))))
set_option maxRecDepth 100000 in
set_option maxHeartbeats 4000000 in
theorem c_X7_invoice (l : Launch) (D : va_G) (ca : Nat → ClassId) (g : Nat → Nat) (K : (Nat → jB)) (i : Int32) (w : Int32) (hq : n_X7_invoice K i w) : jM l D ca yX7_invoice cX7_invoice 4 (some .int) 6 133 0 0 [.ref (g 0), .int i, .int w] (fW ca g K) (jD (some (.int (r_X7_invoice K i w))) (fW ca g K)) := by
  refine jM_of [(0, .ref (g 0)), (1, .int i), (2, .int w)] (by decide) (Nat.le_of_ble_eq_true rfl) rfl (fun X C E => ?_)
  rw [n_X7_invoice] at hq
  refine j_aload_n C dX7_invoice_0 rfl ?_
  refine j_get C f_X7_10.F 0 dX7_invoice_1 fW_0 rfl ?_
  refine j_get C f_X7_107.F 10 dX7_invoice_4 fW_10 rfl ?_
  refine j_astore_n C [(3, _), (0, _), (1, _), (2, _)] dX7_invoice_7 (by decide) rfl ?_
  refine j_aload_n C dX7_invoice_8 rfl ?_
  refine j_iload_n C dX7_invoice_9 rfl ?_
  refine j_callViR C g_X7_117 (c_X3_has l D ca (fun j => g (10 + j)) (K 0) i) 13 fW_13 hcl_X3 ⟨Nat.le_of_ble_eq_true rfl, Nat.le_of_ble_eq_true rfl⟩ ⟨Nat.le_of_ble_eq_true rfl, Nat.le_of_ble_eq_true rfl⟩ [13, 23, 24, 25, 26, 27, 28, 29] pl_f_iv_0 rfl rfl rfl (Nat.le_of_ble_eq_true rfl) dX7_invoice_10 ?_
  refine j_if_ne (tgt := 18) C dX7_invoice_13 (by decide) (fun (h13 : ¬ ((r_X3_has (K 0) i) = (0 : Int32))) => ?_) (fun (h13 : (r_X3_has (K 0) i) = (0 : Int32)) => ?_)
  · have hq := hq.2 h13
    refine j_iload_n C dX7_invoice_18 rfl ?_
    by_cases h19_0 : w = (0 : Int32)
    · have hq := hq.1 h19_0
      refine j_tabEq (tgt := 76) C h19_0 dX7_invoice_19 (by decide) (by decide) (off := 57) rfl (by decide) ?_
      refine j_aload_n C dX7_invoice_76 rfl ?_
      refine j_get C f_X7_212.F 13 dX7_invoice_77 fW_13 rfl ?_
      refine j_iload_n C dX7_invoice_80 rfl ?_
      refine j_iald C 23 dX7_invoice_81 fW_23 (has_X3 (by assumption)) ?_
      have e9 : r_X7_invoice K i w = (K 0 7 i.toNatClampNeg) := by rw [r_X7_invoice, if_neg h13, if_pos h19_0]
      exact j_iret E dX7_invoice_82 (by rw [e9]; exact ⟨rfl, rfl⟩)
    have hq := hq.2 h19_0
    by_cases h19_1 : w = (1 : Int32)
    · have hq := hq.1 h19_1
      refine j_tabEq (tgt := 83) C h19_1 dX7_invoice_19 (by decide) (by decide) (off := 64) rfl (by decide) ?_
      refine j_aload_n C dX7_invoice_83 rfl ?_
      refine j_get C f_X7_215.F 13 dX7_invoice_84 fW_13 rfl ?_
      refine j_iload_n C dX7_invoice_87 rfl ?_
      refine j_iald C 24 dX7_invoice_88 fW_24 (has_X3 (by assumption)) ?_
      have e9 : r_X7_invoice K i w = (K 0 8 i.toNatClampNeg) := by rw [r_X7_invoice, if_neg h13, if_neg h19_0, if_pos h19_1]
      exact j_iret E dX7_invoice_89 (by rw [e9]; exact ⟨rfl, rfl⟩)
    have hq := hq.2 h19_1
    by_cases h19_2 : w = (2 : Int32)
    · have hq := hq.1 h19_2
      refine j_tabEq (tgt := 90) C h19_2 dX7_invoice_19 (by decide) (by decide) (off := 71) rfl (by decide) ?_
      refine j_aload_n C dX7_invoice_90 rfl ?_
      refine j_get C f_X7_218.F 13 dX7_invoice_91 fW_13 rfl ?_
      refine j_iload_n C dX7_invoice_94 rfl ?_
      refine j_iald C 25 dX7_invoice_95 fW_25 (has_X3 (by assumption)) ?_
      have e9 : r_X7_invoice K i w = (K 0 9 i.toNatClampNeg) := by rw [r_X7_invoice, if_neg h13, if_neg h19_0, if_neg h19_1, if_pos h19_2]
      exact j_iret E dX7_invoice_96 (by rw [e9]; exact ⟨rfl, rfl⟩)
    have hq := hq.2 h19_2
    by_cases h19_3 : w = (3 : Int32)
    · have hq := hq.1 h19_3
      refine j_tabEq (tgt := 97) C h19_3 dX7_invoice_19 (by decide) (by decide) (off := 78) rfl (by decide) ?_
      refine j_aload_n C dX7_invoice_97 rfl ?_
      refine j_get C f_X7_221.F 13 dX7_invoice_98 fW_13 rfl ?_
      refine j_iload_n C dX7_invoice_101 rfl ?_
      refine j_iald C 26 dX7_invoice_102 fW_26 (has_X3 (by assumption)) ?_
      have e9 : r_X7_invoice K i w = (K 0 10 i.toNatClampNeg) := by rw [r_X7_invoice, if_neg h13, if_neg h19_0, if_neg h19_1, if_neg h19_2, if_pos h19_3]
      exact j_iret E dX7_invoice_103 (by rw [e9]; exact ⟨rfl, rfl⟩)
    have hq := hq.2 h19_3
    by_cases h19_4 : w = (4 : Int32)
    · have hq := hq.1 h19_4
      refine j_tabEq (tgt := 104) C h19_4 dX7_invoice_19 (by decide) (by decide) (off := 85) rfl (by decide) ?_
      refine j_aload_n C dX7_invoice_104 rfl ?_
      refine j_get C f_X7_224.F 13 dX7_invoice_105 fW_13 rfl ?_
      refine j_iload_n C dX7_invoice_108 rfl ?_
      refine j_iald C 27 dX7_invoice_109 fW_27 (has_X3 (by assumption)) ?_
      have e9 : r_X7_invoice K i w = (K 0 11 i.toNatClampNeg) := by rw [r_X7_invoice, if_neg h13, if_neg h19_0, if_neg h19_1, if_neg h19_2, if_neg h19_3, if_pos h19_4]
      exact j_iret E dX7_invoice_110 (by rw [e9]; exact ⟨rfl, rfl⟩)
    have hq := hq.2 h19_4
    by_cases h19_5 : w = (5 : Int32)
    · have hq := hq.1 h19_5
      refine j_tabEq (tgt := 111) C h19_5 dX7_invoice_19 (by decide) (by decide) (off := 92) rfl (by decide) ?_
      refine j_aload_n C dX7_invoice_111 rfl ?_
      refine j_get C f_X7_227.F 13 dX7_invoice_112 fW_13 rfl ?_
      refine j_iload_n C dX7_invoice_115 rfl ?_
      refine j_iald C 28 dX7_invoice_116 fW_28 (has_X3 (by assumption)) ?_
      have e9 : r_X7_invoice K i w = (K 0 12 i.toNatClampNeg) := by rw [r_X7_invoice, if_neg h13, if_neg h19_0, if_neg h19_1, if_neg h19_2, if_neg h19_3, if_neg h19_4, if_pos h19_5]
      exact j_iret E dX7_invoice_117 (by rw [e9]; exact ⟨rfl, rfl⟩)
    have hq := hq.2 h19_5
    by_cases h19_6 : w = (6 : Int32)
    · have hq := hq.1 h19_6
      refine j_tabEq (tgt := 118) C h19_6 dX7_invoice_19 (by decide) (by decide) (off := 99) rfl (by decide) ?_
      refine j_aload_n C dX7_invoice_118 rfl ?_
      refine j_get C f_X7_230.F 13 dX7_invoice_119 fW_13 rfl ?_
      refine j_iload_n C dX7_invoice_122 rfl ?_
      refine j_iald C 29 dX7_invoice_123 fW_29 (has_X3 (by assumption)) ?_
      have e9 : r_X7_invoice K i w = (K 0 13 i.toNatClampNeg) := by rw [r_X7_invoice, if_neg h13, if_neg h19_0, if_neg h19_1, if_neg h19_2, if_neg h19_3, if_neg h19_4, if_neg h19_5, if_pos h19_6]
      exact j_iret E dX7_invoice_124 (by rw [e9]; exact ⟨rfl, rfl⟩)
    have hq := hq.2 h19_6
    by_cases h19_7 : w = (7 : Int32)
    · have hq := hq.1 h19_7
      refine j_tabEq (tgt := 125) C h19_7 dX7_invoice_19 (by decide) (by decide) (off := 106) rfl (by decide) ?_
      refine j_aload_n C dX7_invoice_125 rfl ?_
      refine j_get C f_X7_10.F 0 dX7_invoice_126 fW_0 rfl ?_
      refine j_iload_n C dX7_invoice_129 rfl ?_
      refine j_callViR C g_X7_232 (c_X0_ageOf l D ca (fun j => g (10 + j)) (K 0) i) 10 fW_10 hcl_X0 ⟨Nat.le_of_ble_eq_true rfl, Nat.le_of_ble_eq_true rfl⟩ ⟨Nat.le_of_ble_eq_true rfl, Nat.le_of_ble_eq_true rfl⟩ [10, 11, 12, 13, 14, 15, 16, 17, 18, 19, 20, 21, 22, 23, 24, 25, 26, 27, 28, 29] pl_f_bk_0 rfl rfl rfl (Nat.le_of_ble_eq_true rfl) dX7_invoice_130 ?_
      refine j_ldc C q_305 dX7_invoice_133 ?_
      refine j_iadd C dX7_invoice_135 ?_
      have e9 : r_X7_invoice K i w = ((r_X0_ageOf (K 0) i) + (100000 : Int32)) := by rw [r_X7_invoice, if_neg h13, if_neg h19_0, if_neg h19_1, if_neg h19_2, if_neg h19_3, if_neg h19_4, if_neg h19_5, if_neg h19_6, if_pos h19_7]
      exact j_iret E dX7_invoice_136 (by rw [e9]; exact ⟨rfl, rfl⟩)
    have hq := hq.2 h19_7
    by_cases h19_8 : w = (8 : Int32)
    · have hq := hq.1 h19_8
      refine j_tabEq (tgt := 137) C h19_8 dX7_invoice_19 (by decide) (by decide) (off := 118) rfl (by decide) ?_
      refine j_aload_n C dX7_invoice_137 rfl ?_
      refine j_get C f_X7_10.F 0 dX7_invoice_138 fW_0 rfl ?_
      refine j_iload_n C dX7_invoice_141 rfl ?_
      refine j_iconst C dX7_invoice_142 (0 : Int32) (by decide) ?_
      obtain ⟨hv, hq⟩ := hq
      refine j_callViR C g_X7_236 (c_X0_offerAfter l D ca (fun j => g (10 + j)) (K 0) i (0 : Int32) hv) 10 fW_10 hcl_X0 ⟨Nat.le_of_ble_eq_true rfl, Nat.le_of_ble_eq_true rfl⟩ ⟨Nat.le_of_ble_eq_true rfl, Nat.le_of_ble_eq_true rfl⟩ [10, 11, 12, 13, 14, 15, 16, 17, 18, 19, 20, 21, 22, 23, 24, 25, 26, 27, 28, 29] pl_f_bk_0 rfl rfl rfl (Nat.le_of_ble_eq_true rfl) dX7_invoice_143 ?_
      have e9 : r_X7_invoice K i w = (r_X0_offerAfter (K 0) i (0 : Int32)) := by rw [r_X7_invoice, if_neg h13, if_neg h19_0, if_neg h19_1, if_neg h19_2, if_neg h19_3, if_neg h19_4, if_neg h19_5, if_neg h19_6, if_neg h19_7, if_pos h19_8]
      exact j_iret E dX7_invoice_146 (by rw [e9]; exact ⟨rfl, rfl⟩)
    have hq := hq.2 h19_8
    by_cases h19_9 : w = (9 : Int32)
    · have hq := hq.1 h19_9
      refine j_tabEq (tgt := 147) C h19_9 dX7_invoice_19 (by decide) (by decide) (off := 128) rfl (by decide) ?_
      refine j_aload_n C dX7_invoice_147 rfl ?_
      refine j_get C f_X7_10.F 0 dX7_invoice_148 fW_0 rfl ?_
      refine j_iload_n C dX7_invoice_151 rfl ?_
      obtain ⟨hv, hq⟩ := hq
      refine j_callViR C g_X7_118 (c_X0_canPayAhead l D ca (fun j => g (10 + j)) (K 0) i hv) 10 fW_10 hcl_X0 ⟨Nat.le_of_ble_eq_true rfl, Nat.le_of_ble_eq_true rfl⟩ ⟨Nat.le_of_ble_eq_true rfl, Nat.le_of_ble_eq_true rfl⟩ [10, 11, 12, 13, 14, 15, 16, 17, 18, 19, 20, 21, 22, 23, 24, 25, 26, 27, 28, 29] pl_f_bk_0 rfl rfl rfl (Nat.le_of_ble_eq_true rfl) dX7_invoice_152 ?_
      refine j_if_eq (tgt := 162) C dX7_invoice_155 (by decide) (fun (h155 : (r_X0_canPayAhead (K 0) i) = (0 : Int32)) => ?_) (fun (h155 : ¬ ((r_X0_canPayAhead (K 0) i) = (0 : Int32))) => ?_)
      · have hq := hq.1 h155
        refine j_iconst C dX7_invoice_162 (0 : Int32) (by decide) ?_
        have e9 : r_X7_invoice K i w = (0 : Int32) := by rw [r_X7_invoice, if_neg h13, if_neg h19_0, if_neg h19_1, if_neg h19_2, if_neg h19_3, if_neg h19_4, if_neg h19_5, if_neg h19_6, if_neg h19_7, if_neg h19_8, if_pos h19_9, if_pos h155]
        exact j_iret E dX7_invoice_163 (by rw [e9]; exact ⟨rfl, rfl⟩)
      · have hq := hq.2 h155
        refine j_iconst C dX7_invoice_158 (1 : Int32) (by decide) ?_
        refine j_goto (tgt := 163) C dX7_invoice_159 (by decide) ?_
        have e9 : r_X7_invoice K i w = (1 : Int32) := by rw [r_X7_invoice, if_neg h13, if_neg h19_0, if_neg h19_1, if_neg h19_2, if_neg h19_3, if_neg h19_4, if_neg h19_5, if_neg h19_6, if_neg h19_7, if_neg h19_8, if_pos h19_9, if_neg h155]
        exact j_iret E dX7_invoice_163 (by rw [e9]; exact ⟨rfl, rfl⟩)
    have hq := hq.2 h19_9
    by_cases h19_10 : w = (10 : Int32)
    · have hq := hq.1 h19_10
      refine j_tabEq (tgt := 164) C h19_10 dX7_invoice_19 (by decide) (by decide) (off := 145) rfl (by decide) ?_
      refine j_aload_n C dX7_invoice_164 rfl ?_
      refine j_get C f_X7_10.F 0 dX7_invoice_165 fW_0 rfl ?_
      refine j_iload_n C dX7_invoice_168 rfl ?_
      refine j_callViR C g_X7_131 (c_X0_canGiveUp l D ca (fun j => g (10 + j)) (K 0) i) 10 fW_10 hcl_X0 ⟨Nat.le_of_ble_eq_true rfl, Nat.le_of_ble_eq_true rfl⟩ ⟨Nat.le_of_ble_eq_true rfl, Nat.le_of_ble_eq_true rfl⟩ [10, 11, 12, 13, 14, 15, 16, 17, 18, 19, 20, 21, 22, 23, 24, 25, 26, 27, 28, 29] pl_f_bk_0 rfl rfl rfl (Nat.le_of_ble_eq_true rfl) dX7_invoice_169 ?_
      refine j_if_eq (tgt := 179) C dX7_invoice_172 (by decide) (fun (h172 : (r_X0_canGiveUp (K 0) i) = (0 : Int32)) => ?_) (fun (h172 : ¬ ((r_X0_canGiveUp (K 0) i) = (0 : Int32))) => ?_)
      · have hq := hq.1 h172
        refine j_iconst C dX7_invoice_179 (0 : Int32) (by decide) ?_
        have e9 : r_X7_invoice K i w = (0 : Int32) := by rw [r_X7_invoice, if_neg h13, if_neg h19_0, if_neg h19_1, if_neg h19_2, if_neg h19_3, if_neg h19_4, if_neg h19_5, if_neg h19_6, if_neg h19_7, if_neg h19_8, if_neg h19_9, if_pos h19_10, if_pos h172]
        exact j_iret E dX7_invoice_180 (by rw [e9]; exact ⟨rfl, rfl⟩)
      · have hq := hq.2 h172
        refine j_iconst C dX7_invoice_175 (1 : Int32) (by decide) ?_
        refine j_goto (tgt := 180) C dX7_invoice_176 (by decide) ?_
        have e9 : r_X7_invoice K i w = (1 : Int32) := by rw [r_X7_invoice, if_neg h13, if_neg h19_0, if_neg h19_1, if_neg h19_2, if_neg h19_3, if_neg h19_4, if_neg h19_5, if_neg h19_6, if_neg h19_7, if_neg h19_8, if_neg h19_9, if_pos h19_10, if_neg h172]
        exact j_iret E dX7_invoice_180 (by rw [e9]; exact ⟨rfl, rfl⟩)
    have hq := hq.2 h19_10
    refine j_tabOut (tgt := 181) C dX7_invoice_19 (by have e0 := tab_ne h19_0 0 rfl; have e1 := tab_ne h19_1 1 rfl; have e2 := tab_ne h19_2 2 rfl; have e3 := tab_ne h19_3 3 rfl; have e4 := tab_ne h19_4 4 rfl; have e5 := tab_ne h19_5 5 rfl; have e6 := tab_ne h19_6 6 rfl; have e7 := tab_ne h19_7 7 rfl; have e8 := tab_ne h19_8 8 rfl; have e9 := tab_ne h19_9 9 rfl; have e10 := tab_ne h19_10 10 rfl; omega) (by decide) ?_
    refine j_bipush C dX7_invoice_181 (-2 : Int32) (by decide) ?_
    have e9 : r_X7_invoice K i w = (-2 : Int32) := by rw [r_X7_invoice, if_neg h13, if_neg h19_0, if_neg h19_1, if_neg h19_2, if_neg h19_3, if_neg h19_4, if_neg h19_5, if_neg h19_6, if_neg h19_7, if_neg h19_8, if_neg h19_9, if_neg h19_10]
    exact j_iret E dX7_invoice_183 (by rw [e9]; exact ⟨rfl, rfl⟩)
  · have hq := hq.1 h13
    refine j_iconst C dX7_invoice_16 (-1 : Int32) (by decide) ?_
    have e9 : r_X7_invoice K i w = (-1 : Int32) := by rw [r_X7_invoice, if_pos h13]
    exact j_iret E dX7_invoice_17 (by rw [e9]; exact ⟨rfl, rfl⟩)


def L_X7_worthlessIn_18 (K : (Nat → jB)) (i : Int32) : Nat → Int32 → Int32
  | 0, _ => 0
  | n18 + 1, x18_2 => (if (1000 : Int32) < x18_2 then (-5 : Int32) else (if (r_X0_offerAfter (K 0) i x18_2) = (0 : Int32) then x18_2 else L_X7_worthlessIn_18 K i n18 (x18_2 + (1 : Int32))))
def NL_X7_worthlessIn_18 (K : (Nat → jB)) (i : Int32) : Nat → Int32 → Prop
  | 0, _ => True
  | n18 + 1, x18_2 => (((1000 : Int32) < x18_2 → True) ∧ (¬ ((1000 : Int32) < x18_2) → ((n_X0_offerAfter (K 0) i x18_2) ∧ (((r_X0_offerAfter (K 0) i x18_2) = (0 : Int32) → True) ∧ (¬ ((r_X0_offerAfter (K 0) i x18_2) = (0 : Int32)) → NL_X7_worthlessIn_18 K i n18 (x18_2 + (1 : Int32)))))))
def r_X7_worthlessIn (K : (Nat → jB)) (i : Int32) : Int32 := (if (r_X3_has (K 0) i) = (0 : Int32) then (-1 : Int32) else L_X7_worthlessIn_18 K i 1002 (0 : Int32))
def n_X7_worthlessIn (K : (Nat → jB)) (i : Int32) : Prop := (((r_X3_has (K 0) i) = (0 : Int32) → True) ∧ (¬ ((r_X3_has (K 0) i) = (0 : Int32)) → NL_X7_worthlessIn_18 K i 1002 (0 : Int32)))
set_option maxRecDepth 100000 in
set_option maxHeartbeats 4000000 in
theorem c_X7_worthlessIn (l : Launch) (D : va_G) (ca : Nat → ClassId) (g : Nat → Nat) (K : (Nat → jB)) (i : Int32) (hq : n_X7_worthlessIn K i) : jM l D ca yX7_worthlessIn cX7_worthlessIn 3 (some .int) 5 111 0 0 [.ref (g 0), .int i] (fW ca g K) (jD (some (.int (r_X7_worthlessIn K i))) (fW ca g K)) := by
  refine jM_of [(0, .ref (g 0)), (1, .int i)] (by decide) (Nat.le_of_ble_eq_true rfl) rfl (fun X C E => ?_)
  rw [n_X7_worthlessIn] at hq
  refine j_aload_n C dX7_worthlessIn_0 rfl ?_
  refine j_get C f_X7_10.F 0 dX7_worthlessIn_1 fW_0 rfl ?_
  refine j_get C f_X7_107.F 10 dX7_worthlessIn_4 fW_10 rfl ?_
  refine j_iload_n C dX7_worthlessIn_7 rfl ?_
  refine j_callViR C g_X7_117 (c_X3_has l D ca (fun j => g (10 + j)) (K 0) i) 13 fW_13 hcl_X3 ⟨Nat.le_of_ble_eq_true rfl, Nat.le_of_ble_eq_true rfl⟩ ⟨Nat.le_of_ble_eq_true rfl, Nat.le_of_ble_eq_true rfl⟩ [13, 23, 24, 25, 26, 27, 28, 29] pl_f_iv_0 rfl rfl rfl (Nat.le_of_ble_eq_true rfl) dX7_worthlessIn_8 ?_
  refine j_if_ne (tgt := 16) C dX7_worthlessIn_11 (by decide) (fun (h11 : ¬ ((r_X3_has (K 0) i) = (0 : Int32))) => ?_) (fun (h11 : (r_X3_has (K 0) i) = (0 : Int32)) => ?_)
  · have hq := hq.2 h11
    refine j_iconst C dX7_worthlessIn_16 (0 : Int32) (by decide) ?_
    refine j_istore_n C [(2, _), (0, _), (1, _)] dX7_worthlessIn_17 (by decide) rfl ?_
    have K18 : ∀ (n18 : Nat) (x18_2 : Int32), ((1001 : Int32).toInt - x18_2.toInt).toNat < n18 → NL_X7_worthlessIn_18 K i n18 x18_2 → r_X7_worthlessIn K i = L_X7_worthlessIn_18 K i n18 x18_2 → J l { frames := 5, cells := 0, slots := 0, locals := 111 } D 3 X 0 0 (fW ca g K) [(0, .ref (g 0)), (1, .int i), (2, .int x18_2)] [] 18 := by
      intro n18
      induction n18 with
      | zero =>
        intro x18_2 hm18
        exact absurd hm18 (Nat.not_lt_zero _)
      | succ n18 ih18 =>
        intro x18_2 hm18 hq hr18
        rw [NL_X7_worthlessIn_18] at hq
        refine j_iload_n C dX7_worthlessIn_18 rfl ?_
        refine j_sipush C dX7_worthlessIn_19 (1000 : Int32) (by decide) ?_
        refine j_icmp_gt (tgt := 45) C dX7_worthlessIn_22 (by decide) (fun (h22 : (1000 : Int32) < x18_2) => ?_) (fun (h22 : ¬ ((1000 : Int32) < x18_2)) => ?_)
        · have hq := hq.1 h22
          refine j_bipush C dX7_worthlessIn_45 (-5 : Int32) (by decide) ?_
          have e9 : r_X7_worthlessIn K i = (-5 : Int32) := by rw [hr18, L_X7_worthlessIn_18, if_pos h22]
          exact j_iret E dX7_worthlessIn_47 (by rw [e9]; exact ⟨rfl, rfl⟩)
        · have hq := hq.2 h22
          refine j_aload_n C dX7_worthlessIn_25 rfl ?_
          refine j_get C f_X7_10.F 0 dX7_worthlessIn_26 fW_0 rfl ?_
          refine j_iload_n C dX7_worthlessIn_29 rfl ?_
          refine j_iload_n C dX7_worthlessIn_30 rfl ?_
          obtain ⟨hv, hq⟩ := hq
          refine j_callViR C g_X7_236 (c_X0_offerAfter l D ca (fun j => g (10 + j)) (K 0) i x18_2 hv) 10 fW_10 hcl_X0 ⟨Nat.le_of_ble_eq_true rfl, Nat.le_of_ble_eq_true rfl⟩ ⟨Nat.le_of_ble_eq_true rfl, Nat.le_of_ble_eq_true rfl⟩ [10, 11, 12, 13, 14, 15, 16, 17, 18, 19, 20, 21, 22, 23, 24, 25, 26, 27, 28, 29] pl_f_bk_0 rfl rfl rfl (Nat.le_of_ble_eq_true rfl) dX7_worthlessIn_31 ?_
          refine j_if_ne (tgt := 39) C dX7_worthlessIn_34 (by decide) (fun (h34 : ¬ ((r_X0_offerAfter (K 0) i x18_2) = (0 : Int32))) => ?_) (fun (h34 : (r_X0_offerAfter (K 0) i x18_2) = (0 : Int32)) => ?_)
          · have hq := hq.2 h34
            refine j_iinc C [(2, _), (0, _), (1, _)] (v := (x18_2 + (1 : Int32))) dX7_worthlessIn_39 rfl (iinc_1 _) (by decide) rfl ?_
            refine j_goto (tgt := 18) C dX7_worthlessIn_42 (by decide) ?_
            refine j_lv [(0, .ref (g 0)), (1, .int i), (2, .int (x18_2 + (1 : Int32)))] rfl ?_
            exact ih18 (x18_2 + (1 : Int32)) (jms (le_1000 h22) hm18) hq (by rw [hr18, L_X7_worthlessIn_18, if_neg h22, if_neg h34])
          · have hq := hq.1 h34
            refine j_iload_n C dX7_worthlessIn_37 rfl ?_
            have e9 : r_X7_worthlessIn K i = x18_2 := by rw [hr18, L_X7_worthlessIn_18, if_neg h22, if_pos h34]
            exact j_iret E dX7_worthlessIn_38 (by rw [e9]; exact ⟨rfl, rfl⟩)
    refine j_lv [(0, .ref (g 0)), (1, .int i), (2, .int (0 : Int32))] rfl ?_
    exact K18 1002 (0 : Int32) (by decide) hq (by rw [r_X7_worthlessIn, if_neg h11])
  · have hq := hq.1 h11
    refine j_iconst C dX7_worthlessIn_14 (-1 : Int32) (by decide) ?_
    have e9 : r_X7_worthlessIn K i = (-1 : Int32) := by rw [r_X7_worthlessIn, if_pos h11]
    exact j_iret E dX7_worthlessIn_15 (by rw [e9]; exact ⟨rfl, rfl⟩)


def r_X7_count (K : (Nat → jB)) (w : Int32) : Int32 := (if w = (0 : Int32) then (K 0 16 2) else (if w = (1 : Int32) then ((K 0 16 3) + (1000000000 : Int32)) else (if w = (2 : Int32) then (r_X4_allDues (K 0)) else (if w = (3 : Int32) then (r_X0_reserveCents (K 0)) else (if w = (4 : Int32) then (K 0 16 0) else (if w = (5 : Int32) then (K 0 16 1) else (if w = (6 : Int32) then (r_X3_countOfState (K 0) (0 : Int32)) else (if w = (7 : Int32) then (r_X3_countOfState (K 0) (1 : Int32)) else (if w = (8 : Int32) then (r_X3_countOfState (K 0) (2 : Int32)) else (if w = (9 : Int32) then (r_X3_countOfState (K 0) (3 : Int32)) else (if w = (10 : Int32) then (K 0 16 4) else (if w = (11 : Int32) then (K 0 16 5) else (if w = (12 : Int32) then (K 0 16 6) else (if w = (13 : Int32) then (K 0 16 7) else (if w = (14 : Int32) then (K 7 5 3) else (if w = (15 : Int32) then (K 7 5 0) else (-2 : Int32)))))))))))))))))
set_option maxRecDepth 100000 in
set_option maxHeartbeats 4000000 in
theorem c_X7_count (l : Launch) (D : va_G) (ca : Nat → ClassId) (g : Nat → Nat) (K : (Nat → jB)) (w : Int32) : jM l D ca yX7_count cX7_count 2 (some .int) 3 63 0 0 [.ref (g 0), .int w] (fW ca g K) (jD (some (.int (r_X7_count K w))) (fW ca g K)) := by
  refine jM_of [(0, .ref (g 0)), (1, .int w)] (by decide) (Nat.le_of_ble_eq_true rfl) rfl (fun X C E => ?_)
  refine j_iload_n C dX7_count_0 rfl ?_
  by_cases h1_0 : w = (0 : Int32)
  · refine j_tabEq (tgt := 80) C h1_0 dX7_count_1 (by decide) (by decide) (off := 79) rfl (by decide) ?_
    refine j_aload_n C dX7_count_80 rfl ?_
    refine j_get C f_X7_10.F 0 dX7_count_81 fW_0 rfl ?_
    refine j_get C f_X7_156.F 10 dX7_count_84 fW_10 rfl ?_
    have e9 : r_X7_count K w = (K 0 16 2) := by rw [r_X7_count, if_pos h1_0]
    exact j_iret E dX7_count_87 (by rw [e9]; exact ⟨rfl, rfl⟩)
  by_cases h1_1 : w = (1 : Int32)
  · refine j_tabEq (tgt := 88) C h1_1 dX7_count_1 (by decide) (by decide) (off := 87) rfl (by decide) ?_
    refine j_aload_n C dX7_count_88 rfl ?_
    refine j_get C f_X7_10.F 0 dX7_count_89 fW_0 rfl ?_
    refine j_get C f_X7_97.F 10 dX7_count_92 fW_10 rfl ?_
    refine j_ldc C q_363 dX7_count_95 ?_
    refine j_iadd C dX7_count_97 ?_
    have e9 : r_X7_count K w = ((K 0 16 3) + (1000000000 : Int32)) := by rw [r_X7_count, if_neg h1_0, if_pos h1_1]
    exact j_iret E dX7_count_98 (by rw [e9]; exact ⟨rfl, rfl⟩)
  by_cases h1_2 : w = (2 : Int32)
  · refine j_tabEq (tgt := 99) C h1_2 dX7_count_1 (by decide) (by decide) (off := 98) rfl (by decide) ?_
    refine j_aload_n C dX7_count_99 rfl ?_
    refine j_get C f_X7_10.F 0 dX7_count_100 fW_0 rfl ?_
    refine j_get C f_X7_75.F 10 dX7_count_103 fW_10 rfl ?_
    refine j_callViR C g_X7_254 (c_X4_allDues l D ca (fun j => g (10 + j)) (K 0)) 11 fW_11 hcl_X4 ⟨Nat.le_of_ble_eq_true rfl, Nat.le_of_ble_eq_true rfl⟩ ⟨Nat.le_of_ble_eq_true rfl, Nat.le_of_ble_eq_true rfl⟩ [11, 16, 17, 18, 19] pl_f_mb_0 rfl rfl rfl (Nat.le_of_ble_eq_true rfl) dX7_count_106 ?_
    have e9 : r_X7_count K w = (r_X4_allDues (K 0)) := by rw [r_X7_count, if_neg h1_0, if_neg h1_1, if_pos h1_2]
    exact j_iret E dX7_count_109 (by rw [e9]; exact ⟨rfl, rfl⟩)
  by_cases h1_3 : w = (3 : Int32)
  · refine j_tabEq (tgt := 110) C h1_3 dX7_count_1 (by decide) (by decide) (off := 109) rfl (by decide) ?_
    refine j_aload_n C dX7_count_110 rfl ?_
    refine j_get C f_X7_10.F 0 dX7_count_111 fW_0 rfl ?_
    refine j_callViR C g_X7_260 (c_X0_reserveCents l D ca (fun j => g (10 + j)) (K 0)) 10 fW_10 hcl_X0 ⟨Nat.le_of_ble_eq_true rfl, Nat.le_of_ble_eq_true rfl⟩ ⟨Nat.le_of_ble_eq_true rfl, Nat.le_of_ble_eq_true rfl⟩ [10, 11, 12, 13, 14, 15, 16, 17, 18, 19, 20, 21, 22, 23, 24, 25, 26, 27, 28, 29] pl_f_bk_0 rfl rfl rfl (Nat.le_of_ble_eq_true rfl) dX7_count_114 ?_
    have e9 : r_X7_count K w = (r_X0_reserveCents (K 0)) := by rw [r_X7_count, if_neg h1_0, if_neg h1_1, if_neg h1_2, if_pos h1_3]
    exact j_iret E dX7_count_117 (by rw [e9]; exact ⟨rfl, rfl⟩)
  by_cases h1_4 : w = (4 : Int32)
  · refine j_tabEq (tgt := 118) C h1_4 dX7_count_1 (by decide) (by decide) (off := 117) rfl (by decide) ?_
    refine j_aload_n C dX7_count_118 rfl ?_
    refine j_get C f_X7_10.F 0 dX7_count_119 fW_0 rfl ?_
    refine j_get C f_X7_75.F 10 dX7_count_122 fW_10 rfl ?_
    refine j_get C f_X7_79.F 11 dX7_count_125 fW_11 rfl ?_
    have e9 : r_X7_count K w = (K 0 16 0) := by rw [r_X7_count, if_neg h1_0, if_neg h1_1, if_neg h1_2, if_neg h1_3, if_pos h1_4]
    exact j_iret E dX7_count_128 (by rw [e9]; exact ⟨rfl, rfl⟩)
  by_cases h1_5 : w = (5 : Int32)
  · refine j_tabEq (tgt := 129) C h1_5 dX7_count_1 (by decide) (by decide) (off := 128) rfl (by decide) ?_
    refine j_aload_n C dX7_count_129 rfl ?_
    refine j_get C f_X7_10.F 0 dX7_count_130 fW_0 rfl ?_
    refine j_get C f_X7_107.F 10 dX7_count_133 fW_10 rfl ?_
    refine j_get C f_X7_111.F 13 dX7_count_136 fW_13 rfl ?_
    have e9 : r_X7_count K w = (K 0 16 1) := by rw [r_X7_count, if_neg h1_0, if_neg h1_1, if_neg h1_2, if_neg h1_3, if_neg h1_4, if_pos h1_5]
    exact j_iret E dX7_count_139 (by rw [e9]; exact ⟨rfl, rfl⟩)
  by_cases h1_6 : w = (6 : Int32)
  · refine j_tabEq (tgt := 140) C h1_6 dX7_count_1 (by decide) (by decide) (off := 139) rfl (by decide) ?_
    refine j_aload_n C dX7_count_140 rfl ?_
    refine j_get C f_X7_10.F 0 dX7_count_141 fW_0 rfl ?_
    refine j_get C f_X7_107.F 10 dX7_count_144 fW_10 rfl ?_
    refine j_iconst C dX7_count_147 (0 : Int32) (by decide) ?_
    refine j_callViR C g_X7_263 (c_X3_countOfState l D ca (fun j => g (10 + j)) (K 0) (0 : Int32)) 13 fW_13 hcl_X3 ⟨Nat.le_of_ble_eq_true rfl, Nat.le_of_ble_eq_true rfl⟩ ⟨Nat.le_of_ble_eq_true rfl, Nat.le_of_ble_eq_true rfl⟩ [13, 23, 24, 25, 26, 27, 28, 29] pl_f_iv_0 rfl rfl rfl (Nat.le_of_ble_eq_true rfl) dX7_count_148 ?_
    have e9 : r_X7_count K w = (r_X3_countOfState (K 0) (0 : Int32)) := by rw [r_X7_count, if_neg h1_0, if_neg h1_1, if_neg h1_2, if_neg h1_3, if_neg h1_4, if_neg h1_5, if_pos h1_6]
    exact j_iret E dX7_count_151 (by rw [e9]; exact ⟨rfl, rfl⟩)
  by_cases h1_7 : w = (7 : Int32)
  · refine j_tabEq (tgt := 152) C h1_7 dX7_count_1 (by decide) (by decide) (off := 151) rfl (by decide) ?_
    refine j_aload_n C dX7_count_152 rfl ?_
    refine j_get C f_X7_10.F 0 dX7_count_153 fW_0 rfl ?_
    refine j_get C f_X7_107.F 10 dX7_count_156 fW_10 rfl ?_
    refine j_iconst C dX7_count_159 (1 : Int32) (by decide) ?_
    refine j_callViR C g_X7_263 (c_X3_countOfState l D ca (fun j => g (10 + j)) (K 0) (1 : Int32)) 13 fW_13 hcl_X3 ⟨Nat.le_of_ble_eq_true rfl, Nat.le_of_ble_eq_true rfl⟩ ⟨Nat.le_of_ble_eq_true rfl, Nat.le_of_ble_eq_true rfl⟩ [13, 23, 24, 25, 26, 27, 28, 29] pl_f_iv_0 rfl rfl rfl (Nat.le_of_ble_eq_true rfl) dX7_count_160 ?_
    have e9 : r_X7_count K w = (r_X3_countOfState (K 0) (1 : Int32)) := by rw [r_X7_count, if_neg h1_0, if_neg h1_1, if_neg h1_2, if_neg h1_3, if_neg h1_4, if_neg h1_5, if_neg h1_6, if_pos h1_7]
    exact j_iret E dX7_count_163 (by rw [e9]; exact ⟨rfl, rfl⟩)
  by_cases h1_8 : w = (8 : Int32)
  · refine j_tabEq (tgt := 164) C h1_8 dX7_count_1 (by decide) (by decide) (off := 163) rfl (by decide) ?_
    refine j_aload_n C dX7_count_164 rfl ?_
    refine j_get C f_X7_10.F 0 dX7_count_165 fW_0 rfl ?_
    refine j_get C f_X7_107.F 10 dX7_count_168 fW_10 rfl ?_
    refine j_iconst C dX7_count_171 (2 : Int32) (by decide) ?_
    refine j_callViR C g_X7_263 (c_X3_countOfState l D ca (fun j => g (10 + j)) (K 0) (2 : Int32)) 13 fW_13 hcl_X3 ⟨Nat.le_of_ble_eq_true rfl, Nat.le_of_ble_eq_true rfl⟩ ⟨Nat.le_of_ble_eq_true rfl, Nat.le_of_ble_eq_true rfl⟩ [13, 23, 24, 25, 26, 27, 28, 29] pl_f_iv_0 rfl rfl rfl (Nat.le_of_ble_eq_true rfl) dX7_count_172 ?_
    have e9 : r_X7_count K w = (r_X3_countOfState (K 0) (2 : Int32)) := by rw [r_X7_count, if_neg h1_0, if_neg h1_1, if_neg h1_2, if_neg h1_3, if_neg h1_4, if_neg h1_5, if_neg h1_6, if_neg h1_7, if_pos h1_8]
    exact j_iret E dX7_count_175 (by rw [e9]; exact ⟨rfl, rfl⟩)
  by_cases h1_9 : w = (9 : Int32)
  · refine j_tabEq (tgt := 176) C h1_9 dX7_count_1 (by decide) (by decide) (off := 175) rfl (by decide) ?_
    refine j_aload_n C dX7_count_176 rfl ?_
    refine j_get C f_X7_10.F 0 dX7_count_177 fW_0 rfl ?_
    refine j_get C f_X7_107.F 10 dX7_count_180 fW_10 rfl ?_
    refine j_iconst C dX7_count_183 (3 : Int32) (by decide) ?_
    refine j_callViR C g_X7_263 (c_X3_countOfState l D ca (fun j => g (10 + j)) (K 0) (3 : Int32)) 13 fW_13 hcl_X3 ⟨Nat.le_of_ble_eq_true rfl, Nat.le_of_ble_eq_true rfl⟩ ⟨Nat.le_of_ble_eq_true rfl, Nat.le_of_ble_eq_true rfl⟩ [13, 23, 24, 25, 26, 27, 28, 29] pl_f_iv_0 rfl rfl rfl (Nat.le_of_ble_eq_true rfl) dX7_count_184 ?_
    have e9 : r_X7_count K w = (r_X3_countOfState (K 0) (3 : Int32)) := by rw [r_X7_count, if_neg h1_0, if_neg h1_1, if_neg h1_2, if_neg h1_3, if_neg h1_4, if_neg h1_5, if_neg h1_6, if_neg h1_7, if_neg h1_8, if_pos h1_9]
    exact j_iret E dX7_count_187 (by rw [e9]; exact ⟨rfl, rfl⟩)
  by_cases h1_10 : w = (10 : Int32)
  · refine j_tabEq (tgt := 188) C h1_10 dX7_count_1 (by decide) (by decide) (off := 187) rfl (by decide) ?_
    refine j_aload_n C dX7_count_188 rfl ?_
    refine j_get C f_X7_10.F 0 dX7_count_189 fW_0 rfl ?_
    refine j_get C f_X7_266.F 10 dX7_count_192 fW_10 rfl ?_
    have e9 : r_X7_count K w = (K 0 16 4) := by rw [r_X7_count, if_neg h1_0, if_neg h1_1, if_neg h1_2, if_neg h1_3, if_neg h1_4, if_neg h1_5, if_neg h1_6, if_neg h1_7, if_neg h1_8, if_neg h1_9, if_pos h1_10]
    exact j_iret E dX7_count_195 (by rw [e9]; exact ⟨rfl, rfl⟩)
  by_cases h1_11 : w = (11 : Int32)
  · refine j_tabEq (tgt := 196) C h1_11 dX7_count_1 (by decide) (by decide) (off := 195) rfl (by decide) ?_
    refine j_aload_n C dX7_count_196 rfl ?_
    refine j_get C f_X7_10.F 0 dX7_count_197 fW_0 rfl ?_
    refine j_get C f_X7_269.F 10 dX7_count_200 fW_10 rfl ?_
    have e9 : r_X7_count K w = (K 0 16 5) := by rw [r_X7_count, if_neg h1_0, if_neg h1_1, if_neg h1_2, if_neg h1_3, if_neg h1_4, if_neg h1_5, if_neg h1_6, if_neg h1_7, if_neg h1_8, if_neg h1_9, if_neg h1_10, if_pos h1_11]
    exact j_iret E dX7_count_203 (by rw [e9]; exact ⟨rfl, rfl⟩)
  by_cases h1_12 : w = (12 : Int32)
  · refine j_tabEq (tgt := 204) C h1_12 dX7_count_1 (by decide) (by decide) (off := 203) rfl (by decide) ?_
    refine j_aload_n C dX7_count_204 rfl ?_
    refine j_get C f_X7_10.F 0 dX7_count_205 fW_0 rfl ?_
    refine j_get C f_X7_272.F 10 dX7_count_208 fW_10 rfl ?_
    have e9 : r_X7_count K w = (K 0 16 6) := by rw [r_X7_count, if_neg h1_0, if_neg h1_1, if_neg h1_2, if_neg h1_3, if_neg h1_4, if_neg h1_5, if_neg h1_6, if_neg h1_7, if_neg h1_8, if_neg h1_9, if_neg h1_10, if_neg h1_11, if_pos h1_12]
    exact j_iret E dX7_count_211 (by rw [e9]; exact ⟨rfl, rfl⟩)
  by_cases h1_13 : w = (13 : Int32)
  · refine j_tabEq (tgt := 212) C h1_13 dX7_count_1 (by decide) (by decide) (off := 211) rfl (by decide) ?_
    refine j_aload_n C dX7_count_212 rfl ?_
    refine j_get C f_X7_10.F 0 dX7_count_213 fW_0 rfl ?_
    refine j_get C f_X7_275.F 10 dX7_count_216 fW_10 rfl ?_
    have e9 : r_X7_count K w = (K 0 16 7) := by rw [r_X7_count, if_neg h1_0, if_neg h1_1, if_neg h1_2, if_neg h1_3, if_neg h1_4, if_neg h1_5, if_neg h1_6, if_neg h1_7, if_neg h1_8, if_neg h1_9, if_neg h1_10, if_neg h1_11, if_neg h1_12, if_pos h1_13]
    exact j_iret E dX7_count_219 (by rw [e9]; exact ⟨rfl, rfl⟩)
  by_cases h1_14 : w = (14 : Int32)
  · refine j_tabEq (tgt := 220) C h1_14 dX7_count_1 (by decide) (by decide) (off := 219) rfl (by decide) ?_
    refine j_aload_n C dX7_count_220 rfl ?_
    refine j_get C f_X7_25.F 0 dX7_count_221 fW_0 rfl ?_
    refine j_get C f_X7_166.F 1 dX7_count_224 fW_1 rfl ?_
    have e9 : r_X7_count K w = (K 7 5 3) := by rw [r_X7_count, if_neg h1_0, if_neg h1_1, if_neg h1_2, if_neg h1_3, if_neg h1_4, if_neg h1_5, if_neg h1_6, if_neg h1_7, if_neg h1_8, if_neg h1_9, if_neg h1_10, if_neg h1_11, if_neg h1_12, if_neg h1_13, if_pos h1_14]
    exact j_iret E dX7_count_227 (by rw [e9]; exact ⟨rfl, rfl⟩)
  by_cases h1_15 : w = (15 : Int32)
  · refine j_tabEq (tgt := 228) C h1_15 dX7_count_1 (by decide) (by decide) (off := 227) rfl (by decide) ?_
    refine j_aload_n C dX7_count_228 rfl ?_
    refine j_get C f_X7_32.F 0 dX7_count_229 fW_0 rfl ?_
    refine j_get C f_X7_163.F 3 dX7_count_232 fW_3 rfl ?_
    have e9 : r_X7_count K w = (K 7 5 0) := by rw [r_X7_count, if_neg h1_0, if_neg h1_1, if_neg h1_2, if_neg h1_3, if_neg h1_4, if_neg h1_5, if_neg h1_6, if_neg h1_7, if_neg h1_8, if_neg h1_9, if_neg h1_10, if_neg h1_11, if_neg h1_12, if_neg h1_13, if_neg h1_14, if_pos h1_15]
    exact j_iret E dX7_count_235 (by rw [e9]; exact ⟨rfl, rfl⟩)
  refine j_tabOut (tgt := 236) C dX7_count_1 (by have e0 := tab_ne h1_0 0 rfl; have e1 := tab_ne h1_1 1 rfl; have e2 := tab_ne h1_2 2 rfl; have e3 := tab_ne h1_3 3 rfl; have e4 := tab_ne h1_4 4 rfl; have e5 := tab_ne h1_5 5 rfl; have e6 := tab_ne h1_6 6 rfl; have e7 := tab_ne h1_7 7 rfl; have e8 := tab_ne h1_8 8 rfl; have e9 := tab_ne h1_9 9 rfl; have e10 := tab_ne h1_10 10 rfl; have e11 := tab_ne h1_11 11 rfl; have e12 := tab_ne h1_12 12 rfl; have e13 := tab_ne h1_13 13 rfl; have e14 := tab_ne h1_14 14 rfl; have e15 := tab_ne h1_15 15 rfl; omega) (by decide) ?_
  refine j_bipush C dX7_count_236 (-2 : Int32) (by decide) ?_
  have e9 : r_X7_count K w = (-2 : Int32) := by rw [r_X7_count, if_neg h1_0, if_neg h1_1, if_neg h1_2, if_neg h1_3, if_neg h1_4, if_neg h1_5, if_neg h1_6, if_neg h1_7, if_neg h1_8, if_neg h1_9, if_neg h1_10, if_neg h1_11, if_neg h1_12, if_neg h1_13, if_neg h1_14, if_neg h1_15]
  exact j_iret E dX7_count_238 (by rw [e9]; exact ⟨rfl, rfl⟩)
