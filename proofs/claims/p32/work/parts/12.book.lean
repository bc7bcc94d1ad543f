set_option maxRecDepth 100000 in
set_option maxHeartbeats 4000000 in
theorem pl_bk_mb {ca : Nat → ClassId} {g : Nat → Nat} {B : jB} : [1, 6, 7, 8, 9].map (fun i => (bkW ca g B)[i]?) = (mbW ca g B).map some := rfl

def r_X0_reserveCents (B : jB) : Int32 := (((((r_X4_allDues B)).toInt64 * ((B 14 (1 : Int32).toNatClampNeg)).toInt64) / (100 : Int64))).toInt32
set_option maxRecDepth 100000 in
set_option maxHeartbeats 4000000 in
theorem c_X0_reserveCents (l : Launch) (D : va_G) (ca : Nat → ClassId) (g : Nat → Nat) (B : jB) : jM l D ca yX0_reserveCents cX0_reserveCents 1 (some .int) 2 43 0 0 [.ref (g 0)] (bkW ca g B) (jD (some (.int (r_X0_reserveCents B))) (bkW ca g B)) := by
  refine jM_of [(0, .ref (g 0))] (by decide) (Nat.le_of_ble_eq_true rfl) rfl (fun X C E => ?_)
  refine j_aload_n C dX0_reserveCents_0 rfl ?_
  refine j_get C f_X0_12.F 0 dX0_reserveCents_1 bkW_0 rfl ?_
  refine j_callViR C g_X0_43 (c_X4_allDues l D ca g B) 1 bkW_1 hcl_X4 ⟨Nat.le_of_ble_eq_true rfl, Nat.le_of_ble_eq_true rfl⟩ ⟨Nat.le_of_ble_eq_true rfl, Nat.le_of_ble_eq_true rfl⟩ [1, 6, 7, 8, 9] pl_bk_mb rfl rfl rfl (Nat.le_of_ble_eq_true rfl) dX0_reserveCents_4 ?_
  refine j_i2l C dX0_reserveCents_7 ?_
  refine j_aload_n C dX0_reserveCents_8 rfl ?_
  refine j_get C f_X0_36.F 0 dX0_reserveCents_9 bkW_0 rfl ?_
  refine j_iconst C dX0_reserveCents_12 (1 : Int32) (by decide) ?_
  refine j_iald C 5 dX0_reserveCents_13 bkW_5 (vin_c rfl) ?_
  refine j_i2l C dX0_reserveCents_14 ?_
  refine j_lmul C dX0_reserveCents_15 ?_
  refine j_ldc2 C q_349 dX0_reserveCents_16 ?_
  refine j_ldiv C dX0_reserveCents_19 (by decide) ?_
  refine j_l2i C dX0_reserveCents_20 ?_
  have e9 : r_X0_reserveCents B = (((((r_X4_allDues B)).toInt64 * ((B 14 (1 : Int32).toNatClampNeg)).toInt64) / (100 : Int64))).toInt32 := by rw [r_X0_reserveCents]
  exact j_iret E dX0_reserveCents_21 (by rw [e9]; exact ⟨rfl, rfl⟩)
set_option maxRecDepth 100000 in
set_option maxHeartbeats 4000000 in
theorem pl_bk_iv {ca : Nat → ClassId} {g : Nat → Nat} {B : jB} : [3, 13, 14, 15, 16, 17, 18, 19].map (fun i => (bkW ca g B)[i]?) = (ivW ca g B).map some := rfl

def r_X0_ageOf (B : jB) (i : Int32) : Int32 := (if (r_X3_has B i) = (0 : Int32) then (0 : Int32) else ((B 16 2) - (B 10 i.toNatClampNeg)))
set_option maxRecDepth 100000 in
set_option maxHeartbeats 4000000 in
theorem c_X0_ageOf (l : Launch) (D : va_G) (ca : Nat → ClassId) (g : Nat → Nat) (B : jB) (i : Int32) : jM l D ca yX0_ageOf cX0_ageOf 2 (some .int) 1 21 0 0 [.ref (g 0), .int i] (bkW ca g B) (jD (some (.int (r_X0_ageOf B i))) (bkW ca g B)) := by
  refine jM_of [(0, .ref (g 0)), (1, .int i)] (by decide) (Nat.le_of_ble_eq_true rfl) rfl (fun X C E => ?_)
  refine j_aload_n C dX0_ageOf_0 rfl ?_
  refine j_get C f_X0_28.F 0 dX0_ageOf_1 bkW_0 rfl ?_
  refine j_iload_n C dX0_ageOf_4 rfl ?_
  refine j_callViR C g_X0_49 (c_X3_has l D ca g B i) 3 bkW_3 hcl_X3 ⟨Nat.le_of_ble_eq_true rfl, Nat.le_of_ble_eq_true rfl⟩ ⟨Nat.le_of_ble_eq_true rfl, Nat.le_of_ble_eq_true rfl⟩ [3, 13, 14, 15, 16, 17, 18, 19] pl_bk_iv rfl rfl rfl (Nat.le_of_ble_eq_true rfl) dX0_ageOf_5 ?_
  refine j_if_eq (tgt := 28) C dX0_ageOf_8 (by decide) (fun (h8 : (r_X3_has B i) = (0 : Int32)) => ?_) (fun (h8 : ¬ ((r_X3_has B i) = (0 : Int32))) => ?_)
  · refine j_iconst C dX0_ageOf_28 (0 : Int32) (by decide) ?_
    have e9 : r_X0_ageOf B i = (0 : Int32) := by rw [r_X0_ageOf, if_pos h8]
    exact j_iret E dX0_ageOf_29 (by rw [e9]; exact ⟨rfl, rfl⟩)
  · refine j_aload_n C dX0_ageOf_11 rfl ?_
    refine j_get C f_X0_53.F 0 dX0_ageOf_12 bkW_0 rfl ?_
    refine j_aload_n C dX0_ageOf_15 rfl ?_
    refine j_get C f_X0_28.F 0 dX0_ageOf_16 bkW_0 rfl ?_
    refine j_get C f_X0_57.F 3 dX0_ageOf_19 bkW_3 rfl ?_
    refine j_iload_n C dX0_ageOf_22 rfl ?_
    refine j_iald C 16 dX0_ageOf_23 bkW_16 (has_X3 h8) ?_
    refine j_isub C dX0_ageOf_24 ?_
    refine j_goto (tgt := 29) C dX0_ageOf_25 (by decide) ?_
    have e9 : r_X0_ageOf B i = ((B 16 2) - (B 10 i.toNatClampNeg)) := by rw [r_X0_ageOf, if_neg h8]
    exact j_iret E dX0_ageOf_29 (by rw [e9]; exact ⟨rfl, rfl⟩)


def r_X0_lateAfter (B : jB) (i : Int32) (days : Int32) : Int32 := (if ((r_X0_ageOf B i) + days) ≤ (0 : Int32) then (0 : Int32) else ((r_X0_ageOf B i) + days))
set_option maxRecDepth 100000 in
set_option maxHeartbeats 4000000 in
theorem c_X0_lateAfter (l : Launch) (D : va_G) (ca : Nat → ClassId) (g : Nat → Nat) (B : jB) (i : Int32) (days : Int32) : jM l D ca yX0_lateAfter cX0_lateAfter 4 (some .int) 2 42 0 0 [.ref (g 0), .int i, .int days] (bkW ca g B) (jD (some (.int (r_X0_lateAfter B i days))) (bkW ca g B)) := by
  refine jM_of [(0, .ref (g 0)), (1, .int i), (2, .int days)] (by decide) (Nat.le_of_ble_eq_true rfl) rfl (fun X C E => ?_)
  refine j_aload_n C dX0_lateAfter_0 rfl ?_
  refine j_iload_n C dX0_lateAfter_1 rfl ?_
  refine j_callViRW C g_X0_60 (c_X0_ageOf l D ca g B i) 0 bkW_0 hcl_X0 ⟨Nat.le_of_ble_eq_true rfl, Nat.le_of_ble_eq_true rfl⟩ ⟨Nat.le_of_ble_eq_true rfl, Nat.le_of_ble_eq_true rfl⟩ rfl rfl (Nat.le_of_ble_eq_true rfl) dX0_lateAfter_2 ?_
  refine j_iload_n C dX0_lateAfter_5 rfl ?_
  refine j_iadd C dX0_lateAfter_6 ?_
  refine j_istore_n C [(3, _), (0, _), (1, _), (2, _)] dX0_lateAfter_7 (by decide) rfl ?_
  refine j_iload_n C dX0_lateAfter_8 rfl ?_
  refine j_if_le (tgt := 16) C dX0_lateAfter_9 (by decide) (fun (h9 : ((r_X0_ageOf B i) + days) ≤ (0 : Int32)) => ?_) (fun (h9 : ¬ (((r_X0_ageOf B i) + days) ≤ (0 : Int32))) => ?_)
  · refine j_iconst C dX0_lateAfter_16 (0 : Int32) (by decide) ?_
    have e9 : r_X0_lateAfter B i days = (0 : Int32) := by rw [r_X0_lateAfter, if_pos h9]
    exact j_iret E dX0_lateAfter_17 (by rw [e9]; exact ⟨rfl, rfl⟩)
  · refine j_iload_n C dX0_lateAfter_12 rfl ?_
    refine j_goto (tgt := 17) C dX0_lateAfter_13 (by decide) ?_
    have e9 : r_X0_lateAfter B i days = ((r_X0_ageOf B i) + days) := by rw [r_X0_lateAfter, if_neg h9]
    exact j_iret E dX0_lateAfter_17 (by rw [e9]; exact ⟨rfl, rfl⟩)
set_option maxRecDepth 100000 in
set_option maxHeartbeats 4000000 in
theorem pl_bk_cl {ca : Nat → ClassId} {g : Nat → Nat} {B : jB} : [2, 10, 11, 12].map (fun i => (bkW ca g B)[i]?) = (clW ca g B).map some := rfl

def r_X0_rateAfter (B : jB) (i : Int32) (days : Int32) : UInt32 := (if (r_X3_has B i) = (0 : Int32) then (r_X7_noNumber) else (if (Op.cmpValue (FP.fcmp (FP.fsub ((B 15 (0 : Int32).toNatClampNeg).toUInt32) (FP.fmul ((B 15 (1 : Int32).toNatClampNeg).toUInt32) (FP.i2f (r_X0_lateAfter B i days)))) (0x00000000 : UInt32)) CmpOp.l) ≤ (0 : Int32) then (FP.fmul (0x00000000 : UInt32) (FP.fsub (0x3f800000 : UInt32) (r_X1_riskOf B (B 8 i.toNatClampNeg)))) else (FP.fmul (FP.fsub ((B 15 (0 : Int32).toNatClampNeg).toUInt32) (FP.fmul ((B 15 (1 : Int32).toNatClampNeg).toUInt32) (FP.i2f (r_X0_lateAfter B i days)))) (FP.fsub (0x3f800000 : UInt32) (r_X1_riskOf B (B 8 i.toNatClampNeg))))))
def n_X0_rateAfter (B : jB) (i : Int32) (days : Int32) : Prop := (((r_X3_has B i) = (0 : Int32) → True) ∧ (¬ ((r_X3_has B i) = (0 : Int32)) → (vf_n32 (FP.fmul ((B 15 (1 : Int32).toNatClampNeg).toUInt32) (FP.i2f (r_X0_lateAfter B i days))) ∧ (vf_n32 (FP.fsub ((B 15 (0 : Int32).toNatClampNeg).toUInt32) (FP.fmul ((B 15 (1 : Int32).toNatClampNeg).toUInt32) (FP.i2f (r_X0_lateAfter B i days)))) ∧ (((Op.cmpValue (FP.fcmp (FP.fsub ((B 15 (0 : Int32).toNatClampNeg).toUInt32) (FP.fmul ((B 15 (1 : Int32).toNatClampNeg).toUInt32) (FP.i2f (r_X0_lateAfter B i days)))) (0x00000000 : UInt32)) CmpOp.l) ≤ (0 : Int32) → ((n_X1_riskOf B (B 8 i.toNatClampNeg)) ∧ (vf_n32 (FP.fsub (0x3f800000 : UInt32) (r_X1_riskOf B (B 8 i.toNatClampNeg))) ∧ (vf_n32 (FP.fmul (0x00000000 : UInt32) (FP.fsub (0x3f800000 : UInt32) (r_X1_riskOf B (B 8 i.toNatClampNeg)))) ∧ True)))) ∧ (¬ ((Op.cmpValue (FP.fcmp (FP.fsub ((B 15 (0 : Int32).toNatClampNeg).toUInt32) (FP.fmul ((B 15 (1 : Int32).toNatClampNeg).toUInt32) (FP.i2f (r_X0_lateAfter B i days)))) (0x00000000 : UInt32)) CmpOp.l) ≤ (0 : Int32)) → ((n_X1_riskOf B (B 8 i.toNatClampNeg)) ∧ (vf_n32 (FP.fsub (0x3f800000 : UInt32) (r_X1_riskOf B (B 8 i.toNatClampNeg))) ∧ (vf_n32 (FP.fmul (FP.fsub ((B 15 (0 : Int32).toNatClampNeg).toUInt32) (FP.fmul ((B 15 (1 : Int32).toNatClampNeg).toUInt32) (FP.i2f (r_X0_lateAfter B i days)))) (FP.fsub (0x3f800000 : UInt32) (r_X1_riskOf B (B 8 i.toNatClampNeg)))) ∧ True)))))))))
set_option maxRecDepth 100000 in
set_option maxHeartbeats 4000000 in
theorem c_X0_rateAfter (l : Launch) (D : va_G) (ca : Nat → ClassId) (g : Nat → Nat) (B : jB) (i : Int32) (days : Int32) (hq : n_X0_rateAfter B i days) : jM l D ca yX0_rateAfter cX0_rateAfter 5 (Option.some FieldType.float) 3 65 0 0 [.ref (g 0), .int i, .int days] (bkW ca g B) (jD (some (.float (r_X0_rateAfter B i days))) (bkW ca g B)) := by
  refine jM_of [(0, .ref (g 0)), (1, .int i), (2, .int days)] (by decide) (Nat.le_of_ble_eq_true rfl) rfl (fun X C E => ?_)
  rw [n_X0_rateAfter] at hq
  refine j_aload_n C dX0_rateAfter_0 rfl ?_
  refine j_get C f_X0_28.F 0 dX0_rateAfter_1 bkW_0 rfl ?_
  refine j_iload_n C dX0_rateAfter_4 rfl ?_
  refine j_callViR C g_X0_49 (c_X3_has l D ca g B i) 3 bkW_3 hcl_X3 ⟨Nat.le_of_ble_eq_true rfl, Nat.le_of_ble_eq_true rfl⟩ ⟨Nat.le_of_ble_eq_true rfl, Nat.le_of_ble_eq_true rfl⟩ [3, 13, 14, 15, 16, 17, 18, 19] pl_bk_iv rfl rfl rfl (Nat.le_of_ble_eq_true rfl) dX0_rateAfter_5 ?_
  refine j_if_ne (tgt := 15) C dX0_rateAfter_8 (by decide) (fun (h8 : ¬ ((r_X3_has B i) = (0 : Int32))) => ?_) (fun (h8 : (r_X3_has B i) = (0 : Int32)) => ?_)
  · have hq := hq.2 h8
    refine j_aload_n C dX0_rateAfter_15 rfl ?_
    refine j_get C f_X0_32.F 0 dX0_rateAfter_16 bkW_0 rfl ?_
    refine j_iconst C dX0_rateAfter_19 (0 : Int32) (by decide) ?_
    refine j_fald C 4 dX0_rateAfter_20 bkW_4 (vin_c rfl) ?_
    refine j_aload_n C dX0_rateAfter_21 rfl ?_
    refine j_get C f_X0_32.F 0 dX0_rateAfter_22 bkW_0 rfl ?_
    refine j_iconst C dX0_rateAfter_25 (1 : Int32) (by decide) ?_
    refine j_fald C 4 dX0_rateAfter_26 bkW_4 (vin_c rfl) ?_
    refine j_aload_n C dX0_rateAfter_27 rfl ?_
    refine j_iload_n C dX0_rateAfter_28 rfl ?_
    refine j_iload_n C dX0_rateAfter_29 rfl ?_
    refine j_callViRW C g_X0_68 (c_X0_lateAfter l D ca g B i days) 0 bkW_0 hcl_X0 ⟨Nat.le_of_ble_eq_true rfl, Nat.le_of_ble_eq_true rfl⟩ ⟨Nat.le_of_ble_eq_true rfl, Nat.le_of_ble_eq_true rfl⟩ rfl rfl (Nat.le_of_ble_eq_true rfl) dX0_rateAfter_30 ?_
    refine j_i2f C dX0_rateAfter_33 ?_
    obtain ⟨hv, hq⟩ := hq
    refine j_fmul C dX0_rateAfter_34 hv ?_
    obtain ⟨hv, hq⟩ := hq
    refine j_fsub C dX0_rateAfter_35 hv ?_
    refine j_fstore_n C [(3, _), (0, _), (1, _), (2, _)] dX0_rateAfter_36 (by decide) rfl ?_
    refine j_fload_n C dX0_rateAfter_37 rfl ?_
    refine j_fconst0 C dX0_rateAfter_38 ?_
    refine j_fcmp C dX0_rateAfter_39 ?_
    refine j_if_le (tgt := 47) C dX0_rateAfter_40 (by decide) (fun (h40 : (Op.cmpValue (FP.fcmp (FP.fsub ((B 15 (0 : Int32).toNatClampNeg).toUInt32) (FP.fmul ((B 15 (1 : Int32).toNatClampNeg).toUInt32) (FP.i2f (r_X0_lateAfter B i days)))) (0x00000000 : UInt32)) CmpOp.l) ≤ (0 : Int32)) => ?_) (fun (h40 : ¬ ((Op.cmpValue (FP.fcmp (FP.fsub ((B 15 (0 : Int32).toNatClampNeg).toUInt32) (FP.fmul ((B 15 (1 : Int32).toNatClampNeg).toUInt32) (FP.i2f (r_X0_lateAfter B i days)))) (0x00000000 : UInt32)) CmpOp.l) ≤ (0 : Int32))) => ?_)
    · have hq := hq.1 h40
      refine j_fconst0 C dX0_rateAfter_47 ?_
      refine j_fstore C [(4, _), (3, _), (0, _), (1, _), (2, _)] dX0_rateAfter_48 (by decide) rfl ?_
      refine j_fload C dX0_rateAfter_50 rfl ?_
      refine j_fconst1 C dX0_rateAfter_52 ?_
      refine j_aload_n C dX0_rateAfter_53 rfl ?_
      refine j_get C f_X0_21.F 0 dX0_rateAfter_54 bkW_0 rfl ?_
      refine j_aload_n C dX0_rateAfter_57 rfl ?_
      refine j_get C f_X0_28.F 0 dX0_rateAfter_58 bkW_0 rfl ?_
      refine j_get C f_X0_72.F 3 dX0_rateAfter_61 bkW_3 rfl ?_
      refine j_iload_n C dX0_rateAfter_64 rfl ?_
      refine j_iald C 14 dX0_rateAfter_65 bkW_14 (has_X3 h8) ?_
      obtain ⟨hv, hq⟩ := hq
      refine j_callVfR C g_X0_75 (c_X1_riskOf l D ca g B (B 8 i.toNatClampNeg) hv) 2 bkW_2 hcl_X1 ⟨Nat.le_of_ble_eq_true rfl, Nat.le_of_ble_eq_true rfl⟩ ⟨Nat.le_of_ble_eq_true rfl, Nat.le_of_ble_eq_true rfl⟩ [2, 10, 11, 12] pl_bk_cl rfl rfl rfl (Nat.le_of_ble_eq_true rfl) dX0_rateAfter_66 ?_
      obtain ⟨hv, hq⟩ := hq
      refine j_fsub C dX0_rateAfter_69 hv ?_
      obtain ⟨hv, hq⟩ := hq
      refine j_fmul C dX0_rateAfter_70 hv ?_
      have e9 : r_X0_rateAfter B i days = (FP.fmul (0x00000000 : UInt32) (FP.fsub (0x3f800000 : UInt32) (r_X1_riskOf B (B 8 i.toNatClampNeg)))) := by rw [r_X0_rateAfter, if_neg h8, if_pos h40]
      exact j_fret E dX0_rateAfter_71 (by rw [e9]; exact ⟨rfl, rfl⟩)
    · have hq := hq.2 h40
      refine j_fload_n C dX0_rateAfter_43 rfl ?_
      refine j_goto (tgt := 48) C dX0_rateAfter_44 (by decide) ?_
      refine j_fstore C [(4, _), (3, _), (0, _), (1, _), (2, _)] dX0_rateAfter_48 (by decide) rfl ?_
      refine j_fload C dX0_rateAfter_50 rfl ?_
      refine j_fconst1 C dX0_rateAfter_52 ?_
      refine j_aload_n C dX0_rateAfter_53 rfl ?_
      refine j_get C f_X0_21.F 0 dX0_rateAfter_54 bkW_0 rfl ?_
      refine j_aload_n C dX0_rateAfter_57 rfl ?_
      refine j_get C f_X0_28.F 0 dX0_rateAfter_58 bkW_0 rfl ?_
      refine j_get C f_X0_72.F 3 dX0_rateAfter_61 bkW_3 rfl ?_
      refine j_iload_n C dX0_rateAfter_64 rfl ?_
      refine j_iald C 14 dX0_rateAfter_65 bkW_14 (has_X3 h8) ?_
      obtain ⟨hv, hq⟩ := hq
      refine j_callVfR C g_X0_75 (c_X1_riskOf l D ca g B (B 8 i.toNatClampNeg) hv) 2 bkW_2 hcl_X1 ⟨Nat.le_of_ble_eq_true rfl, Nat.le_of_ble_eq_true rfl⟩ ⟨Nat.le_of_ble_eq_true rfl, Nat.le_of_ble_eq_true rfl⟩ [2, 10, 11, 12] pl_bk_cl rfl rfl rfl (Nat.le_of_ble_eq_true rfl) dX0_rateAfter_66 ?_
      obtain ⟨hv, hq⟩ := hq
      refine j_fsub C dX0_rateAfter_69 hv ?_
      obtain ⟨hv, hq⟩ := hq
      refine j_fmul C dX0_rateAfter_70 hv ?_
      have e9 : r_X0_rateAfter B i days = (FP.fmul (FP.fsub ((B 15 (0 : Int32).toNatClampNeg).toUInt32) (FP.fmul ((B 15 (1 : Int32).toNatClampNeg).toUInt32) (FP.i2f (r_X0_lateAfter B i days)))) (FP.fsub (0x3f800000 : UInt32) (r_X1_riskOf B (B 8 i.toNatClampNeg)))) := by rw [r_X0_rateAfter, if_neg h8, if_neg h40]
      exact j_fret E dX0_rateAfter_71 (by rw [e9]; exact ⟨rfl, rfl⟩)
  · have hq := hq.1 h8
    refine j_callSNfR C g_X0_64 (c_X7_noNumber l D ca) ⟨Nat.le_of_ble_eq_true rfl, Nat.le_of_ble_eq_true rfl⟩ ⟨Nat.le_of_ble_eq_true rfl, Nat.le_of_ble_eq_true rfl⟩ [] rfl rfl rfl rfl (Nat.le_of_ble_eq_true rfl) dX0_rateAfter_11 ?_
    have e9 : r_X0_rateAfter B i days = (r_X7_noNumber) := by rw [r_X0_rateAfter, if_pos h8]
    exact j_fret E dX0_rateAfter_14 (by rw [e9]; exact ⟨rfl, rfl⟩)


def r_X0_offerAfter (B : jB) (i : Int32) (days : Int32) : Int32 := (if (r_X3_has B i) = (0 : Int32) then (0 : Int32) else (FP.f2i (FP.fmul (FP.i2f (B 9 i.toNatClampNeg)) (r_X0_rateAfter B i days))))
def n_X0_offerAfter (B : jB) (i : Int32) (days : Int32) : Prop := (((r_X3_has B i) = (0 : Int32) → True) ∧ (¬ ((r_X3_has B i) = (0 : Int32)) → ((n_X0_rateAfter B i days) ∧ (vf_n32 (FP.fmul (FP.i2f (B 9 i.toNatClampNeg)) (r_X0_rateAfter B i days)) ∧ True))))
set_option maxRecDepth 100000 in
set_option maxHeartbeats 4000000 in
theorem c_X0_offerAfter (l : Launch) (D : va_G) (ca : Nat → ClassId) (g : Nat → Nat) (B : jB) (i : Int32) (days : Int32) (hq : n_X0_offerAfter B i days) : jM l D ca yX0_offerAfter cX0_offerAfter 3 (some .int) 4 89 0 0 [.ref (g 0), .int i, .int days] (bkW ca g B) (jD (some (.int (r_X0_offerAfter B i days))) (bkW ca g B)) := by
  refine jM_of [(0, .ref (g 0)), (1, .int i), (2, .int days)] (by decide) (Nat.le_of_ble_eq_true rfl) rfl (fun X C E => ?_)
  rw [n_X0_offerAfter] at hq
  refine j_aload_n C dX0_offerAfter_0 rfl ?_
  refine j_get C f_X0_28.F 0 dX0_offerAfter_1 bkW_0 rfl ?_
  refine j_iload_n C dX0_offerAfter_4 rfl ?_
  refine j_callViR C g_X0_49 (c_X3_has l D ca g B i) 3 bkW_3 hcl_X3 ⟨Nat.le_of_ble_eq_true rfl, Nat.le_of_ble_eq_true rfl⟩ ⟨Nat.le_of_ble_eq_true rfl, Nat.le_of_ble_eq_true rfl⟩ [3, 13, 14, 15, 16, 17, 18, 19] pl_bk_iv rfl rfl rfl (Nat.le_of_ble_eq_true rfl) dX0_offerAfter_5 ?_
  refine j_if_ne (tgt := 13) C dX0_offerAfter_8 (by decide) (fun (h8 : ¬ ((r_X3_has B i) = (0 : Int32))) => ?_) (fun (h8 : (r_X3_has B i) = (0 : Int32)) => ?_)
  · have hq := hq.2 h8
    refine j_aload_n C dX0_offerAfter_13 rfl ?_
    refine j_get C f_X0_28.F 0 dX0_offerAfter_14 bkW_0 rfl ?_
    refine j_get C f_X0_79.F 3 dX0_offerAfter_17 bkW_3 rfl ?_
    refine j_iload_n C dX0_offerAfter_20 rfl ?_
    refine j_iald C 15 dX0_offerAfter_21 bkW_15 (has_X3 h8) ?_
    refine j_i2f C dX0_offerAfter_22 ?_
    refine j_aload_n C dX0_offerAfter_23 rfl ?_
    refine j_iload_n C dX0_offerAfter_24 rfl ?_
    refine j_iload_n C dX0_offerAfter_25 rfl ?_
    obtain ⟨hv, hq⟩ := hq
    refine j_callVfRW C g_X0_82 (c_X0_rateAfter l D ca g B i days hv) 0 bkW_0 hcl_X0 ⟨Nat.le_of_ble_eq_true rfl, Nat.le_of_ble_eq_true rfl⟩ ⟨Nat.le_of_ble_eq_true rfl, Nat.le_of_ble_eq_true rfl⟩ rfl rfl (Nat.le_of_ble_eq_true rfl) dX0_offerAfter_26 ?_
    obtain ⟨hv, hq⟩ := hq
    refine j_fmul C dX0_offerAfter_29 hv ?_
    refine j_f2i C dX0_offerAfter_30 ?_
    have e9 : r_X0_offerAfter B i days = (FP.f2i (FP.fmul (FP.i2f (B 9 i.toNatClampNeg)) (r_X0_rateAfter B i days))) := by rw [r_X0_offerAfter, if_neg h8]
    exact j_iret E dX0_offerAfter_31 (by rw [e9]; exact ⟨rfl, rfl⟩)
  · have hq := hq.1 h8
    refine j_iconst C dX0_offerAfter_11 (0 : Int32) (by decide) ?_
    have e9 : r_X0_offerAfter B i days = (0 : Int32) := by rw [r_X0_offerAfter, if_pos h8]
    exact j_iret E dX0_offerAfter_12 (by rw [e9]; exact ⟨rfl, rfl⟩)


def r_X0_worthOf (B : jB) (i : Int32) : UInt32 := (if (r_X3_has B i) = (0 : Int32) then (r_X7_noNumber) else (FP.fsub (FP.fmul (FP.i2f ((B 9 i.toNatClampNeg) - (r_X0_offerAfter B i (0 : Int32)))) (FP.fsub (0x3f800000 : UInt32) (r_X1_riskOf B (B 8 i.toNatClampNeg)))) (FP.fmul (FP.i2f (r_X0_offerAfter B i (0 : Int32))) (r_X1_riskOf B (B 8 i.toNatClampNeg)))))
def n_X0_worthOf (B : jB) (i : Int32) : Prop := (((r_X3_has B i) = (0 : Int32) → True) ∧ (¬ ((r_X3_has B i) = (0 : Int32)) → ((n_X0_offerAfter B i (0 : Int32)) ∧ ((n_X1_riskOf B (B 8 i.toNatClampNeg)) ∧ (vf_n32 (FP.fsub (0x3f800000 : UInt32) (r_X1_riskOf B (B 8 i.toNatClampNeg))) ∧ (vf_n32 (FP.fmul (FP.i2f ((B 9 i.toNatClampNeg) - (r_X0_offerAfter B i (0 : Int32)))) (FP.fsub (0x3f800000 : UInt32) (r_X1_riskOf B (B 8 i.toNatClampNeg)))) ∧ (vf_n32 (FP.fmul (FP.i2f (r_X0_offerAfter B i (0 : Int32))) (r_X1_riskOf B (B 8 i.toNatClampNeg))) ∧ (vf_n32 (FP.fsub (FP.fmul (FP.i2f ((B 9 i.toNatClampNeg) - (r_X0_offerAfter B i (0 : Int32)))) (FP.fsub (0x3f800000 : UInt32) (r_X1_riskOf B (B 8 i.toNatClampNeg)))) (FP.fmul (FP.i2f (r_X0_offerAfter B i (0 : Int32))) (r_X1_riskOf B (B 8 i.toNatClampNeg)))) ∧ True))))))))
set_option maxRecDepth 100000 in
set_option maxHeartbeats 4000000 in
theorem c_X0_worthOf (l : Launch) (D : va_G) (ca : Nat → ClassId) (g : Nat → Nat) (B : jB) (i : Int32) (hq : n_X0_worthOf B i) : jM l D ca yX0_worthOf cX0_worthOf 5 (Option.some FieldType.float) 5 111 0 0 [.ref (g 0), .int i] (bkW ca g B) (jD (some (.float (r_X0_worthOf B i))) (bkW ca g B)) := by
  refine jM_of [(0, .ref (g 0)), (1, .int i)] (by decide) (Nat.le_of_ble_eq_true rfl) rfl (fun X C E => ?_)
  rw [n_X0_worthOf] at hq
  refine j_aload_n C dX0_worthOf_0 rfl ?_
  refine j_get C f_X0_28.F 0 dX0_worthOf_1 bkW_0 rfl ?_
  refine j_iload_n C dX0_worthOf_4 rfl ?_
  refine j_callViR C g_X0_49 (c_X3_has l D ca g B i) 3 bkW_3 hcl_X3 ⟨Nat.le_of_ble_eq_true rfl, Nat.le_of_ble_eq_true rfl⟩ ⟨Nat.le_of_ble_eq_true rfl, Nat.le_of_ble_eq_true rfl⟩ [3, 13, 14, 15, 16, 17, 18, 19] pl_bk_iv rfl rfl rfl (Nat.le_of_ble_eq_true rfl) dX0_worthOf_5 ?_
  refine j_if_ne (tgt := 15) C dX0_worthOf_8 (by decide) (fun (h8 : ¬ ((r_X3_has B i) = (0 : Int32))) => ?_) (fun (h8 : (r_X3_has B i) = (0 : Int32)) => ?_)
  · have hq := hq.2 h8
    refine j_aload_n C dX0_worthOf_15 rfl ?_
    refine j_iload_n C dX0_worthOf_16 rfl ?_
    refine j_iconst C dX0_worthOf_17 (0 : Int32) (by decide) ?_
    obtain ⟨hv, hq⟩ := hq
    refine j_callViRW C g_X0_86 (c_X0_offerAfter l D ca g B i (0 : Int32) hv) 0 bkW_0 hcl_X0 ⟨Nat.le_of_ble_eq_true rfl, Nat.le_of_ble_eq_true rfl⟩ ⟨Nat.le_of_ble_eq_true rfl, Nat.le_of_ble_eq_true rfl⟩ rfl rfl (Nat.le_of_ble_eq_true rfl) dX0_worthOf_18 ?_
    refine j_istore_n C [(2, _), (0, _), (1, _)] dX0_worthOf_21 (by decide) rfl ?_
    refine j_aload_n C dX0_worthOf_22 rfl ?_
    refine j_get C f_X0_21.F 0 dX0_worthOf_23 bkW_0 rfl ?_
    refine j_aload_n C dX0_worthOf_26 rfl ?_
    refine j_get C f_X0_28.F 0 dX0_worthOf_27 bkW_0 rfl ?_
    refine j_get C f_X0_72.F 3 dX0_worthOf_30 bkW_3 rfl ?_
    refine j_iload_n C dX0_worthOf_33 rfl ?_
    refine j_iald C 14 dX0_worthOf_34 bkW_14 (has_X3 h8) ?_
    obtain ⟨hv, hq⟩ := hq
    refine j_callVfR C g_X0_75 (c_X1_riskOf l D ca g B (B 8 i.toNatClampNeg) hv) 2 bkW_2 hcl_X1 ⟨Nat.le_of_ble_eq_true rfl, Nat.le_of_ble_eq_true rfl⟩ ⟨Nat.le_of_ble_eq_true rfl, Nat.le_of_ble_eq_true rfl⟩ [2, 10, 11, 12] pl_bk_cl rfl rfl rfl (Nat.le_of_ble_eq_true rfl) dX0_worthOf_35 ?_
    refine j_fstore_n C [(3, _), (2, _), (0, _), (1, _)] dX0_worthOf_38 (by decide) rfl ?_
    refine j_aload_n C dX0_worthOf_39 rfl ?_
    refine j_get C f_X0_28.F 0 dX0_worthOf_40 bkW_0 rfl ?_
    refine j_get C f_X0_79.F 3 dX0_worthOf_43 bkW_3 rfl ?_
    refine j_iload_n C dX0_worthOf_46 rfl ?_
    refine j_iald C 15 dX0_worthOf_47 bkW_15 (has_X3 h8) ?_
    refine j_iload_n C dX0_worthOf_48 rfl ?_
    refine j_isub C dX0_worthOf_49 ?_
    refine j_i2f C dX0_worthOf_50 ?_
    refine j_fconst1 C dX0_worthOf_51 ?_
    refine j_fload_n C dX0_worthOf_52 rfl ?_
    obtain ⟨hv, hq⟩ := hq
    refine j_fsub C dX0_worthOf_53 hv ?_
    obtain ⟨hv, hq⟩ := hq
    refine j_fmul C dX0_worthOf_54 hv ?_
    refine j_fstore C [(4, _), (3, _), (2, _), (0, _), (1, _)] dX0_worthOf_55 (by decide) rfl ?_
    refine j_fload C dX0_worthOf_57 rfl ?_
    refine j_iload_n C dX0_worthOf_59 rfl ?_
    refine j_i2f C dX0_worthOf_60 ?_
    refine j_fload_n C dX0_worthOf_61 rfl ?_
    obtain ⟨hv, hq⟩ := hq
    refine j_fmul C dX0_worthOf_62 hv ?_
    obtain ⟨hv, hq⟩ := hq
    refine j_fsub C dX0_worthOf_63 hv ?_
    have e9 : r_X0_worthOf B i = (FP.fsub (FP.fmul (FP.i2f ((B 9 i.toNatClampNeg) - (r_X0_offerAfter B i (0 : Int32)))) (FP.fsub (0x3f800000 : UInt32) (r_X1_riskOf B (B 8 i.toNatClampNeg)))) (FP.fmul (FP.i2f (r_X0_offerAfter B i (0 : Int32))) (r_X1_riskOf B (B 8 i.toNatClampNeg)))) := by rw [r_X0_worthOf, if_neg h8]
    exact j_fret E dX0_worthOf_64 (by rw [e9]; exact ⟨rfl, rfl⟩)
  · have hq := hq.1 h8
    refine j_callSNfR C g_X0_64 (c_X7_noNumber l D ca) ⟨Nat.le_of_ble_eq_true rfl, Nat.le_of_ble_eq_true rfl⟩ ⟨Nat.le_of_ble_eq_true rfl, Nat.le_of_ble_eq_true rfl⟩ [] rfl rfl rfl rfl (Nat.le_of_ble_eq_true rfl) dX0_worthOf_11 ?_
    have e9 : r_X0_worthOf B i = (r_X7_noNumber) := by rw [r_X0_worthOf, if_pos h8]
    exact j_fret E dX0_worthOf_14 (by rw [e9]; exact ⟨rfl, rfl⟩)


def r_X0_canPayAhead (B : jB) (i : Int32) : Int32 := (if (r_X3_has B i) = (0 : Int32) then (0 : Int32) else (if (B 11 i.toNatClampNeg) = (0 : Int32) then (if (B 12 i.toNatClampNeg) = (0 : Int32) then (if (B 14 (0 : Int32).toNatClampNeg) ≤ (r_X0_ageOf B i) then (if (r_X0_offerAfter B i (0 : Int32)) ≤ (0 : Int32) then (0 : Int32) else (if ((B 16 3) - (r_X0_offerAfter B i (0 : Int32))) < (r_X0_reserveCents B) then (0 : Int32) else (1 : Int32))) else (0 : Int32)) else (0 : Int32)) else (0 : Int32)))
def n_X0_canPayAhead (B : jB) (i : Int32) : Prop := (((r_X3_has B i) = (0 : Int32) → True) ∧ (¬ ((r_X3_has B i) = (0 : Int32)) → (((B 11 i.toNatClampNeg) = (0 : Int32) → (((B 12 i.toNatClampNeg) = (0 : Int32) → (((B 14 (0 : Int32).toNatClampNeg) ≤ (r_X0_ageOf B i) → ((n_X0_offerAfter B i (0 : Int32)) ∧ (((r_X0_offerAfter B i (0 : Int32)) ≤ (0 : Int32) → True) ∧ (¬ ((r_X0_offerAfter B i (0 : Int32)) ≤ (0 : Int32)) → ((((B 16 3) - (r_X0_offerAfter B i (0 : Int32))) < (r_X0_reserveCents B) → True) ∧ (¬ (((B 16 3) - (r_X0_offerAfter B i (0 : Int32))) < (r_X0_reserveCents B)) → True)))))) ∧ (¬ ((B 14 (0 : Int32).toNatClampNeg) ≤ (r_X0_ageOf B i)) → True))) ∧ (¬ ((B 12 i.toNatClampNeg) = (0 : Int32)) → True))) ∧ (¬ ((B 11 i.toNatClampNeg) = (0 : Int32)) → True))))
set_option maxRecDepth 100000 in
set_option maxHeartbeats 4000000 in
theorem c_X0_canPayAhead (l : Launch) (D : va_G) (ca : Nat → ClassId) (g : Nat → Nat) (B : jB) (i : Int32) (hq : n_X0_canPayAhead B i) : jM l D ca yX0_canPayAhead cX0_canPayAhead 3 (Option.some FieldType.boolean) 5 111 0 0 [.ref (g 0), .int i] (bkW ca g B) (jD (some (.int (r_X0_canPayAhead B i))) (bkW ca g B)) := by
  refine jM_of [(0, .ref (g 0)), (1, .int i)] (by decide) (Nat.le_of_ble_eq_true rfl) rfl (fun X C E => ?_)
  rw [n_X0_canPayAhead] at hq
  refine j_aload_n C dX0_canPayAhead_0 rfl ?_
  refine j_get C f_X0_28.F 0 dX0_canPayAhead_1 bkW_0 rfl ?_
  refine j_iload_n C dX0_canPayAhead_4 rfl ?_
  refine j_callViR C g_X0_49 (c_X3_has l D ca g B i) 3 bkW_3 hcl_X3 ⟨Nat.le_of_ble_eq_true rfl, Nat.le_of_ble_eq_true rfl⟩ ⟨Nat.le_of_ble_eq_true rfl, Nat.le_of_ble_eq_true rfl⟩ [3, 13, 14, 15, 16, 17, 18, 19] pl_bk_iv rfl rfl rfl (Nat.le_of_ble_eq_true rfl) dX0_canPayAhead_5 ?_
  refine j_if_ne (tgt := 13) C dX0_canPayAhead_8 (by decide) (fun (h8 : ¬ ((r_X3_has B i) = (0 : Int32))) => ?_) (fun (h8 : (r_X3_has B i) = (0 : Int32)) => ?_)
  · have hq := hq.2 h8
    refine j_aload_n C dX0_canPayAhead_13 rfl ?_
    refine j_get C f_X0_28.F 0 dX0_canPayAhead_14 bkW_0 rfl ?_
    refine j_get C f_X0_89.F 3 dX0_canPayAhead_17 bkW_3 rfl ?_
    refine j_iload_n C dX0_canPayAhead_20 rfl ?_
    refine j_iald C 17 dX0_canPayAhead_21 bkW_17 (has_X3 h8) ?_
    refine j_if_ne (tgt := 37) C dX0_canPayAhead_22 (by decide) (fun (h22 : ¬ ((B 11 i.toNatClampNeg) = (0 : Int32))) => ?_) (fun (h22 : (B 11 i.toNatClampNeg) = (0 : Int32)) => ?_)
    · have hq := hq.2 h22
      refine j_iconst C dX0_canPayAhead_37 (0 : Int32) (by decide) ?_
      have e9 : r_X0_canPayAhead B i = (0 : Int32) := by rw [r_X0_canPayAhead, if_neg h8, if_neg h22]
      exact j_zret E rfl dX0_canPayAhead_38 (by rw [e9]; exact ⟨rfl, rfl⟩)
    · have hq := hq.1 h22
      refine j_aload_n C dX0_canPayAhead_25 rfl ?_
      refine j_get C f_X0_28.F 0 dX0_canPayAhead_26 bkW_0 rfl ?_
      refine j_get C f_X0_92.F 3 dX0_canPayAhead_29 bkW_3 rfl ?_
      refine j_iload_n C dX0_canPayAhead_32 rfl ?_
      refine j_iald C 18 dX0_canPayAhead_33 bkW_18 (has_X3 h8) ?_
      refine j_if_eq (tgt := 39) C dX0_canPayAhead_34 (by decide) (fun (h34 : (B 12 i.toNatClampNeg) = (0 : Int32)) => ?_) (fun (h34 : ¬ ((B 12 i.toNatClampNeg) = (0 : Int32))) => ?_)
      · have hq := hq.1 h34
        refine j_aload_n C dX0_canPayAhead_39 rfl ?_
        refine j_iload_n C dX0_canPayAhead_40 rfl ?_
        refine j_callViRW C g_X0_60 (c_X0_ageOf l D ca g B i) 0 bkW_0 hcl_X0 ⟨Nat.le_of_ble_eq_true rfl, Nat.le_of_ble_eq_true rfl⟩ ⟨Nat.le_of_ble_eq_true rfl, Nat.le_of_ble_eq_true rfl⟩ rfl rfl (Nat.le_of_ble_eq_true rfl) dX0_canPayAhead_41 ?_
        refine j_aload_n C dX0_canPayAhead_44 rfl ?_
        refine j_get C f_X0_36.F 0 dX0_canPayAhead_45 bkW_0 rfl ?_
        refine j_iconst C dX0_canPayAhead_48 (0 : Int32) (by decide) ?_
        refine j_iald C 5 dX0_canPayAhead_49 bkW_5 (vin_c rfl) ?_
        refine j_icmp_ge (tgt := 55) C dX0_canPayAhead_50 (by decide) (fun (h50 : (B 14 (0 : Int32).toNatClampNeg) ≤ (r_X0_ageOf B i)) => ?_) (fun (h50 : ¬ ((B 14 (0 : Int32).toNatClampNeg) ≤ (r_X0_ageOf B i))) => ?_)
        · have hq := hq.1 h50
          refine j_aload_n C dX0_canPayAhead_55 rfl ?_
          refine j_iload_n C dX0_canPayAhead_56 rfl ?_
          refine j_iconst C dX0_canPayAhead_57 (0 : Int32) (by decide) ?_
          obtain ⟨hv, hq⟩ := hq
          refine j_callViRW C g_X0_86 (c_X0_offerAfter l D ca g B i (0 : Int32) hv) 0 bkW_0 hcl_X0 ⟨Nat.le_of_ble_eq_true rfl, Nat.le_of_ble_eq_true rfl⟩ ⟨Nat.le_of_ble_eq_true rfl, Nat.le_of_ble_eq_true rfl⟩ rfl rfl (Nat.le_of_ble_eq_true rfl) dX0_canPayAhead_58 ?_
          refine j_istore_n C [(2, _), (0, _), (1, _)] dX0_canPayAhead_61 (by decide) rfl ?_
          refine j_iload_n C dX0_canPayAhead_62 rfl ?_
          refine j_if_le (tgt := 83) C dX0_canPayAhead_63 (by decide) (fun (h63 : (r_X0_offerAfter B i (0 : Int32)) ≤ (0 : Int32)) => ?_) (fun (h63 : ¬ ((r_X0_offerAfter B i (0 : Int32)) ≤ (0 : Int32))) => ?_)
          · have hq := hq.1 h63
            refine j_iconst C dX0_canPayAhead_83 (0 : Int32) (by decide) ?_
            have e9 : r_X0_canPayAhead B i = (0 : Int32) := by rw [r_X0_canPayAhead, if_neg h8, if_pos h22, if_pos h34, if_pos h50, if_pos h63]
            exact j_zret E rfl dX0_canPayAhead_84 (by rw [e9]; exact ⟨rfl, rfl⟩)
          · have hq := hq.2 h63
            refine j_aload_n C dX0_canPayAhead_66 rfl ?_
            refine j_get C f_X0_95.F 0 dX0_canPayAhead_67 bkW_0 rfl ?_
            refine j_iload_n C dX0_canPayAhead_70 rfl ?_
            refine j_isub C dX0_canPayAhead_71 ?_
            refine j_aload_n C dX0_canPayAhead_72 rfl ?_
            refine j_callViRW C g_X0_98 (c_X0_reserveCents l D ca g B) 0 bkW_0 hcl_X0 ⟨Nat.le_of_ble_eq_true rfl, Nat.le_of_ble_eq_true rfl⟩ ⟨Nat.le_of_ble_eq_true rfl, Nat.le_of_ble_eq_true rfl⟩ rfl rfl (Nat.le_of_ble_eq_true rfl) dX0_canPayAhead_73 ?_
            refine j_icmp_lt (tgt := 83) C dX0_canPayAhead_76 (by decide) (fun (h76 : ((B 16 3) - (r_X0_offerAfter B i (0 : Int32))) < (r_X0_reserveCents B)) => ?_) (fun (h76 : ¬ (((B 16 3) - (r_X0_offerAfter B i (0 : Int32))) < (r_X0_reserveCents B))) => ?_)
            · have hq := hq.1 h76
              refine j_iconst C dX0_canPayAhead_83 (0 : Int32) (by decide) ?_
              have e9 : r_X0_canPayAhead B i = (0 : Int32) := by rw [r_X0_canPayAhead, if_neg h8, if_pos h22, if_pos h34, if_pos h50, if_neg h63, if_pos h76]
              exact j_zret E rfl dX0_canPayAhead_84 (by rw [e9]; exact ⟨rfl, rfl⟩)
            · have hq := hq.2 h76
              refine j_iconst C dX0_canPayAhead_79 (1 : Int32) (by decide) ?_
              refine j_goto (tgt := 84) C dX0_canPayAhead_80 (by decide) ?_
              have e9 : r_X0_canPayAhead B i = (1 : Int32) := by rw [r_X0_canPayAhead, if_neg h8, if_pos h22, if_pos h34, if_pos h50, if_neg h63, if_neg h76]
              exact j_zret E rfl dX0_canPayAhead_84 (by rw [e9]; exact ⟨rfl, rfl⟩)
        · have hq := hq.2 h50
          refine j_iconst C dX0_canPayAhead_53 (0 : Int32) (by decide) ?_
          have e9 : r_X0_canPayAhead B i = (0 : Int32) := by rw [r_X0_canPayAhead, if_neg h8, if_pos h22, if_pos h34, if_neg h50]
          exact j_zret E rfl dX0_canPayAhead_54 (by rw [e9]; exact ⟨rfl, rfl⟩)
      · have hq := hq.2 h34
        refine j_iconst C dX0_canPayAhead_37 (0 : Int32) (by decide) ?_
        have e9 : r_X0_canPayAhead B i = (0 : Int32) := by rw [r_X0_canPayAhead, if_neg h8, if_pos h22, if_neg h34]
        exact j_zret E rfl dX0_canPayAhead_38 (by rw [e9]; exact ⟨rfl, rfl⟩)
  · have hq := hq.1 h8
    refine j_iconst C dX0_canPayAhead_11 (0 : Int32) (by decide) ?_
    have e9 : r_X0_canPayAhead B i = (0 : Int32) := by rw [r_X0_canPayAhead, if_pos h8]
    exact j_zret E rfl dX0_canPayAhead_12 (by rw [e9]; exact ⟨rfl, rfl⟩)


def r_X0_canGiveUp (B : jB) (i : Int32) : Int32 := (if (r_X3_isUnsettled B i) = (0 : Int32) then (0 : Int32) else (if (r_X0_ageOf B i) < (B 14 (2 : Int32).toNatClampNeg) then (0 : Int32) else (1 : Int32)))
set_option maxRecDepth 100000 in
set_option maxHeartbeats 4000000 in
theorem c_X0_canGiveUp (l : Launch) (D : va_G) (ca : Nat → ClassId) (g : Nat → Nat) (B : jB) (i : Int32) : jM l D ca yX0_canGiveUp cX0_canGiveUp 2 (Option.some FieldType.boolean) 2 42 0 0 [.ref (g 0), .int i] (bkW ca g B) (jD (some (.int (r_X0_canGiveUp B i))) (bkW ca g B)) := by
  refine jM_of [(0, .ref (g 0)), (1, .int i)] (by decide) (Nat.le_of_ble_eq_true rfl) rfl (fun X C E => ?_)
  refine j_aload_n C dX0_canGiveUp_0 rfl ?_
  refine j_get C f_X0_28.F 0 dX0_canGiveUp_1 bkW_0 rfl ?_
  refine j_iload_n C dX0_canGiveUp_4 rfl ?_
  refine j_callViR C g_X0_101 (c_X3_isUnsettled l D ca g B i) 3 bkW_3 hcl_X3 ⟨Nat.le_of_ble_eq_true rfl, Nat.le_of_ble_eq_true rfl⟩ ⟨Nat.le_of_ble_eq_true rfl, Nat.le_of_ble_eq_true rfl⟩ [3, 13, 14, 15, 16, 17, 18, 19] pl_bk_iv rfl rfl rfl (Nat.le_of_ble_eq_true rfl) dX0_canGiveUp_5 ?_
  refine j_if_eq (tgt := 29) C dX0_canGiveUp_8 (by decide) (fun (h8 : (r_X3_isUnsettled B i) = (0 : Int32)) => ?_) (fun (h8 : ¬ ((r_X3_isUnsettled B i) = (0 : Int32))) => ?_)
  · refine j_iconst C dX0_canGiveUp_29 (0 : Int32) (by decide) ?_
    have e9 : r_X0_canGiveUp B i = (0 : Int32) := by rw [r_X0_canGiveUp, if_pos h8]
    exact j_zret E rfl dX0_canGiveUp_30 (by rw [e9]; exact ⟨rfl, rfl⟩)
  · refine j_aload_n C dX0_canGiveUp_11 rfl ?_
    refine j_iload_n C dX0_canGiveUp_12 rfl ?_
    refine j_callViRW C g_X0_60 (c_X0_ageOf l D ca g B i) 0 bkW_0 hcl_X0 ⟨Nat.le_of_ble_eq_true rfl, Nat.le_of_ble_eq_true rfl⟩ ⟨Nat.le_of_ble_eq_true rfl, Nat.le_of_ble_eq_true rfl⟩ rfl rfl (Nat.le_of_ble_eq_true rfl) dX0_canGiveUp_13 ?_
    refine j_aload_n C dX0_canGiveUp_16 rfl ?_
    refine j_get C f_X0_36.F 0 dX0_canGiveUp_17 bkW_0 rfl ?_
    refine j_iconst C dX0_canGiveUp_20 (2 : Int32) (by decide) ?_
    refine j_iald C 5 dX0_canGiveUp_21 bkW_5 (vin_c rfl) ?_
    refine j_icmp_lt (tgt := 29) C dX0_canGiveUp_22 (by decide) (fun (h22 : (r_X0_ageOf B i) < (B 14 (2 : Int32).toNatClampNeg)) => ?_) (fun (h22 : ¬ ((r_X0_ageOf B i) < (B 14 (2 : Int32).toNatClampNeg))) => ?_)
    · refine j_iconst C dX0_canGiveUp_29 (0 : Int32) (by decide) ?_
      have e9 : r_X0_canGiveUp B i = (0 : Int32) := by rw [r_X0_canGiveUp, if_neg h8, if_pos h22]
      exact j_zret E rfl dX0_canGiveUp_30 (by rw [e9]; exact ⟨rfl, rfl⟩)
    · refine j_iconst C dX0_canGiveUp_25 (1 : Int32) (by decide) ?_
      refine j_goto (tgt := 30) C dX0_canGiveUp_26 (by decide) ?_
      have e9 : r_X0_canGiveUp B i = (1 : Int32) := by rw [r_X0_canGiveUp, if_neg h8, if_neg h22]
      exact j_zret E rfl dX0_canGiveUp_30 (by rw [e9]; exact ⟨rfl, rfl⟩)
