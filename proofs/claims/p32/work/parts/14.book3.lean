set_option maxRecDepth 100000 in
set_option maxHeartbeats 4000000 in
theorem rd_17 {S : jB} {v0 : Int32} : (up2 S 16 3 v0) 16 6 = S 16 6 := rfl
set_option maxRecDepth 100000 in
set_option maxHeartbeats 4000000 in
theorem fo_bk_0_9 {ca : Nat → ClassId} {g : Nat → Nat} {B : jB} {v : Int32} : (bkW ca g B).set 0 (g 0, .inr (0, [.ref (g 1), .ref (g 2), .ref (g 3), .ref (g 4), .ref (g 5), .int (B 16 2), .int (B 16 3), .int (B 16 4), .int (B 16 5), .int (B 16 6), .int (B 16 7)].set 9 (.int v))) = bkW ca g (up2 B 16 6 v) := rfl
set_option maxRecDepth 100000 in
set_option maxHeartbeats 4000000 in
theorem rd_18 {S : jB} {v1 : Int32} {v0 : Int32} {i : Nat} : (up2 (up2 S 16 3 v1) 16 6 v0) 7 i = S 7 i := rfl

def z_X0_passOn_0 (B : jB) (i : Int32) : jB := (up2 B 16 3 ((B 16 3) - (((B 9 i.toNatClampNeg) - (B 13 i.toNatClampNeg)) - (FP.f2i (FP.fmul (FP.i2f (B 9 i.toNatClampNeg)) ((B 15 (2 : Int32).toNatClampNeg).toUInt32))))))
def z_X0_passOn_1 (B : jB) (i : Int32) : jB := (up2 (z_X0_passOn_0 B i) 16 6 ((B 16 6) + (((B 9 i.toNatClampNeg) - (B 13 i.toNatClampNeg)) - (FP.f2i (FP.fmul (FP.i2f (B 9 i.toNatClampNeg)) ((B 15 (2 : Int32).toNatClampNeg).toUInt32))))))
def z_X0_passOn_2 (B : jB) (i : Int32) : jB := (r_X4_intoPurse (z_X0_passOn_1 B i) (B 7 i.toNatClampNeg) (((B 9 i.toNatClampNeg) - (B 13 i.toNatClampNeg)) - (FP.f2i (FP.fmul (FP.i2f (B 9 i.toNatClampNeg)) ((B 15 (2 : Int32).toNatClampNeg).toUInt32)))))
def r_X0_passOn (B : jB) (i : Int32) : jB := (if (r_X3_has B i) = (0 : Int32) then B else (if (0 : Int32) < (((B 9 i.toNatClampNeg) - (B 13 i.toNatClampNeg)) - (FP.f2i (FP.fmul (FP.i2f (B 9 i.toNatClampNeg)) ((B 15 (2 : Int32).toNatClampNeg).toUInt32)))) then (z_X0_passOn_2 B i) else B))
def n_X0_passOn (B : jB) (i : Int32) : Prop := (((r_X3_has B i) = (0 : Int32) → True) ∧ (¬ ((r_X3_has B i) = (0 : Int32)) → (vf_n32 (FP.fmul (FP.i2f (B 9 i.toNatClampNeg)) ((B 15 (2 : Int32).toNatClampNeg).toUInt32)) ∧ (((0 : Int32) < (((B 9 i.toNatClampNeg) - (B 13 i.toNatClampNeg)) - (FP.f2i (FP.fmul (FP.i2f (B 9 i.toNatClampNeg)) ((B 15 (2 : Int32).toNatClampNeg).toUInt32)))) → True) ∧ (¬ ((0 : Int32) < (((B 9 i.toNatClampNeg) - (B 13 i.toNatClampNeg)) - (FP.f2i (FP.fmul (FP.i2f (B 9 i.toNatClampNeg)) ((B 15 (2 : Int32).toNatClampNeg).toUInt32))))) → True)))))
set_option maxRecDepth 100000 in
set_option maxHeartbeats 4000000 in
theorem c_X0_passOn (l : Launch) (D : va_G) (ca : Nat → ClassId) (g : Nat → Nat) (B : jB) (i : Int32) (hq : n_X0_passOn B i) : jM l D ca yX0_passOn cX0_passOn 4 (none : Option FieldType) 2 43 0 0 [.ref (g 0), .int i] (bkW ca g B) (jD none (bkW ca g (r_X0_passOn B i))) := by
  refine jM_of [(0, .ref (g 0)), (1, .int i)] (by decide) (Nat.le_of_ble_eq_true rfl) rfl (fun X C E => ?_)
  rw [n_X0_passOn] at hq
  refine j_aload_n C dX0_passOn_0 rfl ?_
  refine j_get C f_X0_28.F 0 dX0_passOn_1 bkW_0 rfl ?_
  refine j_iload_n C dX0_passOn_4 rfl ?_
  refine j_callViR C g_X0_49 (c_X3_has l D ca g B i) 3 bkW_3 hcl_X3 ⟨Nat.le_of_ble_eq_true rfl, Nat.le_of_ble_eq_true rfl⟩ ⟨Nat.le_of_ble_eq_true rfl, Nat.le_of_ble_eq_true rfl⟩ [3, 13, 14, 15, 16, 17, 18, 19] pl_bk_iv rfl rfl rfl (Nat.le_of_ble_eq_true rfl) dX0_passOn_5 ?_
  refine j_if_ne (tgt := 12) C dX0_passOn_8 (by decide) (fun (h8 : ¬ ((r_X3_has B i) = (0 : Int32))) => ?_) (fun (h8 : (r_X3_has B i) = (0 : Int32)) => ?_)
  · have hq := hq.2 h8
    refine j_aload_n C dX0_passOn_12 rfl ?_
    refine j_get C f_X0_28.F 0 dX0_passOn_13 bkW_0 rfl ?_
    refine j_get C f_X0_79.F 3 dX0_passOn_16 bkW_3 rfl ?_
    refine j_iload_n C dX0_passOn_19 rfl ?_
    refine j_iald C 15 dX0_passOn_20 bkW_15 (has_X3 h8) ?_
    refine j_i2f C dX0_passOn_21 ?_
    refine j_aload_n C dX0_passOn_22 rfl ?_
    refine j_get C f_X0_32.F 0 dX0_passOn_23 bkW_0 rfl ?_
    refine j_iconst C dX0_passOn_26 (2 : Int32) (by decide) ?_
    refine j_fald C 4 dX0_passOn_27 bkW_4 (vin_c rfl) ?_
    obtain ⟨hv, hq⟩ := hq
    refine j_fmul C dX0_passOn_28 hv ?_
    refine j_f2i C dX0_passOn_29 ?_
    refine j_istore_n C [(2, _), (0, _), (1, _)] dX0_passOn_30 (by decide) rfl ?_
    refine j_aload_n C dX0_passOn_31 rfl ?_
    refine j_get C f_X0_28.F 0 dX0_passOn_32 bkW_0 rfl ?_
    refine j_get C f_X0_79.F 3 dX0_passOn_35 bkW_3 rfl ?_
    refine j_iload_n C dX0_passOn_38 rfl ?_
    refine j_iald C 15 dX0_passOn_39 bkW_15 (has_X3 h8) ?_
    refine j_aload_n C dX0_passOn_40 rfl ?_
    refine j_get C f_X0_28.F 0 dX0_passOn_41 bkW_0 rfl ?_
    refine j_get C f_X0_104.F 3 dX0_passOn_44 bkW_3 rfl ?_
    refine j_iload_n C dX0_passOn_47 rfl ?_
    refine j_iald C 19 dX0_passOn_48 bkW_19 (has_X3 h8) ?_
    refine j_isub C dX0_passOn_49 ?_
    refine j_iload_n C dX0_passOn_50 rfl ?_
    refine j_isub C dX0_passOn_51 ?_
    refine j_istore_n C [(3, _), (2, _), (0, _), (1, _)] dX0_passOn_52 (by decide) rfl ?_
    refine j_iload_n C dX0_passOn_53 rfl ?_
    refine j_if_gt (tgt := 58) C dX0_passOn_54 (by decide) (fun (h54 : (0 : Int32) < (((B 9 i.toNatClampNeg) - (B 13 i.toNatClampNeg)) - (FP.f2i (FP.fmul (FP.i2f (B 9 i.toNatClampNeg)) ((B 15 (2 : Int32).toNatClampNeg).toUInt32))))) => ?_) (fun (h54 : ¬ ((0 : Int32) < (((B 9 i.toNatClampNeg) - (B 13 i.toNatClampNeg)) - (FP.f2i (FP.fmul (FP.i2f (B 9 i.toNatClampNeg)) ((B 15 (2 : Int32).toNatClampNeg).toUInt32)))))) => ?_)
    · have hq := hq.1 h54
      refine j_aload_n C dX0_passOn_58 rfl ?_
      refine j_dup C dX0_passOn_59 rfl ?_
      refine j_get C f_X0_95.F 0 dX0_passOn_60 bkW_0 rfl ?_
      refine j_iload_n C dX0_passOn_63 rfl ?_
      refine j_isub C dX0_passOn_64 ?_
      refine j_put C f_X0_95 0 dX0_passOn_65 bkW_0 (Nat.le_of_ble_eq_true rfl) rfl rfl ?_
      refine j_ws (ws' := (bkW ca g (z_X0_passOn_0 B i))) fo_bk_0_6 ?_
      refine j_aload_n C dX0_passOn_68 rfl ?_
      refine j_dup C dX0_passOn_69 rfl ?_
      refine j_get C f_X0_130.F 0 dX0_passOn_70 bkW_0 rfl ?_
      refine j_sti rd_17 ?_
      refine j_iload_n C dX0_passOn_73 rfl ?_
      refine j_iadd C dX0_passOn_74 ?_
      refine j_put C f_X0_130 0 dX0_passOn_75 bkW_0 (Nat.le_of_ble_eq_true rfl) rfl rfl ?_
      refine j_ws (ws' := (bkW ca g (z_X0_passOn_1 B i))) fo_bk_0_9 ?_
      refine j_aload_n C dX0_passOn_78 rfl ?_
      refine j_get C f_X0_12.F 0 dX0_passOn_79 bkW_0 rfl ?_
      refine j_aload_n C dX0_passOn_82 rfl ?_
      refine j_get C f_X0_28.F 0 dX0_passOn_83 bkW_0 rfl ?_
      refine j_get C f_X0_107.F 3 dX0_passOn_86 bkW_3 rfl ?_
      refine j_iload_n C dX0_passOn_89 rfl ?_
      refine j_iald C 13 dX0_passOn_90 bkW_13 (has_X3 h8) ?_
      refine j_sti rd_18 ?_
      refine j_iload_n C dX0_passOn_91 rfl ?_
      refine j_callVv C g_X0_110 (c_X4_intoPurse l D ca g (z_X0_passOn_1 B i) (B 7 i.toNatClampNeg) (((B 9 i.toNatClampNeg) - (B 13 i.toNatClampNeg)) - (FP.f2i (FP.fmul (FP.i2f (B 9 i.toNatClampNeg)) ((B 15 (2 : Int32).toNatClampNeg).toUInt32))))) 1 bkW_1 hcl_X4 ⟨Nat.le_of_ble_eq_true rfl, Nat.le_of_ble_eq_true rfl⟩ ⟨Nat.le_of_ble_eq_true rfl, Nat.le_of_ble_eq_true rfl⟩ [1, 6, 7, 8, 9] pl_bk_mb rfl rfl rfl (Nat.le_of_ble_eq_true rfl) dX0_passOn_92 fst_mb ?_
      refine j_ws (ws' := (bkW ca g (z_X0_passOn_2 B i))) fs_bk_X4_intoPurse ?_
      have e9 : r_X0_passOn B i = (z_X0_passOn_2 B i) := by rw [r_X0_passOn, if_neg h8, if_pos h54]
      exact j_vret E dX0_passOn_95 (by rw [e9]; exact ⟨rfl, rfl⟩)
    · have hq := hq.2 h54
      have e9 : r_X0_passOn B i = B := by rw [r_X0_passOn, if_neg h8, if_neg h54]
      exact j_vret E dX0_passOn_57 (by rw [e9]; exact ⟨rfl, rfl⟩)
  · have hq := hq.1 h8
    have e9 : r_X0_passOn B i = B := by rw [r_X0_passOn, if_pos h8]
    exact j_vret E dX0_passOn_11 (by rw [e9]; exact ⟨rfl, rfl⟩)
