set_option maxRecDepth 100000 in
set_option maxHeartbeats 4000000 in
theorem rd_19 {S : jB} {k0 : Nat} {v0 : Int32} {i : Nat} : (up2 S 11 k0 v0) 8 i = S 8 i := rfl
set_option maxRecDepth 100000 in
set_option maxHeartbeats 4000000 in
theorem fst_cl {ca : Nat → ClassId} {g : Nat → Nat} {A B : jB} : (clW ca g A).map Prod.fst = (clW ca g B).map Prod.fst := rfl
set_option maxRecDepth 100000 in
set_option maxHeartbeats 4000000 in
theorem fs_bk_X1_addSettled {ca : Nat → ClassId} {g : Nat → Nat} {B : jB}  {i : Int32} {c : Int32} : jrep (bkW ca g B) [2, 10, 11, 12] (clW ca g (r_X1_addSettled B i c)) = bkW ca g (r_X1_addSettled B i c) := by
  unfold r_X1_addSettled
  (repeat' split) <;> exact jrep_mg (by decide) rfl
set_option maxRecDepth 100000 in
set_option maxHeartbeats 4000000 in
theorem fst_bk {ca : Nat → ClassId} {g : Nat → Nat} {A B : jB} : (bkW ca g A).map Prod.fst = (bkW ca g B).map Prod.fst := rfl

def z_X0_settle_0 (B : jB) (i : Int32) : jB := (r_X1_addSettled (up2 B 11 (i).toNatClampNeg (2 : Int32)) (B 8 i.toNatClampNeg) (r_X0_lateAfter (up2 B 11 (i).toNatClampNeg (2 : Int32)) i (0 : Int32)))
def z_X0_settle_1 (B : jB) (i : Int32) : jB := (r_X1_addSettled (up2 (r_X0_passOn B i) 11 (i).toNatClampNeg (2 : Int32)) ((r_X0_passOn B i) 8 i.toNatClampNeg) (r_X0_lateAfter (up2 (r_X0_passOn B i) 11 (i).toNatClampNeg (2 : Int32)) i (0 : Int32)))
def r_X0_settle (B : jB) (i : Int32) : jB := (if (r_X3_has B i) = (0 : Int32) then B else (if (B 11 i.toNatClampNeg) = (1 : Int32) then (z_X0_settle_1 B i) else (z_X0_settle_0 B i)))
def n_X0_settle (B : jB) (i : Int32) : Prop := (((r_X3_has B i) = (0 : Int32) → True) ∧ (¬ ((r_X3_has B i) = (0 : Int32)) → (((B 11 i.toNatClampNeg) = (1 : Int32) → ((n_X0_passOn B i) ∧ True)) ∧ (¬ ((B 11 i.toNatClampNeg) = (1 : Int32)) → True))))
set_option maxRecDepth 100000 in
set_option maxHeartbeats 4000000 in
theorem c_X0_settle (l : Launch) (D : va_G) (ca : Nat → ClassId) (g : Nat → Nat) (B : jB) (i : Int32) (hq : n_X0_settle B i) : jM l D ca yX0_settle cX0_settle 2 (none : Option FieldType) 3 66 0 0 [.ref (g 0), .int i] (bkW ca g B) (jD none (bkW ca g (r_X0_settle B i))) := by
  refine jM_of [(0, .ref (g 0)), (1, .int i)] (by decide) (Nat.le_of_ble_eq_true rfl) rfl (fun X C E => ?_)
  rw [n_X0_settle] at hq
  refine j_aload_n C dX0_settle_0 rfl ?_
  refine j_get C f_X0_28.F 0 dX0_settle_1 bkW_0 rfl ?_
  refine j_iload_n C dX0_settle_4 rfl ?_
  refine j_callViR C g_X0_49 (c_X3_has l D ca g B i) 3 bkW_3 hcl_X3 ⟨Nat.le_of_ble_eq_true rfl, Nat.le_of_ble_eq_true rfl⟩ ⟨Nat.le_of_ble_eq_true rfl, Nat.le_of_ble_eq_true rfl⟩ [3, 13, 14, 15, 16, 17, 18, 19] pl_bk_iv rfl rfl rfl (Nat.le_of_ble_eq_true rfl) dX0_settle_5 ?_
  refine j_if_ne (tgt := 12) C dX0_settle_8 (by decide) (fun (h8 : ¬ ((r_X3_has B i) = (0 : Int32))) => ?_) (fun (h8 : (r_X3_has B i) = (0 : Int32)) => ?_)
  · have hq := hq.2 h8
    refine j_aload_n C dX0_settle_12 rfl ?_
    refine j_get C f_X0_28.F 0 dX0_settle_13 bkW_0 rfl ?_
    refine j_get C f_X0_89.F 3 dX0_settle_16 bkW_3 rfl ?_
    refine j_iload_n C dX0_settle_19 rfl ?_
    refine j_iald C 17 dX0_settle_20 bkW_17 (has_X3 h8) ?_
    refine j_iconst C dX0_settle_21 (1 : Int32) (by decide) ?_
    refine j_icmp_ne (tgt := 30) C dX0_settle_22 (by decide) (fun (h22 : ¬ ((B 11 i.toNatClampNeg) = (1 : Int32))) => ?_) (fun (h22 : (B 11 i.toNatClampNeg) = (1 : Int32)) => ?_)
    · have hq := hq.2 h22
      refine j_aload_n C dX0_settle_30 rfl ?_
      refine j_get C f_X0_28.F 0 dX0_settle_31 bkW_0 rfl ?_
      refine j_get C f_X0_89.F 3 dX0_settle_34 bkW_3 rfl ?_
      refine j_iload_n C dX0_settle_37 rfl ?_
      refine j_iconst C dX0_settle_38 (2 : Int32) (by decide) ?_
      refine j_iast C 17 dX0_settle_39 bkW_17 (has_X3 h8) ?_
      refine j_ws (ws' := (bkW ca g (up2 B 11 (i).toNatClampNeg (2 : Int32)))) fa_bk_17 ?_
      refine j_aload_n C dX0_settle_40 rfl ?_
      refine j_get C f_X0_21.F 0 dX0_settle_41 bkW_0 rfl ?_
      refine j_aload_n C dX0_settle_44 rfl ?_
      refine j_get C f_X0_28.F 0 dX0_settle_45 bkW_0 rfl ?_
      refine j_get C f_X0_72.F 3 dX0_settle_48 bkW_3 rfl ?_
      refine j_iload_n C dX0_settle_51 rfl ?_
      refine j_iald C 14 dX0_settle_52 bkW_14 (has_X3 h8) ?_
      refine j_sti rd_19 ?_
      refine j_aload_n C dX0_settle_53 rfl ?_
      refine j_iload_n C dX0_settle_54 rfl ?_
      refine j_iconst C dX0_settle_55 (0 : Int32) (by decide) ?_
      refine j_callViRW C g_X0_68 (c_X0_lateAfter l D ca g (up2 B 11 (i).toNatClampNeg (2 : Int32)) i (0 : Int32)) 0 bkW_0 hcl_X0 ⟨Nat.le_of_ble_eq_true rfl, Nat.le_of_ble_eq_true rfl⟩ ⟨Nat.le_of_ble_eq_true rfl, Nat.le_of_ble_eq_true rfl⟩ rfl rfl (Nat.le_of_ble_eq_true rfl) dX0_settle_56 ?_
      refine j_callVv C g_X0_127 (c_X1_addSettled l D ca g (up2 B 11 (i).toNatClampNeg (2 : Int32)) (B 8 i.toNatClampNeg) (r_X0_lateAfter (up2 B 11 (i).toNatClampNeg (2 : Int32)) i (0 : Int32))) 2 bkW_2 hcl_X1 ⟨Nat.le_of_ble_eq_true rfl, Nat.le_of_ble_eq_true rfl⟩ ⟨Nat.le_of_ble_eq_true rfl, Nat.le_of_ble_eq_true rfl⟩ [2, 10, 11, 12] pl_bk_cl rfl rfl rfl (Nat.le_of_ble_eq_true rfl) dX0_settle_59 fst_cl ?_
      refine j_ws (ws' := (bkW ca g (z_X0_settle_0 B i))) fs_bk_X1_addSettled ?_
      have e9 : r_X0_settle B i = (z_X0_settle_0 B i) := by rw [r_X0_settle, if_neg h8, if_neg h22]
      exact j_vret E dX0_settle_62 (by rw [e9]; exact ⟨rfl, rfl⟩)
    · have hq := hq.1 h22
      refine j_aload_n C dX0_settle_25 rfl ?_
      refine j_iload_n C dX0_settle_26 rfl ?_
      obtain ⟨hv, hq⟩ := hq
      refine j_callVvW C g_X0_124 (c_X0_passOn l D ca g B i hv) 0 bkW_0 hcl_X0 ⟨Nat.le_of_ble_eq_true rfl, Nat.le_of_ble_eq_true rfl⟩ ⟨Nat.le_of_ble_eq_true rfl, Nat.le_of_ble_eq_true rfl⟩ rfl rfl (Nat.le_of_ble_eq_true rfl) dX0_settle_27 fst_bk ?_
      refine j_aload_n C dX0_settle_30 rfl ?_
      refine j_get C f_X0_28.F 0 dX0_settle_31 bkW_0 rfl ?_
      refine j_get C f_X0_89.F 3 dX0_settle_34 bkW_3 rfl ?_
      refine j_iload_n C dX0_settle_37 rfl ?_
      refine j_iconst C dX0_settle_38 (2 : Int32) (by decide) ?_
      refine j_iast C 17 dX0_settle_39 bkW_17 (has_X3 h8) ?_
      refine j_ws (ws' := (bkW ca g (up2 (r_X0_passOn B i) 11 (i).toNatClampNeg (2 : Int32)))) fa_bk_17 ?_
      refine j_aload_n C dX0_settle_40 rfl ?_
      refine j_get C f_X0_21.F 0 dX0_settle_41 bkW_0 rfl ?_
      refine j_aload_n C dX0_settle_44 rfl ?_
      refine j_get C f_X0_28.F 0 dX0_settle_45 bkW_0 rfl ?_
      refine j_get C f_X0_72.F 3 dX0_settle_48 bkW_3 rfl ?_
      refine j_iload_n C dX0_settle_51 rfl ?_
      refine j_iald C 14 dX0_settle_52 bkW_14 (has_X3 h8) ?_
      refine j_sti rd_19 ?_
      refine j_aload_n C dX0_settle_53 rfl ?_
      refine j_iload_n C dX0_settle_54 rfl ?_
      refine j_iconst C dX0_settle_55 (0 : Int32) (by decide) ?_
      refine j_callViRW C g_X0_68 (c_X0_lateAfter l D ca g (up2 (r_X0_passOn B i) 11 (i).toNatClampNeg (2 : Int32)) i (0 : Int32)) 0 bkW_0 hcl_X0 ⟨Nat.le_of_ble_eq_true rfl, Nat.le_of_ble_eq_true rfl⟩ ⟨Nat.le_of_ble_eq_true rfl, Nat.le_of_ble_eq_true rfl⟩ rfl rfl (Nat.le_of_ble_eq_true rfl) dX0_settle_56 ?_
      refine j_callVv C g_X0_127 (c_X1_addSettled l D ca g (up2 (r_X0_passOn B i) 11 (i).toNatClampNeg (2 : Int32)) ((r_X0_passOn B i) 8 i.toNatClampNeg) (r_X0_lateAfter (up2 (r_X0_passOn B i) 11 (i).toNatClampNeg (2 : Int32)) i (0 : Int32))) 2 bkW_2 hcl_X1 ⟨Nat.le_of_ble_eq_true rfl, Nat.le_of_ble_eq_true rfl⟩ ⟨Nat.le_of_ble_eq_true rfl, Nat.le_of_ble_eq_true rfl⟩ [2, 10, 11, 12] pl_bk_cl rfl rfl rfl (Nat.le_of_ble_eq_true rfl) dX0_settle_59 fst_cl ?_
      refine j_ws (ws' := (bkW ca g (z_X0_settle_1 B i))) fs_bk_X1_addSettled ?_
      have e9 : r_X0_settle B i = (z_X0_settle_1 B i) := by rw [r_X0_settle, if_neg h8, if_pos h22]
      exact j_vret E dX0_settle_62 (by rw [e9]; exact ⟨rfl, rfl⟩)
  · have hq := hq.1 h8
    have e9 : r_X0_settle B i = B := by rw [r_X0_settle, if_pos h8]
    exact j_vret E dX0_settle_11 (by rw [e9]; exact ⟨rfl, rfl⟩)
