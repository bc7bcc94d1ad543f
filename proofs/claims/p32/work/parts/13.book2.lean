set_option maxRecDepth 100000 in
set_option maxHeartbeats 4000000 in
theorem fa_bk_17 {ca : Nat → ClassId} {g : Nat → Nat} {B : jB} {i : Nat} {v : Int32} : (bkW ca g B).set 17 (g 17, .inl (ca 0, 20, .inl (upd (B 11) i v))) = bkW ca g (up2 B 11 i v) := rfl
set_option maxRecDepth 100000 in
set_option maxHeartbeats 4000000 in
theorem fa_bk_19 {ca : Nat → ClassId} {g : Nat → Nat} {B : jB} {i : Nat} {v : Int32} : (bkW ca g B).set 19 (g 19, .inl (ca 0, 20, .inl (upd (B 13) i v))) = bkW ca g (up2 B 13 i v) := rfl
set_option maxRecDepth 100000 in
set_option maxHeartbeats 4000000 in
theorem rd_15 {S : jB} {k1 : Nat} {v1 : Int32} {k0 : Nat} {v0 : Int32} {i : Nat} : (up2 (up2 S 11 k1 v1) 13 k0 v0) 7 i = S 7 i := rfl
set_option maxRecDepth 100000 in
set_option maxHeartbeats 4000000 in
theorem fst_mb {ca : Nat → ClassId} {g : Nat → Nat} {A B : jB} : (mbW ca g A).map Prod.fst = (mbW ca g B).map Prod.fst := rfl
set_option maxRecDepth 100000 in
set_option maxHeartbeats 4000000 in
theorem fs_bk_X4_intoPurse {ca : Nat → ClassId} {g : Nat → Nat} {B : jB}  {i : Int32} {c : Int32} : jrep (bkW ca g B) [1, 6, 7, 8, 9] (mbW ca g (r_X4_intoPurse B i c)) = bkW ca g (r_X4_intoPurse B i c) := by
  unfold r_X4_intoPurse
  (repeat' split) <;> exact jrep_mg (by decide) rfl
set_option maxRecDepth 100000 in
set_option maxHeartbeats 4000000 in
theorem fo_bk_0_6 {ca : Nat → ClassId} {g : Nat → Nat} {B : jB} {v : Int32} : (bkW ca g B).set 0 (g 0, .inr (0, [.ref (g 1), .ref (g 2), .ref (g 3), .ref (g 4), .ref (g 5), .int (B 16 2), .int (B 16 3), .int (B 16 4), .int (B 16 5), .int (B 16 6), .int (B 16 7)].set 6 (.int v))) = bkW ca g (up2 B 16 3 v) := rfl
set_option maxRecDepth 100000 in
set_option maxHeartbeats 4000000 in
theorem rd_16 {S : jB} {v0 : Int32} : (up2 S 16 3 v0) 16 4 = S 16 4 := rfl
set_option maxRecDepth 100000 in
set_option maxHeartbeats 4000000 in
theorem fo_bk_0_7 {ca : Nat → ClassId} {g : Nat → Nat} {B : jB} {v : Int32} : (bkW ca g B).set 0 (g 0, .inr (0, [.ref (g 1), .ref (g 2), .ref (g 3), .ref (g 4), .ref (g 5), .int (B 16 2), .int (B 16 3), .int (B 16 4), .int (B 16 5), .int (B 16 6), .int (B 16 7)].set 7 (.int v))) = bkW ca g (up2 B 16 4 v) := rfl

def z_X0_advance_0 (B : jB) (i : Int32) : jB := (up2 (up2 B 11 (i).toNatClampNeg (1 : Int32)) 13 (i).toNatClampNeg (r_X0_offerAfter B i (0 : Int32)))
def z_X0_advance_1 (B : jB) (i : Int32) : jB := (r_X4_intoPurse (z_X0_advance_0 B i) (B 7 i.toNatClampNeg) (r_X0_offerAfter B i (0 : Int32)))
def z_X0_advance_2 (B : jB) (i : Int32) : jB := (up2 (z_X0_advance_1 B i) 16 3 (((z_X0_advance_1 B i) 16 3) - (r_X0_offerAfter B i (0 : Int32))))
def z_X0_advance_3 (B : jB) (i : Int32) : jB := (up2 (z_X0_advance_2 B i) 16 4 (((z_X0_advance_1 B i) 16 4) + (r_X0_offerAfter B i (0 : Int32))))
def r_X0_advance (B : jB) (i : Int32) : Int32 × jB := (if (r_X3_has B i) = (0 : Int32) then ((-1 : Int32), B) else ((r_X0_offerAfter B i (0 : Int32)), (z_X0_advance_3 B i)))
def n_X0_advance (B : jB) (i : Int32) : Prop := (((r_X3_has B i) = (0 : Int32) → True) ∧ (¬ ((r_X3_has B i) = (0 : Int32)) → ((n_X0_offerAfter B i (0 : Int32)) ∧ True)))
set_option maxRecDepth 100000 in
set_option maxHeartbeats 4000000 in
theorem c_X0_advance (l : Launch) (D : va_G) (ca : Nat → ClassId) (g : Nat → Nat) (B : jB) (i : Int32) (hq : n_X0_advance B i) : jM l D ca yX0_advance cX0_advance 3 (some .int) 5 111 0 0 [.ref (g 0), .int i] (bkW ca g B) (jD (some (.int (r_X0_advance B i).1)) (bkW ca g ((r_X0_advance B i).2))) := by
  refine jM_of [(0, .ref (g 0)), (1, .int i)] (by decide) (Nat.le_of_ble_eq_true rfl) rfl (fun X C E => ?_)
  rw [n_X0_advance] at hq
  refine j_aload_n C dX0_advance_0 rfl ?_
  refine j_get C f_X0_28.F 0 dX0_advance_1 bkW_0 rfl ?_
  refine j_iload_n C dX0_advance_4 rfl ?_
  refine j_callViR C g_X0_49 (c_X3_has l D ca g B i) 3 bkW_3 hcl_X3 ⟨Nat.le_of_ble_eq_true rfl, Nat.le_of_ble_eq_true rfl⟩ ⟨Nat.le_of_ble_eq_true rfl, Nat.le_of_ble_eq_true rfl⟩ [3, 13, 14, 15, 16, 17, 18, 19] pl_bk_iv rfl rfl rfl (Nat.le_of_ble_eq_true rfl) dX0_advance_5 ?_
  refine j_if_ne (tgt := 13) C dX0_advance_8 (by decide) (fun (h8 : ¬ ((r_X3_has B i) = (0 : Int32))) => ?_) (fun (h8 : (r_X3_has B i) = (0 : Int32)) => ?_)
  · have hq := hq.2 h8
    refine j_aload_n C dX0_advance_13 rfl ?_
    refine j_iload_n C dX0_advance_14 rfl ?_
    refine j_iconst C dX0_advance_15 (0 : Int32) (by decide) ?_
    obtain ⟨hv, hq⟩ := hq
    refine j_callViRW C g_X0_86 (c_X0_offerAfter l D ca g B i (0 : Int32) hv) 0 bkW_0 hcl_X0 ⟨Nat.le_of_ble_eq_true rfl, Nat.le_of_ble_eq_true rfl⟩ ⟨Nat.le_of_ble_eq_true rfl, Nat.le_of_ble_eq_true rfl⟩ rfl rfl (Nat.le_of_ble_eq_true rfl) dX0_advance_16 ?_
    refine j_istore_n C [(2, _), (0, _), (1, _)] dX0_advance_19 (by decide) rfl ?_
    refine j_aload_n C dX0_advance_20 rfl ?_
    refine j_get C f_X0_28.F 0 dX0_advance_21 bkW_0 rfl ?_
    refine j_get C f_X0_89.F 3 dX0_advance_24 bkW_3 rfl ?_
    refine j_iload_n C dX0_advance_27 rfl ?_
    refine j_iconst C dX0_advance_28 (1 : Int32) (by decide) ?_
    refine j_iast C 17 dX0_advance_29 bkW_17 (has_X3 h8) ?_
    refine j_ws (ws' := (bkW ca g (up2 B 11 (i).toNatClampNeg (1 : Int32)))) fa_bk_17 ?_
    refine j_aload_n C dX0_advance_30 rfl ?_
    refine j_get C f_X0_28.F 0 dX0_advance_31 bkW_0 rfl ?_
    refine j_get C f_X0_104.F 3 dX0_advance_34 bkW_3 rfl ?_
    refine j_iload_n C dX0_advance_37 rfl ?_
    refine j_iload_n C dX0_advance_38 rfl ?_
    refine j_iast C 19 dX0_advance_39 bkW_19 (has_X3 h8) ?_
    refine j_ws (ws' := (bkW ca g (z_X0_advance_0 B i))) fa_bk_19 ?_
    refine j_aload_n C dX0_advance_40 rfl ?_
    refine j_get C f_X0_12.F 0 dX0_advance_41 bkW_0 rfl ?_
    refine j_aload_n C dX0_advance_44 rfl ?_
    refine j_get C f_X0_28.F 0 dX0_advance_45 bkW_0 rfl ?_
    refine j_get C f_X0_107.F 3 dX0_advance_48 bkW_3 rfl ?_
    refine j_iload_n C dX0_advance_51 rfl ?_
    refine j_iald C 13 dX0_advance_52 bkW_13 (has_X3 h8) ?_
    refine j_sti rd_15 ?_
    refine j_iload_n C dX0_advance_53 rfl ?_
    refine j_callVv C g_X0_110 (c_X4_intoPurse l D ca g (z_X0_advance_0 B i) (B 7 i.toNatClampNeg) (r_X0_offerAfter B i (0 : Int32))) 1 bkW_1 hcl_X4 ⟨Nat.le_of_ble_eq_true rfl, Nat.le_of_ble_eq_true rfl⟩ ⟨Nat.le_of_ble_eq_true rfl, Nat.le_of_ble_eq_true rfl⟩ [1, 6, 7, 8, 9] pl_bk_mb rfl rfl rfl (Nat.le_of_ble_eq_true rfl) dX0_advance_54 fst_mb ?_
    refine j_ws (ws' := (bkW ca g (z_X0_advance_1 B i))) fs_bk_X4_intoPurse ?_
    refine j_aload_n C dX0_advance_57 rfl ?_
    refine j_dup C dX0_advance_58 rfl ?_
    refine j_get C f_X0_95.F 0 dX0_advance_59 bkW_0 rfl ?_
    refine j_iload_n C dX0_advance_62 rfl ?_
    refine j_isub C dX0_advance_63 ?_
    refine j_put C f_X0_95 0 dX0_advance_64 bkW_0 (Nat.le_of_ble_eq_true rfl) rfl rfl ?_
    refine j_ws (ws' := (bkW ca g (z_X0_advance_2 B i))) fo_bk_0_6 ?_
    refine j_aload_n C dX0_advance_67 rfl ?_
    refine j_dup C dX0_advance_68 rfl ?_
    refine j_get C f_X0_114.F 0 dX0_advance_69 bkW_0 rfl ?_
    refine j_sti rd_16 ?_
    refine j_iload_n C dX0_advance_72 rfl ?_
    refine j_iadd C dX0_advance_73 ?_
    refine j_put C f_X0_114 0 dX0_advance_74 bkW_0 (Nat.le_of_ble_eq_true rfl) rfl rfl ?_
    refine j_ws (ws' := (bkW ca g (z_X0_advance_3 B i))) fo_bk_0_7 ?_
    refine j_iload_n C dX0_advance_77 rfl ?_
    have e9 : r_X0_advance B i = ((r_X0_offerAfter B i (0 : Int32)), (z_X0_advance_3 B i)) := by rw [r_X0_advance, if_neg h8]
    exact j_iret E dX0_advance_78 (jD_i e9 (bkW ca g))
  · have hq := hq.1 h8
    refine j_iconst C dX0_advance_11 (-1 : Int32) (by decide) ?_
    have e9 : r_X0_advance B i = ((-1 : Int32), B) := by rw [r_X0_advance, if_pos h8]
    exact j_iret E dX0_advance_12 (jD_i e9 (bkW ca g))


def r_X0_errorOfPayment (B : jB) (i : Int32) (c : Int32) : Int32 := (if (r_X3_has B i) = (0 : Int32) then (-1 : Int32) else (if (r_X3_isUnsettled B i) = (0 : Int32) then (-4 : Int32) else (if c < (1 : Int32) then (-2 : Int32) else (if c ≤ ((B 9 i.toNatClampNeg) - (B 12 i.toNatClampNeg)) then (0 : Int32) else (-2 : Int32)))))
set_option maxRecDepth 100000 in
set_option maxHeartbeats 4000000 in
theorem c_X0_errorOfPayment (l : Launch) (D : va_G) (ca : Nat → ClassId) (g : Nat → Nat) (B : jB) (i : Int32) (c : Int32) : jM l D ca yX0_errorOfPayment cX0_errorOfPayment 4 (some .int) 2 42 0 0 [.ref (g 0), .int i, .int c] (bkW ca g B) (jD (some (.int (r_X0_errorOfPayment B i c))) (bkW ca g B)) := by
  refine jM_of [(0, .ref (g 0)), (1, .int i), (2, .int c)] (by decide) (Nat.le_of_ble_eq_true rfl) rfl (fun X C E => ?_)
  refine j_aload_n C dX0_errorOfPayment_0 rfl ?_
  refine j_get C f_X0_28.F 0 dX0_errorOfPayment_1 bkW_0 rfl ?_
  refine j_iload_n C dX0_errorOfPayment_4 rfl ?_
  refine j_callViR C g_X0_49 (c_X3_has l D ca g B i) 3 bkW_3 hcl_X3 ⟨Nat.le_of_ble_eq_true rfl, Nat.le_of_ble_eq_true rfl⟩ ⟨Nat.le_of_ble_eq_true rfl, Nat.le_of_ble_eq_true rfl⟩ [3, 13, 14, 15, 16, 17, 18, 19] pl_bk_iv rfl rfl rfl (Nat.le_of_ble_eq_true rfl) dX0_errorOfPayment_5 ?_
  refine j_if_ne (tgt := 13) C dX0_errorOfPayment_8 (by decide) (fun (h8 : ¬ ((r_X3_has B i) = (0 : Int32))) => ?_) (fun (h8 : (r_X3_has B i) = (0 : Int32)) => ?_)
  · refine j_aload_n C dX0_errorOfPayment_13 rfl ?_
    refine j_get C f_X0_28.F 0 dX0_errorOfPayment_14 bkW_0 rfl ?_
    refine j_iload_n C dX0_errorOfPayment_17 rfl ?_
    refine j_callViR C g_X0_101 (c_X3_isUnsettled l D ca g B i) 3 bkW_3 hcl_X3 ⟨Nat.le_of_ble_eq_true rfl, Nat.le_of_ble_eq_true rfl⟩ ⟨Nat.le_of_ble_eq_true rfl, Nat.le_of_ble_eq_true rfl⟩ [3, 13, 14, 15, 16, 17, 18, 19] pl_bk_iv rfl rfl rfl (Nat.le_of_ble_eq_true rfl) dX0_errorOfPayment_18 ?_
    refine j_if_ne (tgt := 27) C dX0_errorOfPayment_21 (by decide) (fun (h21 : ¬ ((r_X3_isUnsettled B i) = (0 : Int32))) => ?_) (fun (h21 : (r_X3_isUnsettled B i) = (0 : Int32)) => ?_)
    · refine j_aload_n C dX0_errorOfPayment_27 rfl ?_
      refine j_get C f_X0_28.F 0 dX0_errorOfPayment_28 bkW_0 rfl ?_
      refine j_get C f_X0_79.F 3 dX0_errorOfPayment_31 bkW_3 rfl ?_
      refine j_iload_n C dX0_errorOfPayment_34 rfl ?_
      refine j_iald C 15 dX0_errorOfPayment_35 bkW_15 (has_X3 h8) ?_
      refine j_aload_n C dX0_errorOfPayment_36 rfl ?_
      refine j_get C f_X0_28.F 0 dX0_errorOfPayment_37 bkW_0 rfl ?_
      refine j_get C f_X0_92.F 3 dX0_errorOfPayment_40 bkW_3 rfl ?_
      refine j_iload_n C dX0_errorOfPayment_43 rfl ?_
      refine j_iald C 18 dX0_errorOfPayment_44 bkW_18 (has_X3 h8) ?_
      refine j_isub C dX0_errorOfPayment_45 ?_
      refine j_istore_n C [(3, _), (0, _), (1, _), (2, _)] dX0_errorOfPayment_46 (by decide) rfl ?_
      refine j_iload_n C dX0_errorOfPayment_47 rfl ?_
      refine j_iconst C dX0_errorOfPayment_48 (1 : Int32) (by decide) ?_
      refine j_icmp_lt (tgt := 57) C dX0_errorOfPayment_49 (by decide) (fun (h49 : c < (1 : Int32)) => ?_) (fun (h49 : ¬ (c < (1 : Int32))) => ?_)
      · refine j_bipush C dX0_errorOfPayment_57 (-2 : Int32) (by decide) ?_
        refine j_goto (tgt := 63) C dX0_errorOfPayment_59 (by decide) ?_
        have e9 : r_X0_errorOfPayment B i c = (-2 : Int32) := by rw [r_X0_errorOfPayment, if_neg h8, if_neg h21, if_pos h49]
        exact j_iret E dX0_errorOfPayment_63 (by rw [e9]; exact ⟨rfl, rfl⟩)
      · refine j_iload_n C dX0_errorOfPayment_52 rfl ?_
        refine j_iload_n C dX0_errorOfPayment_53 rfl ?_
        refine j_icmp_le (tgt := 62) C dX0_errorOfPayment_54 (by decide) (fun (h54 : c ≤ ((B 9 i.toNatClampNeg) - (B 12 i.toNatClampNeg))) => ?_) (fun (h54 : ¬ (c ≤ ((B 9 i.toNatClampNeg) - (B 12 i.toNatClampNeg)))) => ?_)
        · refine j_iconst C dX0_errorOfPayment_62 (0 : Int32) (by decide) ?_
          have e9 : r_X0_errorOfPayment B i c = (0 : Int32) := by rw [r_X0_errorOfPayment, if_neg h8, if_neg h21, if_neg h49, if_pos h54]
          exact j_iret E dX0_errorOfPayment_63 (by rw [e9]; exact ⟨rfl, rfl⟩)
        · refine j_bipush C dX0_errorOfPayment_57 (-2 : Int32) (by decide) ?_
          refine j_goto (tgt := 63) C dX0_errorOfPayment_59 (by decide) ?_
          have e9 : r_X0_errorOfPayment B i c = (-2 : Int32) := by rw [r_X0_errorOfPayment, if_neg h8, if_neg h21, if_neg h49, if_neg h54]
          exact j_iret E dX0_errorOfPayment_63 (by rw [e9]; exact ⟨rfl, rfl⟩)
    · refine j_bipush C dX0_errorOfPayment_24 (-4 : Int32) (by decide) ?_
      have e9 : r_X0_errorOfPayment B i c = (-4 : Int32) := by rw [r_X0_errorOfPayment, if_neg h8, if_pos h21]
      exact j_iret E dX0_errorOfPayment_26 (by rw [e9]; exact ⟨rfl, rfl⟩)
  · refine j_iconst C dX0_errorOfPayment_11 (-1 : Int32) (by decide) ?_
    have e9 : r_X0_errorOfPayment B i c = (-1 : Int32) := by rw [r_X0_errorOfPayment, if_pos h8]
    exact j_iret E dX0_errorOfPayment_12 (by rw [e9]; exact ⟨rfl, rfl⟩)
