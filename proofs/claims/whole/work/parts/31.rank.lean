theorem iinc_m1 (x : Int32) : x + Int32.ofInt (-1) = x + (-1 : Int32) := rfl
theorem vin_suc {q : Int32} {n : Nat} (N : Int32) (hN : N.toInt = n) (h : vp_in q n) (h1 : q + 1 < N) : vp_in (q + 1) n := by
  obtain ⟨a, b⟩ := vp_in_iff.mp h
  have h2 := Int32.lt_iff_toInt_lt.mp h1
  have h3 : N.toInt ≤ 2147483647 := Int32.toInt_le N
  have e5 : (q + 1).toInt = q.toInt + 1 := by
    rw [Int32.toInt_add, show (1 : Int32).toInt = 1 from rfl, Int.bmod_eq_of_le] <;> omega
  exact vp_in_iff.mpr ⟨by omega, by omega⟩
theorem vin_pred {q : Int32} {n : Nat} (h : vp_in q n) (h1 : ¬ q ≤ 0) : vp_in (q - 1) n ∧ (q - 1).toInt = q.toInt - 1 := by
  obtain ⟨a, b⟩ := vp_in_iff.mp h
  have h2 := Int32.lt_iff_toInt_lt.mp (Int32.not_le.mp h1)
  have e0 : (0 : Int32).toInt = 0 := rfl
  have h3 : q.toInt ≤ 2147483647 := Int32.toInt_le q
  have e5 : (q - 1).toInt = q.toInt - 1 := by
    rw [Int32.toInt_sub, show (1 : Int32).toInt = 1 from rfl, Int.bmod_eq_of_le] <;> omega
  exact ⟨vp_in_iff.mpr ⟨by omega, by omega⟩, e5⟩
theorem add_m1 (q : Int32) : q + (-1) = q - 1 := by rw [Int32.sub_eq_add_neg]
theorem nat_pred {q : Int32} {n m : Nat} (h : vp_in q n) (h1 : ¬ q ≤ 0) (hm : q.toInt.toNat < m + 1) : (q + (-1)).toInt.toNat < m := by
  rw [add_m1, (vin_pred h h1).2]
  have h2 := Int32.lt_iff_toInt_lt.mp (Int32.not_le.mp h1)
  have e0 : (0 : Int32).toInt = 0 := rfl
  omega
theorem vin_pred' {q : Int32} {n : Nat} (h : vp_in q n) (h1 : ¬ q ≤ 0) : vp_in (q + (-1)) n := by rw [add_m1]; exact (vin_pred h h1).1


def r_X5_invoiceAt (K : (Nat → jB)) (p : Int32) : Int32 := (if p < (0 : Int32) then (-5 : Int32) else (if p < (20 : Int32) then (K 7 3 p.toNatClampNeg) else (-5 : Int32)))
set_option maxRecDepth 100000 in
set_option maxHeartbeats 4000000 in
theorem c_X5_invoiceAt (l : Launch) (D : va_G) (ca : Nat → ClassId) (g : Nat → Nat) (K : (Nat → jB)) (p : Int32) : jM l D ca yX5_invoiceAt cX5_invoiceAt 2 (some .int) 0 0 0 0 [.ref (g 7), .int p] (rkW ca g K) (jD (some (.int (r_X5_invoiceAt K p))) (rkW ca g K)) := by
  refine jM_of [(0, .ref (g 7)), (1, .int p)] (by decide) (Nat.le_of_ble_eq_true rfl) rfl (fun X C E => ?_)
  refine j_iload_n C dX5_invoiceAt_0 rfl ?_
  refine j_if_lt (tgt := 10) C dX5_invoiceAt_1 (by decide) (fun (h1 : p < (0 : Int32)) => ?_) (fun (h1 : ¬ (p < (0 : Int32))) => ?_)
  · refine j_bipush C dX5_invoiceAt_10 (-5 : Int32) (by decide) ?_
    refine j_goto (tgt := 21) C dX5_invoiceAt_12 (by decide) ?_
    have e9 : r_X5_invoiceAt K p = (-5 : Int32) := by rw [r_X5_invoiceAt, if_pos h1]
    exact j_iret E dX5_invoiceAt_21 (by rw [e9]; exact ⟨rfl, rfl⟩)
  · refine j_iload_n C dX5_invoiceAt_4 rfl ?_
    refine j_bipush C dX5_invoiceAt_5 (20 : Int32) (by decide) ?_
    refine j_icmp_lt (tgt := 15) C dX5_invoiceAt_7 (by decide) (fun (h7 : p < (20 : Int32)) => ?_) (fun (h7 : ¬ (p < (20 : Int32))) => ?_)
    · refine j_aload_n C dX5_invoiceAt_15 rfl ?_
      refine j_get C f_X5_9.F 0 dX5_invoiceAt_16 rkW_0 rfl ?_
      refine j_iload_n C dX5_invoiceAt_19 rfl ?_
      refine j_iald C 1 dX5_invoiceAt_20 rkW_1 (vin_lt 20 rfl (Int32.not_lt.mp h1) h7) ?_
      have e9 : r_X5_invoiceAt K p = (K 7 3 p.toNatClampNeg) := by rw [r_X5_invoiceAt, if_neg h1, if_pos h7]
      exact j_iret E dX5_invoiceAt_21 (by rw [e9]; exact ⟨rfl, rfl⟩)
    · refine j_bipush C dX5_invoiceAt_10 (-5 : Int32) (by decide) ?_
      refine j_goto (tgt := 21) C dX5_invoiceAt_12 (by decide) ?_
      have e9 : r_X5_invoiceAt K p = (-5 : Int32) := by rw [r_X5_invoiceAt, if_neg h1, if_neg h7]
      exact j_iret E dX5_invoiceAt_21 (by rw [e9]; exact ⟨rfl, rfl⟩)
set_option maxRecDepth 100000 in
set_option maxHeartbeats 4000000 in
theorem fa_rk_1 {ca : Nat → ClassId} {g : Nat → Nat} {K : (Nat → jB)} {i : Nat} {v : Int32} : (rkW ca g K).set 1 (g 8, .inl (ca 0, 20, .inl (upd (K 7 3) i v))) = rkW ca g (up3 K 7 3 i v) := rfl
set_option maxRecDepth 100000 in
set_option maxHeartbeats 4000000 in
theorem ff_rk_2 {ca : Nat → ClassId} {g : Nat → Nat} {K : (Nat → jB)} {i : Nat} {v : UInt32} : ((rkW ca g K).set 2 (g 9, .inl (ca 1, 20, .inr (.inr (.inl (vf_upd (fun k => (K 7 4 k).toUInt32) i v)))))).set 2 (g 9, .inl (ca 1, 20, .inr (.inr (.inl (fun k => ((up3 K 7 4 i v.toInt32) 7 4 k).toUInt32))))) = rkW ca g (up3 K 7 4 i v.toInt32) := rfl
set_option maxRecDepth 100000 in
set_option maxHeartbeats 4000000 in
theorem rd_45 {S : (Nat → jB)} {k1 : Nat} {v1 : Int32} {k0 : Nat} {v0 : Int32} : (up3 (up3 S 7 3 k1 v1) 7 4 k0 v0) 7 5 4 = S 7 5 4 := rfl
set_option maxRecDepth 100000 in
set_option maxHeartbeats 4000000 in
theorem fo_rk_0_2 {ca : Nat → ClassId} {g : Nat → Nat} {K : (Nat → jB)} {v : Int32} : (rkW ca g K).set 0 (g 7, .inr (5, [.ref (g 8), .ref (g 9), .int (K 7 5 4)].set 2 (.int v))) = rkW ca g (up3 K 7 5 4 v) := rfl
set_option maxRecDepth 100000 in
set_option maxHeartbeats 4000000 in
theorem rd_46 {S : (Nat → jB)} {k0 : Nat} {v0 : Int32} {i : Nat} : (up3 S 7 3 k0 v0) 7 4 i = S 7 4 i := rfl

def z_X5_insert_0 (i : Int32) (w : UInt32) (x22_3 : Int32) (K22 : (Nat → jB)) : (Nat → jB) := (up3 (up3 K22 7 3 (x22_3).toNatClampNeg i) 7 4 (x22_3).toNatClampNeg ((w).toInt32))
def z_X5_insert_1 (x22_3 : Int32) (K22 : (Nat → jB)) : (Nat → jB) := (up3 K22 7 3 (x22_3).toNatClampNeg (K22 7 3 (x22_3 - (1 : Int32)).toNatClampNeg))
def z_X5_insert_2 (x22_3 : Int32) (K22 : (Nat → jB)) : (Nat → jB) := (up3 (z_X5_insert_1 x22_3 K22) 7 4 (x22_3).toNatClampNeg (((K22 7 4 (x22_3 - (1 : Int32)).toNatClampNeg).toUInt32).toInt32))
def L_X5_insert_22 (K : (Nat → jB)) (i : Int32) (w : UInt32) : Nat → Int32 → (Nat → jB) → (Nat → jB)
  | 0, _, _ => K
  | n22 + 1, x22_3, K22 => (if x22_3 ≤ (0 : Int32) then (up3 (z_X5_insert_0 i w x22_3 K22) 7 5 4 ((K22 7 5 4) + (1 : Int32))) else (if (0 : Int32) ≤ (Op.cmpValue (FP.fcmp ((K22 7 4 (x22_3 - (1 : Int32)).toNatClampNeg).toUInt32) w) CmpOp.g) then (up3 (z_X5_insert_0 i w x22_3 K22) 7 5 4 ((K22 7 5 4) + (1 : Int32))) else L_X5_insert_22 K i w n22 (x22_3 + (-1 : Int32)) (z_X5_insert_2 x22_3 K22)))
def r_X5_insert (K : (Nat → jB)) (i : Int32) (w : UInt32) : (Nat → jB) := (if (K 7 5 4) < (0 : Int32) then K else (if (K 7 5 4) < (20 : Int32) then L_X5_insert_22 K i w ((K 7 5 4).toInt.toNat + 1) (K 7 5 4) K else K))
set_option maxRecDepth 100000 in
set_option maxHeartbeats 4000000 in
theorem c_X5_insert (l : Launch) (D : va_G) (ca : Nat → ClassId) (g : Nat → Nat) (K : (Nat → jB)) (i : Int32) (w : UInt32) : jM l D ca yX5_insert cX5_insert 4 (none : Option FieldType) 0 0 0 0 [.ref (g 7), .int i, .float w] (rkW ca g K) (jD none (rkW ca g (r_X5_insert K i w))) := by
  refine jM_of [(0, .ref (g 7)), (1, .int i), (2, .float w)] (by decide) (Nat.le_of_ble_eq_true rfl) rfl (fun X C E => ?_)
  refine j_aload_n C dX5_insert_0 rfl ?_
  refine j_get C f_X5_19.F 0 dX5_insert_1 rkW_0 rfl ?_
  refine j_if_lt (tgt := 16) C dX5_insert_4 (by decide) (fun (h4 : (K 7 5 4) < (0 : Int32)) => ?_) (fun (h4 : ¬ ((K 7 5 4) < (0 : Int32))) => ?_)
  · have e9 : r_X5_insert K i w = K := by rw [r_X5_insert, if_pos h4]
    exact j_vret E dX5_insert_16 (by rw [e9]; exact ⟨rfl, rfl⟩)
  · refine j_aload_n C dX5_insert_7 rfl ?_
    refine j_get C f_X5_19.F 0 dX5_insert_8 rkW_0 rfl ?_
    refine j_bipush C dX5_insert_11 (20 : Int32) (by decide) ?_
    refine j_icmp_lt (tgt := 17) C dX5_insert_13 (by decide) (fun (h13 : (K 7 5 4) < (20 : Int32)) => ?_) (fun (h13 : ¬ ((K 7 5 4) < (20 : Int32))) => ?_)
    · refine j_aload_n C dX5_insert_17 rfl ?_
      refine j_get C f_X5_19.F 0 dX5_insert_18 rkW_0 rfl ?_
      refine j_istore_n C [(3, _), (0, _), (1, _), (2, _)] dX5_insert_21 (by decide) rfl ?_
      have K22 : ∀ (n22 : Nat) (x22_3 : Int32) (K22 : (Nat → jB)), x22_3.toInt.toNat < n22 → (vp_in x22_3 20) → r_X5_insert K i w = L_X5_insert_22 K i w n22 x22_3 K22 → J l { frames := 0, cells := 0, slots := 0, locals := 0 } D 4 X 0 0 (rkW ca g K22) [(0, .ref (g 7)), (1, .int i), (2, .float w), (3, .int x22_3)] [] 22 := by
        intro n22
        induction n22 with
        | zero =>
          intro x22_3 K22 hm22
          exact absurd hm22 (Nat.not_lt_zero _)
        | succ n22 ih22 =>
          intro x22_3 K22 hm22 hv22 hr22
          refine j_iload_n C dX5_insert_22 rfl ?_
          refine j_if_le (tgt := 73) C dX5_insert_23 (by decide) (fun (h23 : x22_3 ≤ (0 : Int32)) => ?_) (fun (h23 : ¬ (x22_3 ≤ (0 : Int32))) => ?_)
          · refine j_aload_n C dX5_insert_73 rfl ?_
            refine j_get C f_X5_9.F 0 dX5_insert_74 rkW_0 rfl ?_
            refine j_iload_n C dX5_insert_77 rfl ?_
            refine j_iload_n C dX5_insert_78 rfl ?_
            refine j_iast C 1 dX5_insert_79 rkW_1 hv22 ?_
            refine j_ws (ws' := (rkW ca g (up3 K22 7 3 (x22_3).toNatClampNeg i))) fa_rk_1 ?_
            refine j_aload_n C dX5_insert_80 rfl ?_
            refine j_get C f_X5_15.F 0 dX5_insert_81 rkW_0 rfl ?_
            refine j_iload_n C dX5_insert_84 rfl ?_
            refine j_fload_n C dX5_insert_85 rfl ?_
            refine j_fast C 2 dX5_insert_86 rkW_2 hv22 ?_
            refine j_extF 2 (fun k => ((up3 (up3 K22 7 3 (x22_3).toNatClampNeg i) 7 4 (x22_3).toNatClampNeg ((w).toInt32)) 7 4 k).toUInt32) rfl (fun _ _ => vf_row3 _ _ _ _ _ _) ?_
            refine j_ws (ws' := (rkW ca g (z_X5_insert_0 i w x22_3 K22))) ff_rk_2 ?_
            refine j_aload_n C dX5_insert_87 rfl ?_
            refine j_dup C dX5_insert_88 rfl ?_
            refine j_get C f_X5_19.F 0 dX5_insert_89 rkW_0 rfl ?_
            refine j_sti rd_45 ?_
            refine j_iconst C dX5_insert_92 (1 : Int32) (by decide) ?_
            refine j_iadd C dX5_insert_93 ?_
            refine j_put C f_X5_19 0 dX5_insert_94 rkW_0 (Nat.le_of_ble_eq_true rfl) rfl rfl ?_
            refine j_ws (ws' := (rkW ca g (up3 (z_X5_insert_0 i w x22_3 K22) 7 5 4 ((K22 7 5 4) + (1 : Int32))))) fo_rk_0_2 ?_
            have e9 : r_X5_insert K i w = (up3 (z_X5_insert_0 i w x22_3 K22) 7 5 4 ((K22 7 5 4) + (1 : Int32))) := by rw [hr22, L_X5_insert_22, if_pos h23]
            exact j_vret E dX5_insert_97 (by rw [e9]; exact ⟨rfl, rfl⟩)
          · refine j_aload_n C dX5_insert_26 rfl ?_
            refine j_get C f_X5_15.F 0 dX5_insert_27 rkW_0 rfl ?_
            refine j_iload_n C dX5_insert_30 rfl ?_
            refine j_iconst C dX5_insert_31 (1 : Int32) (by decide) ?_
            refine j_isub C dX5_insert_32 ?_
            refine j_fald C 2 dX5_insert_33 rkW_2 (vin_pred hv22 h23).1 ?_
            refine j_fload_n C dX5_insert_34 rfl ?_
            refine j_fcmp C dX5_insert_35 ?_
            refine j_if_ge (tgt := 73) C dX5_insert_36 (by decide) (fun (h36 : (0 : Int32) ≤ (Op.cmpValue (FP.fcmp ((K22 7 4 (x22_3 - (1 : Int32)).toNatClampNeg).toUInt32) w) CmpOp.g)) => ?_) (fun (h36 : ¬ ((0 : Int32) ≤ (Op.cmpValue (FP.fcmp ((K22 7 4 (x22_3 - (1 : Int32)).toNatClampNeg).toUInt32) w) CmpOp.g))) => ?_)
            · refine j_aload_n C dX5_insert_73 rfl ?_
              refine j_get C f_X5_9.F 0 dX5_insert_74 rkW_0 rfl ?_
              refine j_iload_n C dX5_insert_77 rfl ?_
              refine j_iload_n C dX5_insert_78 rfl ?_
              refine j_iast C 1 dX5_insert_79 rkW_1 hv22 ?_
              refine j_ws (ws' := (rkW ca g (up3 K22 7 3 (x22_3).toNatClampNeg i))) fa_rk_1 ?_
              refine j_aload_n C dX5_insert_80 rfl ?_
              refine j_get C f_X5_15.F 0 dX5_insert_81 rkW_0 rfl ?_
              refine j_iload_n C dX5_insert_84 rfl ?_
              refine j_fload_n C dX5_insert_85 rfl ?_
              refine j_fast C 2 dX5_insert_86 rkW_2 hv22 ?_
              refine j_extF 2 (fun k => ((up3 (up3 K22 7 3 (x22_3).toNatClampNeg i) 7 4 (x22_3).toNatClampNeg ((w).toInt32)) 7 4 k).toUInt32) rfl (fun _ _ => vf_row3 _ _ _ _ _ _) ?_
              refine j_ws (ws' := (rkW ca g (z_X5_insert_0 i w x22_3 K22))) ff_rk_2 ?_
              refine j_aload_n C dX5_insert_87 rfl ?_
              refine j_dup C dX5_insert_88 rfl ?_
              refine j_get C f_X5_19.F 0 dX5_insert_89 rkW_0 rfl ?_
              refine j_sti rd_45 ?_
              refine j_iconst C dX5_insert_92 (1 : Int32) (by decide) ?_
              refine j_iadd C dX5_insert_93 ?_
              refine j_put C f_X5_19 0 dX5_insert_94 rkW_0 (Nat.le_of_ble_eq_true rfl) rfl rfl ?_
              refine j_ws (ws' := (rkW ca g (up3 (z_X5_insert_0 i w x22_3 K22) 7 5 4 ((K22 7 5 4) + (1 : Int32))))) fo_rk_0_2 ?_
              have e9 : r_X5_insert K i w = (up3 (z_X5_insert_0 i w x22_3 K22) 7 5 4 ((K22 7 5 4) + (1 : Int32))) := by rw [hr22, L_X5_insert_22, if_neg h23, if_pos h36]
              exact j_vret E dX5_insert_97 (by rw [e9]; exact ⟨rfl, rfl⟩)
            · refine j_aload_n C dX5_insert_39 rfl ?_
              refine j_get C f_X5_9.F 0 dX5_insert_40 rkW_0 rfl ?_
              refine j_iload_n C dX5_insert_43 rfl ?_
              refine j_aload_n C dX5_insert_44 rfl ?_
              refine j_get C f_X5_9.F 0 dX5_insert_45 rkW_0 rfl ?_
              refine j_iload_n C dX5_insert_48 rfl ?_
              refine j_iconst C dX5_insert_49 (1 : Int32) (by decide) ?_
              refine j_isub C dX5_insert_50 ?_
              refine j_iald C 1 dX5_insert_51 rkW_1 (vin_pred hv22 h23).1 ?_
              refine j_iast C 1 dX5_insert_52 rkW_1 hv22 ?_
              refine j_ws (ws' := (rkW ca g (z_X5_insert_1 x22_3 K22))) fa_rk_1 ?_
              refine j_aload_n C dX5_insert_53 rfl ?_
              refine j_get C f_X5_15.F 0 dX5_insert_54 rkW_0 rfl ?_
              refine j_iload_n C dX5_insert_57 rfl ?_
              refine j_aload_n C dX5_insert_58 rfl ?_
              refine j_get C f_X5_15.F 0 dX5_insert_59 rkW_0 rfl ?_
              refine j_iload_n C dX5_insert_62 rfl ?_
              refine j_iconst C dX5_insert_63 (1 : Int32) (by decide) ?_
              refine j_isub C dX5_insert_64 ?_
              refine j_fald C 2 dX5_insert_65 rkW_2 (vin_pred hv22 h23).1 ?_
              refine j_stf rd_46 ?_
              refine j_fast C 2 dX5_insert_66 rkW_2 hv22 ?_
              refine j_extF 2 (fun k => ((up3 (z_X5_insert_1 x22_3 K22) 7 4 (x22_3).toNatClampNeg (((K22 7 4 (x22_3 - (1 : Int32)).toNatClampNeg).toUInt32).toInt32)) 7 4 k).toUInt32) rfl (fun _ _ => vf_row3 _ _ _ _ _ _) ?_
              refine j_ws (ws' := (rkW ca g (z_X5_insert_2 x22_3 K22))) ff_rk_2 ?_
              refine j_iinc C [(3, _), (0, _), (1, _), (2, _)] (v := (x22_3 + (-1 : Int32))) dX5_insert_67 rfl (iinc_m1 _) (by decide) rfl ?_
              refine j_goto (tgt := 22) C dX5_insert_70 (by decide) ?_
              refine j_lv [(0, .ref (g 7)), (1, .int i), (2, .float w), (3, .int (x22_3 + (-1 : Int32)))] rfl ?_
              exact ih22 (x22_3 + (-1 : Int32)) (z_X5_insert_2 x22_3 K22) (nat_pred hv22 h23 hm22) (vin_pred' hv22 h23) (by rw [hr22, L_X5_insert_22, if_neg h23, if_neg h36])
      refine j_lv [(0, .ref (g 7)), (1, .int i), (2, .float w), (3, .int (K 7 5 4))] rfl ?_
      exact K22 ((K 7 5 4).toInt.toNat + 1) (K 7 5 4) K (Nat.lt_succ_self _) (vin_lt 20 rfl (Int32.not_lt.mp h4) h13) (by rw [r_X5_insert, if_neg h4, if_pos h13])
    · have e9 : r_X5_insert K i w = K := by rw [r_X5_insert, if_neg h4, if_neg h13]
      exact j_vret E dX5_insert_16 (by rw [e9]; exact ⟨rfl, rfl⟩)
set_option maxRecDepth 100000 in
set_option maxHeartbeats 4000000 in
theorem fo_tx_0_4 {ca : Nat → ClassId} {g : Nat → Nat} {K : (Nat → jB)} {v : Int32} : (txW ca g K).set 0 (g 3, .inr (6, [.ref (g 4), .ref (g 5), .ref (g 6), .int (K 7 5 0), .int (K 7 5 1)].set 4 (.int v))) = txW ca g (up3 K 7 5 1 v) := rfl
set_option maxRecDepth 100000 in
set_option maxHeartbeats 4000000 in
theorem fa_tx_3 {ca : Nat → ClassId} {g : Nat → Nat} {K : (Nat → jB)} {i : Nat} {v : Int32} : (txW ca g K).set 3 (g 6, .inl (ca 0, 60, .inl (upd (K 7 2) i v))) = txW ca g (up3 K 7 2 i v) := rfl
set_option maxRecDepth 100000 in
set_option maxHeartbeats 4000000 in
theorem fa_tx_2 {ca : Nat → ClassId} {g : Nat → Nat} {K : (Nat → jB)} {i : Nat} {v : Int32} : (txW ca g K).set 2 (g 5, .inl (ca 0, 60, .inl (upd (K 7 1) i v))) = txW ca g (up3 K 7 1 i v) := rfl

def z_X6_readNumbers_0 (x6_1 : Int32) (x6_2 : Int32) (x6_3 : Int32) (K6 : (Nat → jB)) : (Nat → jB) := (up3 K6 7 2 (x6_2).toNatClampNeg ((x6_1 * (10 : Int32)) + ((K6 7 0 x6_3.toNatClampNeg) - (48 : Int32))))
def L_X6_readNumbers_6 (K : (Nat → jB)) : Nat → Int32 → Int32 → Int32 → (Nat → jB) → (Nat → jB)
  | 0, _, _, _, _ => K
  | n6 + 1, x6_1, x6_2, x6_3, K6 => (if (K6 7 5 0) ≤ x6_3 then (up3 K6 7 5 1 (x6_2 + (1 : Int32))) else (if (60 : Int32) ≤ x6_3 then (up3 K6 7 5 1 (x6_2 + (1 : Int32))) else (if (K6 7 0 x6_3.toNatClampNeg) = (61 : Int32) then L_X6_readNumbers_6 K n6 (0 : Int32) x6_2 (x6_3 + (1 : Int32)) (up3 K6 7 1 (x6_2).toNatClampNeg x6_1) else (if (K6 7 0 x6_3.toNatClampNeg) = (44 : Int32) then (if (60 : Int32) ≤ (x6_2 + (1 : Int32)) then L_X6_readNumbers_6 K n6 (0 : Int32) x6_2 (x6_3 + (1 : Int32)) K6 else L_X6_readNumbers_6 K n6 (0 : Int32) (x6_2 + (1 : Int32)) (x6_3 + (1 : Int32)) K6) else L_X6_readNumbers_6 K n6 ((x6_1 * (10 : Int32)) + ((K6 7 0 x6_3.toNatClampNeg) - (48 : Int32))) x6_2 (x6_3 + (1 : Int32)) (z_X6_readNumbers_0 x6_1 x6_2 x6_3 K6)))))
def r_X6_readNumbers (K : (Nat → jB)) : (Nat → jB) := L_X6_readNumbers_6 K 61 (0 : Int32) (0 : Int32) (0 : Int32) K
set_option maxRecDepth 100000 in
set_option maxHeartbeats 4000000 in
theorem c_X6_readNumbers (l : Launch) (D : va_G) (ca : Nat → ClassId) (g : Nat → Nat) (K : (Nat → jB)) : jM l D ca yX6_readNumbers cX6_readNumbers 5 (none : Option FieldType) 0 0 0 0 [.ref (g 3)] (txW ca g K) (jD none (txW ca g (r_X6_readNumbers K))) := by
  refine jM_of [(0, .ref (g 3))] (by decide) (Nat.le_of_ble_eq_true rfl) rfl (fun X C E => ?_)
  refine j_iconst C dX6_readNumbers_0 (0 : Int32) (by decide) ?_
  refine j_istore_n C [(1, _), (0, _)] dX6_readNumbers_1 (by decide) rfl ?_
  refine j_iconst C dX6_readNumbers_2 (0 : Int32) (by decide) ?_
  refine j_istore_n C [(2, _), (1, _), (0, _)] dX6_readNumbers_3 (by decide) rfl ?_
  refine j_iconst C dX6_readNumbers_4 (0 : Int32) (by decide) ?_
  refine j_istore_n C [(3, _), (2, _), (1, _), (0, _)] dX6_readNumbers_5 (by decide) rfl ?_
  have K6 : ∀ (n6 : Nat) (x6_1 : Int32) (x6_2 : Int32) (x6_3 : Int32) (K6 : (Nat → jB)), ((60 : Int32).toInt - x6_3.toInt).toNat < n6 → ((0 : Int32) ≤ x6_3) → (vp_in x6_2 60) → r_X6_readNumbers K = L_X6_readNumbers_6 K n6 x6_1 x6_2 x6_3 K6 → J l { frames := 0, cells := 0, slots := 0, locals := 0 } D 5 X 0 0 (txW ca g K6) [(0, .ref (g 3)), (1, .int x6_1), (2, .int x6_2), (3, .int x6_3)] [] 6 := by
    intro n6
    induction n6 with
    | zero =>
      intro x6_1 x6_2 x6_3 K6 hm6
      exact absurd hm6 (Nat.not_lt_zero _)
    | succ n6 ih6 =>
      intro x6_1 x6_2 x6_3 K6 hm6 hp6 hv6 hr6
      refine j_iload_n C dX6_readNumbers_6 rfl ?_
      refine j_aload_n C dX6_readNumbers_7 rfl ?_
      refine j_get C f_X6_22.F 0 dX6_readNumbers_8 txW_0 rfl ?_
      refine j_icmp_ge (tgt := 99) C dX6_readNumbers_11 (by decide) (fun (h11 : (K6 7 5 0) ≤ x6_3) => ?_) (fun (h11 : ¬ ((K6 7 5 0) ≤ x6_3)) => ?_)
      · refine j_aload_n C dX6_readNumbers_99 rfl ?_
        refine j_iload_n C dX6_readNumbers_100 rfl ?_
        refine j_iconst C dX6_readNumbers_101 (1 : Int32) (by decide) ?_
        refine j_iadd C dX6_readNumbers_102 ?_
        refine j_put C f_X6_26 0 dX6_readNumbers_103 txW_0 (Nat.le_of_ble_eq_true rfl) rfl rfl ?_
        refine j_ws (ws' := (txW ca g (up3 K6 7 5 1 (x6_2 + (1 : Int32))))) fo_tx_0_4 ?_
        have e9 : r_X6_readNumbers K = (up3 K6 7 5 1 (x6_2 + (1 : Int32))) := by rw [hr6, L_X6_readNumbers_6, if_pos h11]
        exact j_vret E dX6_readNumbers_106 (by rw [e9]; exact ⟨rfl, rfl⟩)
      · refine j_iload_n C dX6_readNumbers_14 rfl ?_
        refine j_bipush C dX6_readNumbers_15 (60 : Int32) (by decide) ?_
        refine j_icmp_ge (tgt := 99) C dX6_readNumbers_17 (by decide) (fun (h17 : (60 : Int32) ≤ x6_3) => ?_) (fun (h17 : ¬ ((60 : Int32) ≤ x6_3)) => ?_)
        · refine j_aload_n C dX6_readNumbers_99 rfl ?_
          refine j_iload_n C dX6_readNumbers_100 rfl ?_
          refine j_iconst C dX6_readNumbers_101 (1 : Int32) (by decide) ?_
          refine j_iadd C dX6_readNumbers_102 ?_
          refine j_put C f_X6_26 0 dX6_readNumbers_103 txW_0 (Nat.le_of_ble_eq_true rfl) rfl rfl ?_
          refine j_ws (ws' := (txW ca g (up3 K6 7 5 1 (x6_2 + (1 : Int32))))) fo_tx_0_4 ?_
          have e9 : r_X6_readNumbers K = (up3 K6 7 5 1 (x6_2 + (1 : Int32))) := by rw [hr6, L_X6_readNumbers_6, if_neg h11, if_pos h17]
          exact j_vret E dX6_readNumbers_106 (by rw [e9]; exact ⟨rfl, rfl⟩)
        · refine j_aload_n C dX6_readNumbers_20 rfl ?_
          refine j_get C f_X6_9.F 0 dX6_readNumbers_21 txW_0 rfl ?_
          refine j_iload_n C dX6_readNumbers_24 rfl ?_
          refine j_cald C 1 dX6_readNumbers_25 txW_1 (vin_b 60 rfl hp6 h17 (by decide)) ?_
          refine j_istore C [(4, _), (0, _), (1, _), (2, _), (3, _)] dX6_readNumbers_26 (by decide) rfl ?_
          refine j_iload C dX6_readNumbers_28 rfl ?_
          refine j_bipush C dX6_readNumbers_30 (61 : Int32) (by decide) ?_
          refine j_icmp_ne (tgt := 47) C dX6_readNumbers_32 (by decide) (fun (h32 : ¬ ((K6 7 0 x6_3.toNatClampNeg) = (61 : Int32))) => ?_) (fun (h32 : (K6 7 0 x6_3.toNatClampNeg) = (61 : Int32)) => ?_)
          · refine j_iload C dX6_readNumbers_47 rfl ?_
            refine j_bipush C dX6_readNumbers_49 (44 : Int32) (by decide) ?_
            refine j_icmp_ne (tgt := 75) C dX6_readNumbers_51 (by decide) (fun (h51 : ¬ ((K6 7 0 x6_3.toNatClampNeg) = (44 : Int32))) => ?_) (fun (h51 : (K6 7 0 x6_3.toNatClampNeg) = (44 : Int32)) => ?_)
            · refine j_iload_n C dX6_readNumbers_75 rfl ?_
              refine j_bipush C dX6_readNumbers_76 (10 : Int32) (by decide) ?_
              refine j_imul C dX6_readNumbers_78 ?_
              refine j_iload C dX6_readNumbers_79 rfl ?_
              refine j_bipush C dX6_readNumbers_81 (48 : Int32) (by decide) ?_
              refine j_isub C dX6_readNumbers_83 ?_
              refine j_iadd C dX6_readNumbers_84 ?_
              refine j_istore_n C [(1, _), (4, _), (0, _), (2, _), (3, _)] dX6_readNumbers_85 (by decide) rfl ?_
              refine j_aload_n C dX6_readNumbers_86 rfl ?_
              refine j_get C f_X6_19.F 0 dX6_readNumbers_87 txW_0 rfl ?_
              refine j_iload_n C dX6_readNumbers_90 rfl ?_
              refine j_iload_n C dX6_readNumbers_91 rfl ?_
              refine j_iast C 3 dX6_readNumbers_92 txW_3 hv6 ?_
              refine j_ws (ws' := (txW ca g (z_X6_readNumbers_0 x6_1 x6_2 x6_3 K6))) fa_tx_3 ?_
              refine j_iinc C [(3, _), (1, _), (4, _), (0, _), (2, _)] (v := (x6_3 + (1 : Int32))) dX6_readNumbers_93 rfl (iinc_1 _) (by decide) rfl ?_
              refine j_goto (tgt := 6) C dX6_readNumbers_96 (by decide) ?_
              refine j_lv [(0, .ref (g 3)), (1, .int ((x6_1 * (10 : Int32)) + ((K6 7 0 x6_3.toNatClampNeg) - (48 : Int32)))), (2, .int x6_2), (3, .int (x6_3 + (1 : Int32)))] rfl ?_
              exact ih6 ((x6_1 * (10 : Int32)) + ((K6 7 0 x6_3.toNatClampNeg) - (48 : Int32))) x6_2 (x6_3 + (1 : Int32)) (z_X6_readNumbers_0 x6_1 x6_2 x6_3 K6) (jms h17 hm6) (i_pos' h17 hp6) (by first | exact hv6 | exact vin_suc 60 rfl hv6 (by assumption) | exact vin_suc 60 rfl hv6 (Int32.not_le.mp (by assumption))) (by rw [hr6, L_X6_readNumbers_6, if_neg h11, if_neg h17, if_neg h32, if_neg h51])
            · refine j_iload_n C dX6_readNumbers_54 rfl ?_
              refine j_iconst C dX6_readNumbers_55 (1 : Int32) (by decide) ?_
              refine j_iadd C dX6_readNumbers_56 ?_
              refine j_bipush C dX6_readNumbers_57 (60 : Int32) (by decide) ?_
              refine j_icmp_ge (tgt := 68) C dX6_readNumbers_59 (by decide) (fun (h59 : (60 : Int32) ≤ (x6_2 + (1 : Int32))) => ?_) (fun (h59 : ¬ ((60 : Int32) ≤ (x6_2 + (1 : Int32)))) => ?_)
              · refine j_iload_n C dX6_readNumbers_68 rfl ?_
                refine j_istore_n C [(2, _), (4, _), (0, _), (1, _), (3, _)] dX6_readNumbers_69 (by decide) rfl ?_
                refine j_iconst C dX6_readNumbers_70 (0 : Int32) (by decide) ?_
                refine j_istore_n C [(1, _), (2, _), (4, _), (0, _), (3, _)] dX6_readNumbers_71 (by decide) rfl ?_
                refine j_goto (tgt := 93) C dX6_readNumbers_72 (by decide) ?_
                refine j_iinc C [(3, _), (1, _), (2, _), (4, _), (0, _)] (v := (x6_3 + (1 : Int32))) dX6_readNumbers_93 rfl (iinc_1 _) (by decide) rfl ?_
                refine j_goto (tgt := 6) C dX6_readNumbers_96 (by decide) ?_
                refine j_lv [(0, .ref (g 3)), (1, .int (0 : Int32)), (2, .int x6_2), (3, .int (x6_3 + (1 : Int32)))] rfl ?_
                exact ih6 (0 : Int32) x6_2 (x6_3 + (1 : Int32)) K6 (jms h17 hm6) (i_pos' h17 hp6) (by first | exact hv6 | exact vin_suc 60 rfl hv6 (by assumption) | exact vin_suc 60 rfl hv6 (Int32.not_le.mp (by assumption))) (by rw [hr6, L_X6_readNumbers_6, if_neg h11, if_neg h17, if_neg h32, if_pos h51, if_pos h59])
              · refine j_iload_n C dX6_readNumbers_62 rfl ?_
                refine j_iconst C dX6_readNumbers_63 (1 : Int32) (by decide) ?_
                refine j_iadd C dX6_readNumbers_64 ?_
                refine j_goto (tgt := 69) C dX6_readNumbers_65 (by decide) ?_
                refine j_istore_n C [(2, _), (4, _), (0, _), (1, _), (3, _)] dX6_readNumbers_69 (by decide) rfl ?_
                refine j_iconst C dX6_readNumbers_70 (0 : Int32) (by decide) ?_
                refine j_istore_n C [(1, _), (2, _), (4, _), (0, _), (3, _)] dX6_readNumbers_71 (by decide) rfl ?_
                refine j_goto (tgt := 93) C dX6_readNumbers_72 (by decide) ?_
                refine j_iinc C [(3, _), (1, _), (2, _), (4, _), (0, _)] (v := (x6_3 + (1 : Int32))) dX6_readNumbers_93 rfl (iinc_1 _) (by decide) rfl ?_
                refine j_goto (tgt := 6) C dX6_readNumbers_96 (by decide) ?_
                refine j_lv [(0, .ref (g 3)), (1, .int (0 : Int32)), (2, .int (x6_2 + (1 : Int32))), (3, .int (x6_3 + (1 : Int32)))] rfl ?_
                exact ih6 (0 : Int32) (x6_2 + (1 : Int32)) (x6_3 + (1 : Int32)) K6 (jms h17 hm6) (i_pos' h17 hp6) (by first | exact hv6 | exact vin_suc 60 rfl hv6 (by assumption) | exact vin_suc 60 rfl hv6 (Int32.not_le.mp (by assumption))) (by rw [hr6, L_X6_readNumbers_6, if_neg h11, if_neg h17, if_neg h32, if_pos h51, if_neg h59])
          · refine j_aload_n C dX6_readNumbers_35 rfl ?_
            refine j_get C f_X6_15.F 0 dX6_readNumbers_36 txW_0 rfl ?_
            refine j_iload_n C dX6_readNumbers_39 rfl ?_
            refine j_iload_n C dX6_readNumbers_40 rfl ?_
            refine j_iast C 2 dX6_readNumbers_41 txW_2 hv6 ?_
            refine j_ws (ws' := (txW ca g (up3 K6 7 1 (x6_2).toNatClampNeg x6_1))) fa_tx_2 ?_
            refine j_iconst C dX6_readNumbers_42 (0 : Int32) (by decide) ?_
            refine j_istore_n C [(1, _), (4, _), (0, _), (2, _), (3, _)] dX6_readNumbers_43 (by decide) rfl ?_
            refine j_goto (tgt := 93) C dX6_readNumbers_44 (by decide) ?_
            refine j_iinc C [(3, _), (1, _), (4, _), (0, _), (2, _)] (v := (x6_3 + (1 : Int32))) dX6_readNumbers_93 rfl (iinc_1 _) (by decide) rfl ?_
            refine j_goto (tgt := 6) C dX6_readNumbers_96 (by decide) ?_
            refine j_lv [(0, .ref (g 3)), (1, .int (0 : Int32)), (2, .int x6_2), (3, .int (x6_3 + (1 : Int32)))] rfl ?_
            exact ih6 (0 : Int32) x6_2 (x6_3 + (1 : Int32)) (up3 K6 7 1 (x6_2).toNatClampNeg x6_1) (jms h17 hm6) (i_pos' h17 hp6) (by first | exact hv6 | exact vin_suc 60 rfl hv6 (by assumption) | exact vin_suc 60 rfl hv6 (Int32.not_le.mp (by assumption))) (by rw [hr6, L_X6_readNumbers_6, if_neg h11, if_neg h17, if_pos h32])
  refine j_lv [(0, .ref (g 3)), (1, .int (0 : Int32)), (2, .int (0 : Int32)), (3, .int (0 : Int32))] rfl ?_
  exact K6 61 (0 : Int32) (0 : Int32) (0 : Int32) K (by decide) (by decide) (vin_c rfl) (by rw [r_X6_readNumbers])
set_option maxRecDepth 100000 in
set_option maxHeartbeats 4000000 in
theorem rd_47 {S : (Nat → jB)} {v0 : Int32} : (up3 S 7 5 1 v0) 7 5 0 = S 7 5 0 := rfl
set_option maxRecDepth 100000 in
set_option maxHeartbeats 4000000 in
theorem fst_tx {ca : Nat → ClassId} {g : Nat → Nat} {A B : (Nat → jB)} : (txW ca g A).map Prod.fst = (txW ca g B).map Prod.fst := rfl
set_option maxRecDepth 100000 in
set_option maxHeartbeats 4000000 in
theorem rd_48 {S : (Nat → jB)} {v0 : Int32} {i : Nat} : (up3 S 7 5 1 v0) 7 0 i = S 7 0 i := rfl

def L_X6_read_9 (K : (Nat → jB)) : Nat → Int32 → Int32 → Int32 × (Nat → jB)
  | 0, _, _ => (0, K)
  | n9 + 1, x9_1, x9_2 => (if (K 7 5 0) ≤ x9_2 then (if (3 : Int32) < x9_1 then ((-1 : Int32), (r_X6_readNumbers (up3 K 7 5 1 (0 : Int32)))) else ((K 7 5 0), (up3 K 7 5 1 (0 : Int32)))) else (if (60 : Int32) ≤ x9_2 then (if (3 : Int32) < x9_1 then ((-1 : Int32), (r_X6_readNumbers (up3 K 7 5 1 (0 : Int32)))) else ((K 7 5 0), (up3 K 7 5 1 (0 : Int32)))) else (if (r_X6_placeBehind x9_1 (K 7 0 x9_2.toNatClampNeg)) = (-1 : Int32) then (x9_2, (up3 K 7 5 1 (0 : Int32))) else L_X6_read_9 K n9 (r_X6_placeBehind x9_1 (K 7 0 x9_2.toNatClampNeg)) (x9_2 + (1 : Int32)))))
def r_X6_read (K : (Nat → jB)) : Int32 × (Nat → jB) := L_X6_read_9 K 61 (0 : Int32) (0 : Int32)
set_option maxRecDepth 100000 in
set_option maxHeartbeats 4000000 in
theorem c_X6_read (l : Launch) (D : va_G) (ca : Nat → ClassId) (g : Nat → Nat) (K : (Nat → jB)) : jM l D ca yX6_read cX6_read 3 (some .int) 1 24 0 0 [.ref (g 3)] (txW ca g K) (jD (some (.int (r_X6_read K).1)) (txW ca g ((r_X6_read K).2))) := by
  refine jM_of [(0, .ref (g 3))] (by decide) (Nat.le_of_ble_eq_true rfl) rfl (fun X C E => ?_)
  refine j_aload_n C dX6_read_0 rfl ?_
  refine j_iconst C dX6_read_1 (0 : Int32) (by decide) ?_
  refine j_put C f_X6_26 0 dX6_read_2 txW_0 (Nat.le_of_ble_eq_true rfl) rfl rfl ?_
  refine j_ws (ws' := (txW ca g (up3 K 7 5 1 (0 : Int32)))) fo_tx_0_4 ?_
  refine j_iconst C dX6_read_5 (0 : Int32) (by decide) ?_
  refine j_istore_n C [(1, _), (0, _)] dX6_read_6 (by decide) rfl ?_
  refine j_iconst C dX6_read_7 (0 : Int32) (by decide) ?_
  refine j_istore_n C [(2, _), (1, _), (0, _)] dX6_read_8 (by decide) rfl ?_
  have K9 : ∀ (n9 : Nat) (x9_1 : Int32) (x9_2 : Int32), ((60 : Int32).toInt - x9_2.toInt).toNat < n9 → ((0 : Int32) ≤ x9_2) → r_X6_read K = L_X6_read_9 K n9 x9_1 x9_2 → J l { frames := 1, cells := 0, slots := 0, locals := 24 } D 3 X 0 0 (txW ca g (up3 K 7 5 1 (0 : Int32))) [(0, .ref (g 3)), (1, .int x9_1), (2, .int x9_2)] [] 9 := by
    intro n9
    induction n9 with
    | zero =>
      intro x9_1 x9_2 hm9
      exact absurd hm9 (Nat.not_lt_zero _)
    | succ n9 ih9 =>
      intro x9_1 x9_2 hm9 hp9 hr9
      refine j_iload_n C dX6_read_9 rfl ?_
      refine j_aload_n C dX6_read_10 rfl ?_
      refine j_get C f_X6_22.F 0 dX6_read_11 txW_0 rfl ?_
      refine j_sti rd_47 ?_
      refine j_icmp_ge (tgt := 47) C dX6_read_14 (by decide) (fun (h14 : (K 7 5 0) ≤ x9_2) => ?_) (fun (h14 : ¬ ((K 7 5 0) ≤ x9_2)) => ?_)
      · refine j_iload_n C dX6_read_47 rfl ?_
        refine j_iconst C dX6_read_48 (3 : Int32) (by decide) ?_
        refine j_icmp_gt (tgt := 57) C dX6_read_49 (by decide) (fun (h49 : (3 : Int32) < x9_1) => ?_) (fun (h49 : ¬ ((3 : Int32) < x9_1)) => ?_)
        · refine j_aload_n C dX6_read_57 rfl ?_
          refine j_callVvW C g_X6_33 (c_X6_readNumbers l D ca g (up3 K 7 5 1 (0 : Int32))) 0 txW_0 hcl_X6 ⟨Nat.le_of_ble_eq_true rfl, Nat.le_of_ble_eq_true rfl⟩ ⟨Nat.le_of_ble_eq_true rfl, Nat.le_of_ble_eq_true rfl⟩ rfl rfl (Nat.le_of_ble_eq_true rfl) dX6_read_58 fst_tx ?_
          refine j_iconst C dX6_read_61 (-1 : Int32) (by decide) ?_
          have e9 : r_X6_read K = ((-1 : Int32), (r_X6_readNumbers (up3 K 7 5 1 (0 : Int32)))) := by rw [hr9, L_X6_read_9, if_pos h14, if_pos h49]
          exact j_iret E dX6_read_62 (jD_k e9 (txW ca g))
        · refine j_aload_n C dX6_read_52 rfl ?_
          refine j_get C f_X6_22.F 0 dX6_read_53 txW_0 rfl ?_
          refine j_sti rd_47 ?_
          have e9 : r_X6_read K = ((K 7 5 0), (up3 K 7 5 1 (0 : Int32))) := by rw [hr9, L_X6_read_9, if_pos h14, if_neg h49]
          exact j_iret E dX6_read_56 (jD_k e9 (txW ca g))
      · refine j_iload_n C dX6_read_17 rfl ?_
        refine j_bipush C dX6_read_18 (60 : Int32) (by decide) ?_
        refine j_icmp_ge (tgt := 47) C dX6_read_20 (by decide) (fun (h20 : (60 : Int32) ≤ x9_2) => ?_) (fun (h20 : ¬ ((60 : Int32) ≤ x9_2)) => ?_)
        · refine j_iload_n C dX6_read_47 rfl ?_
          refine j_iconst C dX6_read_48 (3 : Int32) (by decide) ?_
          refine j_icmp_gt (tgt := 57) C dX6_read_49 (by decide) (fun (h49 : (3 : Int32) < x9_1) => ?_) (fun (h49 : ¬ ((3 : Int32) < x9_1)) => ?_)
          · refine j_aload_n C dX6_read_57 rfl ?_
            refine j_callVvW C g_X6_33 (c_X6_readNumbers l D ca g (up3 K 7 5 1 (0 : Int32))) 0 txW_0 hcl_X6 ⟨Nat.le_of_ble_eq_true rfl, Nat.le_of_ble_eq_true rfl⟩ ⟨Nat.le_of_ble_eq_true rfl, Nat.le_of_ble_eq_true rfl⟩ rfl rfl (Nat.le_of_ble_eq_true rfl) dX6_read_58 fst_tx ?_
            refine j_iconst C dX6_read_61 (-1 : Int32) (by decide) ?_
            have e9 : r_X6_read K = ((-1 : Int32), (r_X6_readNumbers (up3 K 7 5 1 (0 : Int32)))) := by rw [hr9, L_X6_read_9, if_neg h14, if_pos h20, if_pos h49]
            exact j_iret E dX6_read_62 (jD_k e9 (txW ca g))
          · refine j_aload_n C dX6_read_52 rfl ?_
            refine j_get C f_X6_22.F 0 dX6_read_53 txW_0 rfl ?_
            refine j_sti rd_47 ?_
            have e9 : r_X6_read K = ((K 7 5 0), (up3 K 7 5 1 (0 : Int32))) := by rw [hr9, L_X6_read_9, if_neg h14, if_pos h20, if_neg h49]
            exact j_iret E dX6_read_56 (jD_k e9 (txW ca g))
        · refine j_iload_n C dX6_read_23 rfl ?_
          refine j_aload_n C dX6_read_24 rfl ?_
          refine j_get C f_X6_9.F 0 dX6_read_25 txW_0 rfl ?_
          refine j_iload_n C dX6_read_28 rfl ?_
          refine j_cald C 1 dX6_read_29 txW_1 (vin_b 60 rfl hp9 h20 (by decide)) ?_
          refine j_sti rd_48 ?_
          refine j_callSiR C g_X6_29 (c_X6_placeBehind l D ca x9_1 (K 7 0 x9_2.toNatClampNeg)) ⟨Nat.le_of_ble_eq_true rfl, Nat.le_of_ble_eq_true rfl⟩ ⟨Nat.le_of_ble_eq_true rfl, Nat.le_of_ble_eq_true rfl⟩ [] rfl rfl rfl rfl (Nat.le_of_ble_eq_true rfl) dX6_read_30 ?_
          refine j_istore_n C [(1, _), (0, _), (2, _)] dX6_read_33 (by decide) rfl ?_
          refine j_iload_n C dX6_read_34 rfl ?_
          refine j_iconst C dX6_read_35 (-1 : Int32) (by decide) ?_
          refine j_icmp_ne (tgt := 41) C dX6_read_36 (by decide) (fun (h36 : ¬ ((r_X6_placeBehind x9_1 (K 7 0 x9_2.toNatClampNeg)) = (-1 : Int32))) => ?_) (fun (h36 : (r_X6_placeBehind x9_1 (K 7 0 x9_2.toNatClampNeg)) = (-1 : Int32)) => ?_)
          · refine j_iinc C [(2, _), (1, _), (0, _)] (v := (x9_2 + (1 : Int32))) dX6_read_41 rfl (iinc_1 _) (by decide) rfl ?_
            refine j_goto (tgt := 9) C dX6_read_44 (by decide) ?_
            refine j_lv [(0, .ref (g 3)), (1, .int (r_X6_placeBehind x9_1 (K 7 0 x9_2.toNatClampNeg))), (2, .int (x9_2 + (1 : Int32)))] rfl ?_
            exact ih9 (r_X6_placeBehind x9_1 (K 7 0 x9_2.toNatClampNeg)) (x9_2 + (1 : Int32)) (jms h20 hm9) (i_pos' h20 hp9) (by rw [hr9, L_X6_read_9, if_neg h14, if_neg h20, if_neg h36])
          · refine j_iload_n C dX6_read_39 rfl ?_
            have e9 : r_X6_read K = (x9_2, (up3 K 7 5 1 (0 : Int32))) := by rw [hr9, L_X6_read_9, if_neg h14, if_neg h20, if_pos h36]
            exact j_iret E dX6_read_40 (jD_k e9 (txW ca g))
  refine j_lv [(0, .ref (g 3)), (1, .int (0 : Int32)), (2, .int (0 : Int32))] rfl ?_
  exact K9 61 (0 : Int32) (0 : Int32) (by decide) (by decide) (by rw [r_X6_read])
