theorem iinc_m1 (x : Int32) : x + Int32.ofInt (-1) = x + (-1 : Int32) := rfl
theorem vin_suc {q : Int32} {n : Nat} (N : Int32) (hN : N.toInt = n) (h : vp_in q n) (h1 : q + 1 < N) : vp_in (q + 1) n := by
  obtain ⟨a, b⟩ := vp_in_iff.mp h
  have h2 := Int32.lt_iff_toInt_lt.mp h1
  have h3 : N.toInt ≤ 2147483647 := Int32.toInt_le N
  have e5 : (q + 1).toInt = q.toInt + 1 := by
    rw [Int32.toInt_add, show (1 : Int32).toInt = 1 from rfl, Int.bmod_eq_of_le] <;> omega
  exact vp_in_iff.mpr ⟨by omega, by omega⟩
theorem vin_pred {q : Int32} {n : Nat} (h : vp_in q n) (h1 : ¬ q ≤ 0) : vp_in (q - 1) n ∧ (q - 1).toInt = q.toInt - 1 := by
  obtain ⟨a, b⟩ := vp_in_iff.mp h
  have h2 := Int32.lt_iff_toInt_lt.mp (Int32.not_le.mp h1)
  have e0 : (0 : Int32).toInt = 0 := rfl
  have h3 : q.toInt ≤ 2147483647 := Int32.toInt_le q
  have e5 : (q - 1).toInt = q.toInt - 1 := by
    rw [Int32.toInt_sub, show (1 : Int32).toInt = 1 from rfl, Int.bmod_eq_of_le] <;> omega
  exact ⟨vp_in_iff.mpr ⟨by omega, by omega⟩, e5⟩
theorem add_m1 (q : Int32) : q + (-1) = q - 1 := by rw [Int32.sub_eq_add_neg]
theorem nat_pred {q : Int32} {n m : Nat} (h : vp_in q n) (h1 : ¬ q ≤ 0) (hm : q.toInt.toNat < m + 1) : (q + (-1)).toInt.toNat < m := by
  rw [add_m1, (vin_pred h h1).2]
  have h2 := Int32.lt_iff_toInt_lt.mp (Int32.not_le.mp h1)
  have e0 : (0 : Int32).toInt = 0 := rfl
  omega
theorem vin_pred' {q : Int32} {n : Nat} (h : vp_in q n) (h1 : ¬ q ≤ 0) : vp_in (q + (-1)) n := by rw [add_m1]; exact (vin_pred h h1).1


def r_X5_invoiceAt (K : (Nat → jB)) (p : Int32) : Int32 := (if p < (0 : Int32) then (-5 : Int32) else (if p < (20 : Int32) then (K 7 3 p.toNatClampNeg) else (-5 : Int32)))
set_option maxRecDepth 100000 in
set_option maxHeartbeats 4000000 in
theorem c_X5_invoiceAt (l : Launch) (D : va_G) (ca : Nat → ClassId) (g : Nat → Nat) (K : (Nat → jB)) (p : Int32) : jM l D ca yX5_invoiceAt cX5_invoiceAt 2 (some .int) 0 0 0 0 [.ref (g 7), .int p] (rkW ca g K) (jD (some (.int (r_X5_invoiceAt K p))) (rkW ca g K)) := by
  refine jM_of [(0, .ref (g 7)), (1, .int p)] (by decide) (Nat.le_of_ble_eq_true rfl) rfl (fun X C E => ?_)
  refine j_iload_n C dX5_invoiceAt_0 rfl ?_
  refine j_if_lt (tgt := 10) C dX5_invoiceAt_1 (by decide) (fun (h1 : p < (0 : Int32)) => ?_) (fun (h1 : ¬ (p < (0 : Int32))) => ?_)
  · refine j_bipush C dX5_invoiceAt_10 (-5 : Int32) (by decide) ?_
    refine j_goto (tgt := 21) C dX5_invoiceAt_12 (by decide) ?_
    have e9 : r_X5_invoiceAt K p = (-5 : Int32) := by rw [r_X5_invoiceAt, if_pos h1]
    exact j_iret E dX5_invoiceAt_21 (by rw [e9]; exact ⟨rfl, rfl⟩)
  · refine j_iload_n C dX5_invoiceAt_4 rfl ?_
    refine j_bipush C dX5_invoiceAt_5 (20 : Int32) (by decide) ?_
    refine j_icmp_lt (tgt := 15) C dX5_invoiceAt_7 (by decide) (fun (h7 : p < (20 : Int32)) => ?_) (fun (h7 : ¬ (p < (20 : Int32))) => ?_)
    · refine j_aload_n C dX5_invoiceAt_15 rfl ?_
      refine j_get C f_X5_9.F 0 dX5_invoiceAt_16 rkW_0 rfl ?_
      refine j_iload_n C dX5_invoiceAt_19 rfl ?_
      refine j_iald C 1 dX5_invoiceAt_20 rkW_1 (vin_lt 20 rfl (Int32.not_lt.mp h1) h7) ?_
      have e9 : r_X5_invoiceAt K p = (K 7 3 p.toNatClampNeg) := by rw [r_X5_invoiceAt, if_neg h1, if_pos h7]
      exact j_iret E dX5_invoiceAt_21 (by rw [e9]; exact ⟨rfl, rfl⟩)
    · refine j_bipush C dX5_invoiceAt_10 (-5 : Int32) (by decide) ?_
      refine j_goto (tgt := 21) C dX5_invoiceAt_12 (by decide) ?_
      have e9 : r_X5_invoiceAt K p = (-5 : Int32) := by rw [r_X5_invoiceAt, if_neg h1, if_neg h7]
      exact j_iret E dX5_invoiceAt_21 (by rw [e9]; exact ⟨rfl, rfl⟩)
set_option maxRecDepth 100000 in
set_option maxHeartbeats 4000000 in
theorem fa_rk_1 {ca : Nat → ClassId} {g : Nat → Nat} {K : (Nat → jB)} {i : Nat} {v : Int32} : (rkW ca g K).set 1 (g 8, .inl (ca 0, 20, .inl (upd (K 7 3) i v))) = rkW ca g (up3 K 7 3 i v) := rfl
set_option maxRecDepth 100000 in
set_option maxHeartbeats 4000000 in
theorem ff_rk_2 {ca : Nat → ClassId} {g : Nat → Nat} {K : (Nat → jB)} {i : Nat} {v : UInt32} : ((rkW ca g K).set 2 (g 9, .inl (ca 1, 20, .inr (.inr (.inl (vf_upd (fun k => (K 7 4 k).toUInt32) i v)))))).set 2 (g 9, .inl (ca 1, 20, .inr (.inr (.inl (fun k => ((up3 K 7 4 i v.toInt32) 7 4 k).toUInt32))))) = rkW ca g (up3 K 7 4 i v.toInt32) := rfl
set_option maxRecDepth 100000 in
set_option maxHeartbeats 4000000 in
theorem rd_27 {S : (Nat → jB)} {k1 : Nat} {v1 : Int32} {k0 : Nat} {v0 : Int32} : (up3 (up3 S 7 3 k1 v1) 7 4 k0 v0) 7 5 4 = S 7 5 4 := rfl
set_option maxRecDepth 100000 in
set_option maxHeartbeats 4000000 in
theorem fo_rk_0_2 {ca : Nat → ClassId} {g : Nat → Nat} {K : (Nat → jB)} {v : Int32} : (rkW ca g K).set 0 (g 7, .inr (5, [.ref (g 8), .ref (g 9), .int (K 7 5 4)].set 2 (.int v))) = rkW ca g (up3 K 7 5 4 v) := rfl
set_option maxRecDepth 100000 in
set_option maxHeartbeats 4000000 in
theorem rd_28 {S : (Nat → jB)} {k0 : Nat} {v0 : Int32} {i : Nat} : (up3 S 7 3 k0 v0) 7 4 i = S 7 4 i := rfl

def z_X5_insert_0 (i : Int32) (w : UInt32) (x22_3 : Int32) (K22 : (Nat → jB)) : (Nat → jB) := (up3 (up3 K22 7 3 (x22_3).toNatClampNeg i) 7 4 (x22_3).toNatClampNeg ((w).toInt32))
def z_X5_insert_1 (x22_3 : Int32) (K22 : (Nat → jB)) : (Nat → jB) := (up3 K22 7 3 (x22_3).toNatClampNeg (K22 7 3 (x22_3 - (1 : Int32)).toNatClampNeg))
def z_X5_insert_2 (x22_3 : Int32) (K22 : (Nat → jB)) : (Nat → jB) := (up3 (z_X5_insert_1 x22_3 K22) 7 4 (x22_3).toNatClampNeg (((K22 7 4 (x22_3 - (1 : Int32)).toNatClampNeg).toUInt32).toInt32))
def L_X5_insert_22 (K : (Nat → jB)) (i : Int32) (w : UInt32) : Nat → Int32 → (Nat → jB) → (Nat → jB)
  | 0, _, _ => K
  | n22 + 1, x22_3, K22 => (if x22_3 ≤ (0 : Int32) then (up3 (z_X5_insert_0 i w x22_3 K22) 7 5 4 ((K22 7 5 4) + (1 : Int32))) else (if (0 : Int32) ≤ (Op.cmpValue (FP.fcmp ((K22 7 4 (x22_3 - (1 : Int32)).toNatClampNeg).toUInt32) w) CmpOp.g) then (up3 (z_X5_insert_0 i w x22_3 K22) 7 5 4 ((K22 7 5 4) + (1 : Int32))) else L_X5_insert_22 K i w n22 (x22_3 + (-1 : Int32)) (z_X5_insert_2 x22_3 K22)))
def r_X5_insert (K : (Nat → jB)) (i : Int32) (w : UInt32) : (Nat → jB) := (if (K 7 5 4) < (0 : Int32) then K else (if (K 7 5 4) < (20 : Int32) then L_X5_insert_22 K i w ((K 7 5 4).toInt.toNat + 1) (K 7 5 4) K else K))
set_option maxRecDepth 100000 in
set_option maxHeartbeats 4000000 in
theorem c_X5_insert (l : Launch) (D : va_G) (ca : Nat → ClassId) (g : Nat → Nat) (K : (Nat → jB)) (i : Int32) (w : UInt32) : jM l D ca yX5_insert cX5_insert 4 (none : Option FieldType) 0 0 0 0 [.ref (g 7), .int i, .float w] (rkW ca g K) (jD none (rkW ca g (r_X5_insert K i w))) := by
  refine jM_of [(0, .ref (g 7)), (1, .int i), (2, .float w)] (by decide) (Nat.le_of_ble_eq_true rfl) rfl (fun X C E => ?_)
  refine j_aload_n C dX5_insert_0 rfl ?_
  refine j_get C f_X5_19.F 0 dX5_insert_1 rkW_0 rfl ?_
  refine j_if_lt (tgt := 16) C dX5_insert_4 (by decide) (fun (h4 : (K 7 5 4) < (0 : Int32)) => ?_) (fun (h4 : ¬ ((K 7 5 4) < (0 : Int32))) => ?_)
  · have e9 : r_X5_insert K i w = K := by rw [r_X5_insert, if_pos h4]
    exact j_vret E dX5_insert_16 (by rw [e9]; exact ⟨rfl, rfl⟩)
  · refine j_aload_n C dX5_insert_7 rfl ?_
    refine j_get C f_X5_19.F 0 dX5_insert_8 rkW_0 rfl ?_
    refine j_bipush C dX5_insert_11 (20 : Int32) (by decide) ?_
    refine j_icmp_lt (tgt := 17) C dX5_insert_13 (by decide) (fun (h13 : (K 7 5 4) < (20 : Int32)) => ?_) (fun (h13 : ¬ ((K 7 5 4) < (20 : Int32))) => ?_)
    · refine j_aload_n C dX5_insert_17 rfl ?_
      refine j_get C f_X5_19.F 0 dX5_insert_18 rkW_0 rfl ?_
      refine j_istore_n C [(3, _), (0, _), (1, _), (2, _)] dX5_insert_21 (by decide) rfl ?_
      have K22 : ∀ (n22 : Nat) (x22_3 : Int32) (K22 : (Nat → jB)), x22_3.toInt.toNat < n22 → (vp_in x22_3 20) → r_X5_insert K i w = L_X5_insert_22 K i w n22 x22_3 K22 → J l { frames := 0, cells := 0, slots := 0, locals := 0 } D 4 X 0 0 (rkW ca g K22) [(0, .ref (g 7)), (1, .int i), (2, .float w), (3, .int x22_3)] [] 22 := by
        intro n22
        induction n22 with
        | zero =>
          intro x22_3 K22 hm22
          exact absurd hm22 (Nat.not_lt_zero _)
        | succ n22 ih22 =>
          intro x22_3 K22 hm22 hv22 hr22
          refine j_iload_n C dX5_insert_22 rfl ?_
          refine j_if_le (tgt := 73) C dX5_insert_23 (by decide) (fun (h23 : x22_3 ≤ (0 : Int32)) => ?_) (fun (h23 : ¬ (x22_3 ≤ (0 : Int32))) => ?_)
          · refine j_aload_n C dX5_insert_73 rfl ?_
            refine j_get C f_X5_9.F 0 dX5_insert_74 rkW_0 rfl ?_
            refine j_iload_n C dX5_insert_77 rfl ?_
            refine j_iload_n C dX5_insert_78 rfl ?_
            refine j_iast C 1 dX5_insert_79 rkW_1 hv22 ?_
            refine j_ws (ws' := (rkW ca g (up3 K22 7 3 (x22_3).toNatClampNeg i))) fa_rk_1 ?_
            refine j_aload_n C dX5_insert_80 rfl ?_
            refine j_get C f_X5_15.F 0 dX5_insert_81 rkW_0 rfl ?_
            refine j_iload_n C dX5_insert_84 rfl ?_
            refine j_fload_n C dX5_insert_85 rfl ?_
            refine j_fast C 2 dX5_insert_86 rkW_2 hv22 ?_
            refine j_extF 2 (fun k => ((up3 (up3 K22 7 3 (x22_3).toNatClampNeg i) 7 4 (x22_3).toNatClampNeg ((w).toInt32)) 7 4 k).toUInt32) rfl (fun _ _ => vf_row3 _ _ _ _ _ _) ?_
            refine j_ws (ws' := (rkW ca g (z_X5_insert_0 i w x22_3 K22))) ff_rk_2 ?_
            refine j_aload_n C dX5_insert_87 rfl ?_
            refine j_dup C dX5_insert_88 rfl ?_
            refine j_get C f_X5_19.F 0 dX5_insert_89 rkW_0 rfl ?_
            refine j_sti rd_27 ?_
            refine j_iconst C dX5_insert_92 (1 : Int32) (by decide) ?_
            refine j_iadd C dX5_insert_93 ?_
            refine j_put C f_X5_19 0 dX5_insert_94 rkW_0 (Nat.le_of_ble_eq_true rfl) rfl rfl ?_
            refine j_ws (ws' := (rkW ca g (up3 (z_X5_insert_0 i w x22_3 K22) 7 5 4 ((K22 7 5 4) + (1 : Int32))))) fo_rk_0_2 ?_
            have e9 : r_X5_insert K i w = (up3 (z_X5_insert_0 i w x22_3 K22) 7 5 4 ((K22 7 5 4) + (1 : Int32))) := by rw [hr22, L_X5_insert_22, if_pos h23]
            exact j_vret E dX5_insert_97 (by rw [e9]; exact ⟨rfl, rfl⟩)
          · refine j_aload_n C dX5_insert_26 rfl ?_
            refine j_get C f_X5_15.F 0 dX5_insert_27 rkW_0 rfl ?_
            refine j_iload_n C dX5_insert_30 rfl ?_
            refine j_iconst C dX5_insert_31 (1 : Int32) (by decide) ?_
            refine j_isub C dX5_insert_32 ?_
            refine j_fald C 2 dX5_insert_33 rkW_2 (vin_pred hv22 h23).1 ?_
            refine j_fload_n C dX5_insert_34 rfl ?_
            refine j_fcmp C dX5_insert_35 ?_
            refine j_if_ge (tgt := 73) C dX5_insert_36 (by decide) (fun (h36 : (0 : Int32) ≤ (Op.cmpValue (FP.fcmp ((K22 7 4 (x22_3 - (1 : Int32)).toNatClampNeg).toUInt32) w) CmpOp.g)) => ?_) (fun (h36 : ¬ ((0 : Int32) ≤ (Op.cmpValue (FP.fcmp ((K22 7 4 (x22_3 - (1 : Int32)).toNatClampNeg).toUInt32) w) CmpOp.g))) => ?_)
            · refine j_aload_n C dX5_insert_73 rfl ?_
              refine j_get C f_X5_9.F 0 dX5_insert_74 rkW_0 rfl ?_
              refine j_iload_n C dX5_insert_77 rfl ?_
              refine j_iload_n C dX5_insert_78 rfl ?_
              refine j_iast C 1 dX5_insert_79 rkW_1 hv22 ?_
              refine j_ws (ws' := (rkW ca g (up3 K22 7 3 (x22_3).toNatClampNeg i))) fa_rk_1 ?_
              refine j_aload_n C dX5_insert_80 rfl ?_
              refine j_get C f_X5_15.F 0 dX5_insert_81 rkW_0 rfl ?_
              refine j_iload_n C dX5_insert_84 rfl ?_
              refine j_fload_n C dX5_insert_85 rfl ?_
              refine j_fast C 2 dX5_insert_86 rkW_2 hv22 ?_
              refine j_extF 2 (fun k => ((up3 (up3 K22 7 3 (x22_3).toNatClampNeg i) 7 4 (x22_3).toNatClampNeg ((w).toInt32)) 7 4 k).toUInt32) rfl (fun _ _ => vf_row3 _ _ _ _ _ _) ?_
              refine j_ws (ws' := (rkW ca g (z_X5_insert_0 i w x22_3 K22))) ff_rk_2 ?_
              refine j_aload_n C dX5_insert_87 rfl ?_
              refine j_dup C dX5_insert_88 rfl ?_
              refine j_get C f_X5_19.F 0 dX5_insert_89 rkW_0 rfl ?_
              refine j_sti rd_27 ?_
              refine j_iconst C dX5_insert_92 (1 : Int32) (by decide) ?_
              refine j_iadd C dX5_insert_93 ?_
              refine j_put C f_X5_19 0 dX5_insert_94 rkW_0 (Nat.le_of_ble_eq_true rfl) rfl rfl ?_
              refine j_ws (ws' := (rkW ca g (up3 (z_X5_insert_0 i w x22_3 K22) 7 5 4 ((K22 7 5 4) + (1 : Int32))))) fo_rk_0_2 ?_
              have e9 : r_X5_insert K i w = (up3 (z_X5_insert_0 i w x22_3 K22) 7 5 4 ((K22 7 5 4) + (1 : Int32))) := by rw [hr22, L_X5_insert_22, if_neg h23, if_pos h36]
              exact j_vret E dX5_insert_97 (by rw [e9]; exact ⟨rfl, rfl⟩)
            · refine j_aload_n C dX5_insert_39 rfl ?_
              refine j_get C f_X5_9.F 0 dX5_insert_40 rkW_0 rfl ?_
              refine j_iload_n C dX5_insert_43 rfl ?_
              refine j_aload_n C dX5_insert_44 rfl ?_
              refine j_get C f_X5_9.F 0 dX5_insert_45 rkW_0 rfl ?_
              refine j_iload_n C dX5_insert_48 rfl ?_
              refine j_iconst C dX5_insert_49 (1 : Int32) (by decide) ?_
              refine j_isub C dX5_insert_50 ?_
              refine j_iald C 1 dX5_insert_51 rkW_1 (vin_pred hv22 h23).1 ?_
              refine j_iast C 1 dX5_insert_52 rkW_1 hv22 ?_
              refine j_ws (ws' := (rkW ca g (z_X5_insert_1 x22_3 K22))) fa_rk_1 ?_
              refine j_aload_n C dX5_insert_53 rfl ?_
              refine j_get C f_X5_15.F 0 dX5_insert_54 rkW_0 rfl ?_
              refine j_iload_n C dX5_insert_57 rfl ?_
              refine j_aload_n C dX5_insert_58 rfl ?_
              refine j_get C f_X5_15.F 0 dX5_insert_59 rkW_0 rfl ?_
              refine j_iload_n C dX5_insert_62 rfl ?_
              refine j_iconst C dX5_insert_63 (1 : Int32) (by decide) ?_
              refine j_isub C dX5_insert_64 ?_
              refine j_fald C 2 dX5_insert_65 rkW_2 (vin_pred hv22 h23).1 ?_
              refine j_stf rd_28 ?_
              refine j_fast C 2 dX5_insert_66 rkW_2 hv22 ?_
              refine j_extF 2 (fun k => ((up3 (z_X5_insert_1 x22_3 K22) 7 4 (x22_3).toNatClampNeg (((K22 7 4 (x22_3 - (1 : Int32)).toNatClampNeg).toUInt32).toInt32)) 7 4 k).toUInt32) rfl (fun _ _ => vf_row3 _ _ _ _ _ _) ?_
              refine j_ws (ws' := (rkW ca g (z_X5_insert_2 x22_3 K22))) ff_rk_2 ?_
              refine j_iinc C [(3, _), (0, _), (1, _), (2, _)] (v := (x22_3 + (-1 : Int32))) dX5_insert_67 rfl (iinc_m1 _) (by decide) rfl ?_
              refine j_goto (tgt := 22) C dX5_insert_70 (by decide) ?_
              refine j_lv [(0, .ref (g 7)), (1, .int i), (2, .float w), (3, .int (x22_3 + (-1 : Int32)))] rfl ?_
              exact ih22 (x22_3 + (-1 : Int32)) (z_X5_insert_2 x22_3 K22) (nat_pred hv22 h23 hm22) (vin_pred' hv22 h23) (by rw [hr22, L_X5_insert_22, if_neg h23, if_neg h36])
      refine j_lv [(0, .ref (g 7)), (1, .int i), (2, .float w), (3, .int (K 7 5 4))] rfl ?_
      exact K22 ((K 7 5 4).toInt.toNat + 1) (K 7 5 4) K (Nat.lt_succ_self _) (vin_lt 20 rfl (Int32.not_lt.mp h4) h13) (by rw [r_X5_insert, if_neg h4, if_pos h13])
    · have e9 : r_X5_insert K i w = K := by rw [r_X5_insert, if_neg h4, if_neg h13]
      exact j_vret E dX5_insert_16 (by rw [e9]; exact ⟨rfl, rfl⟩)
