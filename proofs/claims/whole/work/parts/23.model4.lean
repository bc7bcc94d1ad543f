set_option maxRecDepth 100000 in
set_option maxHeartbeats 4000000 in
theorem fo_m_0_12 {ca : Nat → ClassId} {g : Nat → Nat} {M : jB} {v : Int32} : (mW ca g M).set 0 (g 0, .inr (8, [.ref (g 1), .ref (g 2), .ref (g 3), .int (M 6 0), .ref (g 4), .int (M 6 1), .ref (g 5), .int (M 6 2), .int (M 6 3), .int (M 6 4), .ref (g 6), .int (M 6 5), .int (M 6 6), .int (M 6 7), .int (M 6 8)].set 12 (.int v))) = mW ca g (up2 M 6 6 v) := rfl
set_option maxRecDepth 100000 in
set_option maxHeartbeats 4000000 in
theorem rd_30 {S : jB} {v0 : Int32} : (up2 S 6 6 v0) 6 5 = S 6 5 := rfl
set_option maxRecDepth 100000 in
set_option maxHeartbeats 4000000 in
theorem rd_31 {S : jB} {v0 : Int32} : (up2 S 6 6 v0) 6 6 = v0 := rfl
set_option maxRecDepth 100000 in
set_option maxHeartbeats 4000000 in
theorem fo_m_0_11 {ca : Nat → ClassId} {g : Nat → Nat} {M : jB} {v : Int32} : (mW ca g M).set 0 (g 0, .inr (8, [.ref (g 1), .ref (g 2), .ref (g 3), .int (M 6 0), .ref (g 4), .int (M 6 1), .ref (g 5), .int (M 6 2), .int (M 6 3), .int (M 6 4), .ref (g 6), .int (M 6 5), .int (M 6 6), .int (M 6 7), .int (M 6 8)].set 11 (.int v))) = mW ca g (up2 M 6 5 v) := rfl

def r_X8_sign (M : jB) (lo : Int32) (hi : Int32) : Int32 × jB := (if (M 6 2) ≤ (M 6 5) then (if (M 6 6) = (0 : Int32) then (if (r_X8_in (0 : Int32) lo hi) = (0 : Int32) then ((0 : Int32), (up2 (up2 M 6 6 (1 : Int32)) 6 5 ((M 6 5) + (0 : Int32)))) else ((0 : Int32), (up2 (up2 M 6 6 (0 : Int32)) 6 5 ((M 6 5) + (1 : Int32))))) else ((0 : Int32), (up2 (up2 M 6 6 (1 : Int32)) 6 5 ((M 6 5) + (0 : Int32))))) else (if (M 6 6) = (0 : Int32) then (if (r_X8_in (M 4 (M 6 5).toNatClampNeg) lo hi) = (0 : Int32) then ((M 4 (M 6 5).toNatClampNeg), (up2 (up2 M 6 6 (1 : Int32)) 6 5 ((M 6 5) + (0 : Int32)))) else ((M 4 (M 6 5).toNatClampNeg), (up2 (up2 M 6 6 (0 : Int32)) 6 5 ((M 6 5) + (1 : Int32))))) else ((M 4 (M 6 5).toNatClampNeg), (up2 (up2 M 6 6 (1 : Int32)) 6 5 ((M 6 5) + (0 : Int32))))))
def n_X8_sign (M : jB) (lo : Int32) (hi : Int32) : Prop := (((0 : Int32) ≤ M 6 5) ∧ ((M 6 2 ≤ 60) ∧ True))
set_option maxRecDepth 100000 in
set_option maxHeartbeats 4000000 in
theorem c_X8_sign (l : Launch) (D : va_G) (ca : Nat → ClassId) (g : Nat → Nat) (M : jB) (lo : Int32) (hi : Int32) (hq : n_X8_sign M lo hi) : jM l D ca yX8_sign cX8_sign 4 (some .int) 1 22 0 0 [.ref (g 0), .int lo, .int hi] (mW ca g M) (jD (some (.int (r_X8_sign M lo hi).1)) (mW ca g ((r_X8_sign M lo hi).2))) := by
  refine jM_of [(0, .ref (g 0)), (1, .int lo), (2, .int hi)] (by decide) (Nat.le_of_ble_eq_true rfl) rfl (fun X C E => ?_)
  rw [n_X8_sign] at hq
  obtain ⟨hA, hq⟩ := hq
  obtain ⟨hT, hq⟩ := hq
  refine j_aload_n C dX8_sign_0 rfl ?_
  refine j_get C f_X8_124.F 0 dX8_sign_1 mW_0 rfl ?_
  refine j_aload_n C dX8_sign_4 rfl ?_
  refine j_get C f_X8_127.F 0 dX8_sign_5 mW_0 rfl ?_
  refine j_icmp_ge (tgt := 23) C dX8_sign_8 (by decide) (fun (h8 : (M 6 2) ≤ (M 6 5)) => ?_) (fun (h8 : ¬ ((M 6 2) ≤ (M 6 5))) => ?_)
  · refine j_iconst C dX8_sign_23 (0 : Int32) (by decide) ?_
    refine j_istore_n C [(3, _), (0, _), (1, _), (2, _)] dX8_sign_24 (by decide) rfl ?_
    refine j_aload_n C dX8_sign_25 rfl ?_
    refine j_aload_n C dX8_sign_26 rfl ?_
    refine j_get C f_X8_130.F 0 dX8_sign_27 mW_0 rfl ?_
    refine j_if_ne (tgt := 42) C dX8_sign_30 (by decide) (fun (h30 : ¬ ((M 6 6) = (0 : Int32))) => ?_) (fun (h30 : (M 6 6) = (0 : Int32)) => ?_)
    · refine j_iconst C dX8_sign_42 (1 : Int32) (by decide) ?_
      refine j_goto (tgt := 47) C dX8_sign_43 (by decide) ?_
      refine j_put C f_X8_130 0 dX8_sign_47 mW_0 (Nat.le_of_ble_eq_true rfl) rfl rfl ?_
      refine j_ws (ws' := (mW ca g (up2 M 6 6 (1 : Int32)))) fo_m_0_12 ?_
      refine j_aload_n C dX8_sign_50 rfl ?_
      refine j_dup C dX8_sign_51 rfl ?_
      refine j_get C f_X8_124.F 0 dX8_sign_52 mW_0 rfl ?_
      refine j_sti rd_30 ?_
      refine j_aload_n C dX8_sign_55 rfl ?_
      refine j_get C f_X8_130.F 0 dX8_sign_56 mW_0 rfl ?_
      refine j_sti rd_31 ?_
      refine j_if_eq (tgt := 66) C dX8_sign_59 (by decide) (fun h => absurd h (by decide)) (fun _ => ?_)
      refine j_iconst C dX8_sign_62 (0 : Int32) (by decide) ?_
      refine j_goto (tgt := 67) C dX8_sign_63 (by decide) ?_
      refine j_iadd C dX8_sign_67 ?_
      refine j_put C f_X8_124 0 dX8_sign_68 mW_0 (Nat.le_of_ble_eq_true rfl) rfl rfl ?_
      refine j_ws (ws' := (mW ca g (up2 (up2 M 6 6 (1 : Int32)) 6 5 ((M 6 5) + (0 : Int32))))) fo_m_0_11 ?_
      refine j_iload_n C dX8_sign_71 rfl ?_
      have e9 : r_X8_sign M lo hi = ((0 : Int32), (up2 (up2 M 6 6 (1 : Int32)) 6 5 ((M 6 5) + (0 : Int32)))) := by rw [r_X8_sign, if_pos h8, if_neg h30]
      exact j_iret E dX8_sign_72 (jD_i e9 (mW ca g))
    · refine j_iload_n C dX8_sign_33 rfl ?_
      refine j_iload_n C dX8_sign_34 rfl ?_
      refine j_iload_n C dX8_sign_35 rfl ?_
      refine j_callSiR C g_X8_38 (c_X8_in l D ca (0 : Int32) lo hi) ⟨Nat.le_of_ble_eq_true rfl, Nat.le_of_ble_eq_true rfl⟩ ⟨Nat.le_of_ble_eq_true rfl, Nat.le_of_ble_eq_true rfl⟩ [] rfl rfl rfl rfl (Nat.le_of_ble_eq_true rfl) dX8_sign_36 ?_
      refine j_if_ne (tgt := 46) C dX8_sign_39 (by decide) (fun (h39 : ¬ ((r_X8_in (0 : Int32) lo hi) = (0 : Int32))) => ?_) (fun (h39 : (r_X8_in (0 : Int32) lo hi) = (0 : Int32)) => ?_)
      · refine j_iconst C dX8_sign_46 (0 : Int32) (by decide) ?_
        refine j_put C f_X8_130 0 dX8_sign_47 mW_0 (Nat.le_of_ble_eq_true rfl) rfl rfl ?_
        refine j_ws (ws' := (mW ca g (up2 M 6 6 (0 : Int32)))) fo_m_0_12 ?_
        refine j_aload_n C dX8_sign_50 rfl ?_
        refine j_dup C dX8_sign_51 rfl ?_
        refine j_get C f_X8_124.F 0 dX8_sign_52 mW_0 rfl ?_
        refine j_sti rd_30 ?_
        refine j_aload_n C dX8_sign_55 rfl ?_
        refine j_get C f_X8_130.F 0 dX8_sign_56 mW_0 rfl ?_
        refine j_sti rd_31 ?_
        refine j_if_eq (tgt := 66) C dX8_sign_59 (by decide) (fun _ => ?_) (fun h => absurd (by decide) h)
        refine j_iconst C dX8_sign_66 (1 : Int32) (by decide) ?_
        refine j_iadd C dX8_sign_67 ?_
        refine j_put C f_X8_124 0 dX8_sign_68 mW_0 (Nat.le_of_ble_eq_true rfl) rfl rfl ?_
        refine j_ws (ws' := (mW ca g (up2 (up2 M 6 6 (0 : Int32)) 6 5 ((M 6 5) + (1 : Int32))))) fo_m_0_11 ?_
        refine j_iload_n C dX8_sign_71 rfl ?_
        have e9 : r_X8_sign M lo hi = ((0 : Int32), (up2 (up2 M 6 6 (0 : Int32)) 6 5 ((M 6 5) + (1 : Int32)))) := by rw [r_X8_sign, if_pos h8, if_pos h30, if_neg h39]
        exact j_iret E dX8_sign_72 (jD_i e9 (mW ca g))
      · refine j_iconst C dX8_sign_42 (1 : Int32) (by decide) ?_
        refine j_goto (tgt := 47) C dX8_sign_43 (by decide) ?_
        refine j_put C f_X8_130 0 dX8_sign_47 mW_0 (Nat.le_of_ble_eq_true rfl) rfl rfl ?_
        refine j_ws (ws' := (mW ca g (up2 M 6 6 (1 : Int32)))) fo_m_0_12 ?_
        refine j_aload_n C dX8_sign_50 rfl ?_
        refine j_dup C dX8_sign_51 rfl ?_
        refine j_get C f_X8_124.F 0 dX8_sign_52 mW_0 rfl ?_
        refine j_sti rd_30 ?_
        refine j_aload_n C dX8_sign_55 rfl ?_
        refine j_get C f_X8_130.F 0 dX8_sign_56 mW_0 rfl ?_
        refine j_sti rd_31 ?_
        refine j_if_eq (tgt := 66) C dX8_sign_59 (by decide) (fun h => absurd h (by decide)) (fun _ => ?_)
        refine j_iconst C dX8_sign_62 (0 : Int32) (by decide) ?_
        refine j_goto (tgt := 67) C dX8_sign_63 (by decide) ?_
        refine j_iadd C dX8_sign_67 ?_
        refine j_put C f_X8_124 0 dX8_sign_68 mW_0 (Nat.le_of_ble_eq_true rfl) rfl rfl ?_
        refine j_ws (ws' := (mW ca g (up2 (up2 M 6 6 (1 : Int32)) 6 5 ((M 6 5) + (0 : Int32))))) fo_m_0_11 ?_
        refine j_iload_n C dX8_sign_71 rfl ?_
        have e9 : r_X8_sign M lo hi = ((0 : Int32), (up2 (up2 M 6 6 (1 : Int32)) 6 5 ((M 6 5) + (0 : Int32)))) := by rw [r_X8_sign, if_pos h8, if_pos h30, if_pos h39]
        exact j_iret E dX8_sign_72 (jD_i e9 (mW ca g))
  · refine j_aload_n C dX8_sign_11 rfl ?_
    refine j_get C f_X8_22.F 0 dX8_sign_12 mW_0 rfl ?_
    refine j_aload_n C dX8_sign_15 rfl ?_
    refine j_get C f_X8_124.F 0 dX8_sign_16 mW_0 rfl ?_
    refine j_iald C 5 dX8_sign_19 mW_5 (vin_b 60 rfl hA h8 hT) ?_
    refine j_goto (tgt := 24) C dX8_sign_20 (by decide) ?_
    refine j_istore_n C [(3, _), (0, _), (1, _), (2, _)] dX8_sign_24 (by decide) rfl ?_
    refine j_aload_n C dX8_sign_25 rfl ?_
    refine j_aload_n C dX8_sign_26 rfl ?_
    refine j_get C f_X8_130.F 0 dX8_sign_27 mW_0 rfl ?_
    refine j_if_ne (tgt := 42) C dX8_sign_30 (by decide) (fun (h30 : ¬ ((M 6 6) = (0 : Int32))) => ?_) (fun (h30 : (M 6 6) = (0 : Int32)) => ?_)
    · refine j_iconst C dX8_sign_42 (1 : Int32) (by decide) ?_
      refine j_goto (tgt := 47) C dX8_sign_43 (by decide) ?_
      refine j_put C f_X8_130 0 dX8_sign_47 mW_0 (Nat.le_of_ble_eq_true rfl) rfl rfl ?_
      refine j_ws (ws' := (mW ca g (up2 M 6 6 (1 : Int32)))) fo_m_0_12 ?_
      refine j_aload_n C dX8_sign_50 rfl ?_
      refine j_dup C dX8_sign_51 rfl ?_
      refine j_get C f_X8_124.F 0 dX8_sign_52 mW_0 rfl ?_
      refine j_sti rd_30 ?_
      refine j_aload_n C dX8_sign_55 rfl ?_
      refine j_get C f_X8_130.F 0 dX8_sign_56 mW_0 rfl ?_
      refine j_sti rd_31 ?_
      refine j_if_eq (tgt := 66) C dX8_sign_59 (by decide) (fun h => absurd h (by decide)) (fun _ => ?_)
      refine j_iconst C dX8_sign_62 (0 : Int32) (by decide) ?_
      refine j_goto (tgt := 67) C dX8_sign_63 (by decide) ?_
      refine j_iadd C dX8_sign_67 ?_
      refine j_put C f_X8_124 0 dX8_sign_68 mW_0 (Nat.le_of_ble_eq_true rfl) rfl rfl ?_
      refine j_ws (ws' := (mW ca g (up2 (up2 M 6 6 (1 : Int32)) 6 5 ((M 6 5) + (0 : Int32))))) fo_m_0_11 ?_
      refine j_iload_n C dX8_sign_71 rfl ?_
      have e9 : r_X8_sign M lo hi = ((M 4 (M 6 5).toNatClampNeg), (up2 (up2 M 6 6 (1 : Int32)) 6 5 ((M 6 5) + (0 : Int32)))) := by rw [r_X8_sign, if_neg h8, if_neg h30]
      exact j_iret E dX8_sign_72 (jD_i e9 (mW ca g))
    · refine j_iload_n C dX8_sign_33 rfl ?_
      refine j_iload_n C dX8_sign_34 rfl ?_
      refine j_iload_n C dX8_sign_35 rfl ?_
      refine j_callSiR C g_X8_38 (c_X8_in l D ca (M 4 (M 6 5).toNatClampNeg) lo hi) ⟨Nat.le_of_ble_eq_true rfl, Nat.le_of_ble_eq_true rfl⟩ ⟨Nat.le_of_ble_eq_true rfl, Nat.le_of_ble_eq_true rfl⟩ [] rfl rfl rfl rfl (Nat.le_of_ble_eq_true rfl) dX8_sign_36 ?_
      refine j_if_ne (tgt := 46) C dX8_sign_39 (by decide) (fun (h39 : ¬ ((r_X8_in (M 4 (M 6 5).toNatClampNeg) lo hi) = (0 : Int32))) => ?_) (fun (h39 : (r_X8_in (M 4 (M 6 5).toNatClampNeg) lo hi) = (0 : Int32)) => ?_)
      · refine j_iconst C dX8_sign_46 (0 : Int32) (by decide) ?_
        refine j_put C f_X8_130 0 dX8_sign_47 mW_0 (Nat.le_of_ble_eq_true rfl) rfl rfl ?_
        refine j_ws (ws' := (mW ca g (up2 M 6 6 (0 : Int32)))) fo_m_0_12 ?_
        refine j_aload_n C dX8_sign_50 rfl ?_
        refine j_dup C dX8_sign_51 rfl ?_
        refine j_get C f_X8_124.F 0 dX8_sign_52 mW_0 rfl ?_
        refine j_sti rd_30 ?_
        refine j_aload_n C dX8_sign_55 rfl ?_
        refine j_get C f_X8_130.F 0 dX8_sign_56 mW_0 rfl ?_
        refine j_sti rd_31 ?_
        refine j_if_eq (tgt := 66) C dX8_sign_59 (by decide) (fun _ => ?_) (fun h => absurd (by decide) h)
        refine j_iconst C dX8_sign_66 (1 : Int32) (by decide) ?_
        refine j_iadd C dX8_sign_67 ?_
        refine j_put C f_X8_124 0 dX8_sign_68 mW_0 (Nat.le_of_ble_eq_true rfl) rfl rfl ?_
        refine j_ws (ws' := (mW ca g (up2 (up2 M 6 6 (0 : Int32)) 6 5 ((M 6 5) + (1 : Int32))))) fo_m_0_11 ?_
        refine j_iload_n C dX8_sign_71 rfl ?_
        have e9 : r_X8_sign M lo hi = ((M 4 (M 6 5).toNatClampNeg), (up2 (up2 M 6 6 (0 : Int32)) 6 5 ((M 6 5) + (1 : Int32)))) := by rw [r_X8_sign, if_neg h8, if_pos h30, if_neg h39]
        exact j_iret E dX8_sign_72 (jD_i e9 (mW ca g))
      · refine j_iconst C dX8_sign_42 (1 : Int32) (by decide) ?_
        refine j_goto (tgt := 47) C dX8_sign_43 (by decide) ?_
        refine j_put C f_X8_130 0 dX8_sign_47 mW_0 (Nat.le_of_ble_eq_true rfl) rfl rfl ?_
        refine j_ws (ws' := (mW ca g (up2 M 6 6 (1 : Int32)))) fo_m_0_12 ?_
        refine j_aload_n C dX8_sign_50 rfl ?_
        refine j_dup C dX8_sign_51 rfl ?_
        refine j_get C f_X8_124.F 0 dX8_sign_52 mW_0 rfl ?_
        refine j_sti rd_30 ?_
        refine j_aload_n C dX8_sign_55 rfl ?_
        refine j_get C f_X8_130.F 0 dX8_sign_56 mW_0 rfl ?_
        refine j_sti rd_31 ?_
        refine j_if_eq (tgt := 66) C dX8_sign_59 (by decide) (fun h => absurd h (by decide)) (fun _ => ?_)
        refine j_iconst C dX8_sign_62 (0 : Int32) (by decide) ?_
        refine j_goto (tgt := 67) C dX8_sign_63 (by decide) ?_
        refine j_iadd C dX8_sign_67 ?_
        refine j_put C f_X8_124 0 dX8_sign_68 mW_0 (Nat.le_of_ble_eq_true rfl) rfl rfl ?_
        refine j_ws (ws' := (mW ca g (up2 (up2 M 6 6 (1 : Int32)) 6 5 ((M 6 5) + (0 : Int32))))) fo_m_0_11 ?_
        refine j_iload_n C dX8_sign_71 rfl ?_
        have e9 : r_X8_sign M lo hi = ((M 4 (M 6 5).toNatClampNeg), (up2 (up2 M 6 6 (1 : Int32)) 6 5 ((M 6 5) + (0 : Int32)))) := by rw [r_X8_sign, if_neg h8, if_pos h30, if_pos h39]
        exact j_iret E dX8_sign_72 (jD_i e9 (mW ca g))
theorem sgn {M : jB} {lo hi : Int32} (h1 : (0 : Int32) ≤ M 6 5) (h2 : M 6 2 ≤ 60) : n_X8_sign M lo hi := by rw [n_X8_sign]; exact ⟨h1, h2, trivial⟩
set_option maxRecDepth 100000 in
set_option maxHeartbeats 4000000 in
theorem fa_m_2 {ca : Nat → ClassId} {g : Nat → Nat} {M : jB} {i : Nat} {v : Int32} : (mW ca g M).set 2 (g 2, .inl (ca 0, 204, .inl (upd (M 1) i v))) = mW ca g (up2 M 1 i v) := rfl

def z_X8_swap_0 (x2_1 : Int32) (M2 : jB) : jB := (up2 (up2 M2 0 (x2_1).toNatClampNeg (M2 1 x2_1.toNatClampNeg)) 1 (x2_1).toNatClampNeg (M2 0 x2_1.toNatClampNeg))
def L_X8_swap_2 (M : jB) : Nat → Int32 → jB → jB
  | 0, _, _ => M
  | n2 + 1, x2_1, M2 => (if (204 : Int32) ≤ x2_1 then M2 else L_X8_swap_2 M n2 (x2_1 + (1 : Int32)) (z_X8_swap_0 x2_1 M2))
def r_X8_swap (M : jB) : jB := L_X8_swap_2 M 205 (0 : Int32) M
set_option maxRecDepth 100000 in
set_option maxHeartbeats 4000000 in
theorem c_X8_swap (l : Launch) (D : va_G) (ca : Nat → ClassId) (g : Nat → Nat) (M : jB) : jM l D ca yX8_swap cX8_swap 3 (none : Option FieldType) 0 0 0 0 [.ref (g 0)] (mW ca g M) (jD none (mW ca g (r_X8_swap M))) := by
  refine jM_of [(0, .ref (g 0))] (by decide) (Nat.le_of_ble_eq_true rfl) rfl (fun X C E => ?_)
  refine j_iconst C dX8_swap_0 (0 : Int32) (by decide) ?_
  refine j_istore_n C [(1, _), (0, _)] dX8_swap_1 (by decide) rfl ?_
  have K2 : ∀ (n2 : Nat) (x2_1 : Int32) (M2 : jB), ((204 : Int32).toInt - x2_1.toInt).toNat < n2 → ((0 : Int32) ≤ x2_1) → r_X8_swap M = L_X8_swap_2 M n2 x2_1 M2 → J l { frames := 0, cells := 0, slots := 0, locals := 0 } D 3 X 0 0 (mW ca g M2) [(0, .ref (g 0)), (1, .int x2_1)] [] 2 := by
    intro n2
    induction n2 with
    | zero =>
      intro x2_1 M2 hm2
      exact absurd hm2 (Nat.not_lt_zero _)
    | succ n2 ih2 =>
      intro x2_1 M2 hm2 hp2 hr2
      refine j_iload_n C dX8_swap_2 rfl ?_
      refine j_sipush C dX8_swap_3 (204 : Int32) (by decide) ?_
      refine j_icmp_ge (tgt := 41) C dX8_swap_6 (by decide) (fun (h6 : (204 : Int32) ≤ x2_1) => ?_) (fun (h6 : ¬ ((204 : Int32) ≤ x2_1)) => ?_)
      · have e9 : r_X8_swap M = M2 := by rw [hr2, L_X8_swap_2, if_pos h6]
        exact j_vret E dX8_swap_41 (by rw [e9]; exact ⟨rfl, rfl⟩)
      · refine j_aload_n C dX8_swap_9 rfl ?_
        refine j_get C f_X8_7.F 0 dX8_swap_10 mW_0 rfl ?_
        refine j_iload_n C dX8_swap_13 rfl ?_
        refine j_iald C 1 dX8_swap_14 mW_1 (vin_b 204 rfl hp2 h6 (by decide)) ?_
        refine j_istore_n C [(2, _), (0, _), (1, _)] dX8_swap_15 (by decide) rfl ?_
        refine j_aload_n C dX8_swap_16 rfl ?_
        refine j_get C f_X8_7.F 0 dX8_swap_17 mW_0 rfl ?_
        refine j_iload_n C dX8_swap_20 rfl ?_
        refine j_aload_n C dX8_swap_21 rfl ?_
        refine j_get C f_X8_13.F 0 dX8_swap_22 mW_0 rfl ?_
        refine j_iload_n C dX8_swap_25 rfl ?_
        refine j_iald C 2 dX8_swap_26 mW_2 (vin_b 204 rfl hp2 h6 (by decide)) ?_
        refine j_iast C 1 dX8_swap_27 mW_1 (vin_b 204 rfl hp2 h6 (by decide)) ?_
        refine j_ws (ws' := (mW ca g (up2 M2 0 (x2_1).toNatClampNeg (M2 1 x2_1.toNatClampNeg)))) fa_m_1 ?_
        refine j_aload_n C dX8_swap_28 rfl ?_
        refine j_get C f_X8_13.F 0 dX8_swap_29 mW_0 rfl ?_
        refine j_iload_n C dX8_swap_32 rfl ?_
        refine j_iload_n C dX8_swap_33 rfl ?_
        refine j_iast C 2 dX8_swap_34 mW_2 (vin_b 204 rfl hp2 h6 (by decide)) ?_
        refine j_ws (ws' := (mW ca g (z_X8_swap_0 x2_1 M2))) fa_m_2 ?_
        refine j_iinc C [(1, _), (2, _), (0, _)] (v := (x2_1 + (1 : Int32))) dX8_swap_35 rfl (iinc_1 _) (by decide) rfl ?_
        refine j_goto (tgt := 2) C dX8_swap_38 (by decide) ?_
        refine j_lv [(0, .ref (g 0)), (1, .int (x2_1 + (1 : Int32)))] rfl ?_
        exact ih2 (x2_1 + (1 : Int32)) (z_X8_swap_0 x2_1 M2) (jms h6 hm2) (i_pos' h6 hp2) (by rw [hr2, L_X8_swap_2, if_neg h6])
  refine j_lv [(0, .ref (g 0)), (1, .int (0 : Int32))] rfl ?_
  exact K2 205 (0 : Int32) M (by decide) (by decide) (by rw [r_X8_swap])


def r_X8_refusal (M : jB) (w : Int32) : Int32 := (if (r_X8_in w (0 : Int32) (1 : Int32)) = (0 : Int32) then (-2 : Int32) else (if w = (0 : Int32) then (M 6 3) else (M 6 4)))
set_option maxRecDepth 100000 in
set_option maxHeartbeats 4000000 in
theorem c_X8_refusal (l : Launch) (D : va_G) (ca : Nat → ClassId) (g : Nat → Nat) (M : jB) (w : Int32) : jM l D ca yX8_refusal cX8_refusal 2 (some .int) 1 22 0 0 [.ref (g 0), .int w] (mW ca g M) (jD (some (.int (r_X8_refusal M w))) (mW ca g M)) := by
  refine jM_of [(0, .ref (g 0)), (1, .int w)] (by decide) (Nat.le_of_ble_eq_true rfl) rfl (fun X C E => ?_)
  refine j_iload_n C dX8_refusal_0 rfl ?_
  refine j_iconst C dX8_refusal_1 (0 : Int32) (by decide) ?_
  refine j_iconst C dX8_refusal_2 (1 : Int32) (by decide) ?_
  refine j_callSiR C g_X8_38 (c_X8_in l D ca w (0 : Int32) (1 : Int32)) ⟨Nat.le_of_ble_eq_true rfl, Nat.le_of_ble_eq_true rfl⟩ ⟨Nat.le_of_ble_eq_true rfl, Nat.le_of_ble_eq_true rfl⟩ [] rfl rfl rfl rfl (Nat.le_of_ble_eq_true rfl) dX8_refusal_3 ?_
  refine j_if_ne (tgt := 14) C dX8_refusal_6 (by decide) (fun (h6 : ¬ ((r_X8_in w (0 : Int32) (1 : Int32)) = (0 : Int32))) => ?_) (fun (h6 : (r_X8_in w (0 : Int32) (1 : Int32)) = (0 : Int32)) => ?_)
  · refine j_iload_n C dX8_refusal_14 rfl ?_
    refine j_if_ne (tgt := 25) C dX8_refusal_15 (by decide) (fun (h15 : ¬ (w = (0 : Int32))) => ?_) (fun (h15 : w = (0 : Int32)) => ?_)
    · refine j_aload_n C dX8_refusal_25 rfl ?_
      refine j_get C f_X8_29.F 0 dX8_refusal_26 mW_0 rfl ?_
      have e9 : r_X8_refusal M w = (M 6 4) := by rw [r_X8_refusal, if_neg h6, if_neg h15]
      exact j_iret E dX8_refusal_29 (by rw [e9]; exact ⟨rfl, rfl⟩)
    · refine j_aload_n C dX8_refusal_18 rfl ?_
      refine j_get C f_X8_25.F 0 dX8_refusal_19 mW_0 rfl ?_
      refine j_goto (tgt := 29) C dX8_refusal_22 (by decide) ?_
      have e9 : r_X8_refusal M w = (M 6 3) := by rw [r_X8_refusal, if_neg h6, if_pos h15]
      exact j_iret E dX8_refusal_29 (by rw [e9]; exact ⟨rfl, rfl⟩)
  · refine j_bipush C dX8_refusal_9 (-2 : Int32) (by decide) ?_
    refine j_goto (tgt := 29) C dX8_refusal_11 (by decide) ?_
    have e9 : r_X8_refusal M w = (-2 : Int32) := by rw [r_X8_refusal, if_pos h6]
    exact j_iret E dX8_refusal_29 (by rw [e9]; exact ⟨rfl, rfl⟩)


def z_X8_pass_0 (M : jB) (days : Int32) : jB := (up2 (r_X8_know M) 0 ((0 : Int32)).toNatClampNeg (((r_X8_know M) 0 (0 : Int32).toNatClampNeg) + days))
def r_X8_pass (M : jB) (days : Int32) : Int32 × jB := (if (r_X8_in days (1 : Int32) (365 : Int32)) = (0 : Int32) then ((-2 : Int32), M) else (if ((M 0 (0 : Int32).toNatClampNeg) + days) ≤ (99999 : Int32) then (((z_X8_pass_0 M days) 0 (0 : Int32).toNatClampNeg), (z_X8_pass_0 M days)) else ((-4 : Int32), M)))
def n_X8_pass (M : jB) (days : Int32) : Prop := (((r_X8_in days (1 : Int32) (365 : Int32)) = (0 : Int32) → True) ∧ (¬ ((r_X8_in days (1 : Int32) (365 : Int32)) = (0 : Int32)) → ((((M 0 (0 : Int32).toNatClampNeg) + days) ≤ (99999 : Int32) → ((n_X8_know M) ∧ True)) ∧ (¬ (((M 0 (0 : Int32).toNatClampNeg) + days) ≤ (99999 : Int32)) → True))))
set_option maxRecDepth 100000 in
set_option maxHeartbeats 4000000 in
theorem c_X8_pass (l : Launch) (D : va_G) (ca : Nat → ClassId) (g : Nat → Nat) (M : jB) (days : Int32) (hq : n_X8_pass M days) : jM l D ca yX8_pass cX8_pass 2 (some .int) 1 22 0 0 [.ref (g 0), .int days] (mW ca g M) (jD (some (.int (r_X8_pass M days).1)) (mW ca g ((r_X8_pass M days).2))) := by
  refine jM_of [(0, .ref (g 0)), (1, .int days)] (by decide) (Nat.le_of_ble_eq_true rfl) rfl (fun X C E => ?_)
  rw [n_X8_pass] at hq
  refine j_iload_n C dX8_pass_0 rfl ?_
  refine j_iconst C dX8_pass_1 (1 : Int32) (by decide) ?_
  refine j_sipush C dX8_pass_2 (365 : Int32) (by decide) ?_
  refine j_callSiR C g_X8_38 (c_X8_in l D ca days (1 : Int32) (365 : Int32)) ⟨Nat.le_of_ble_eq_true rfl, Nat.le_of_ble_eq_true rfl⟩ ⟨Nat.le_of_ble_eq_true rfl, Nat.le_of_ble_eq_true rfl⟩ [] rfl rfl rfl rfl (Nat.le_of_ble_eq_true rfl) dX8_pass_5 ?_
  refine j_if_ne (tgt := 14) C dX8_pass_8 (by decide) (fun (h8 : ¬ ((r_X8_in days (1 : Int32) (365 : Int32)) = (0 : Int32))) => ?_) (fun (h8 : (r_X8_in days (1 : Int32) (365 : Int32)) = (0 : Int32)) => ?_)
  · have hq := hq.2 h8
    refine j_aload_n C dX8_pass_14 rfl ?_
    refine j_get C f_X8_7.F 0 dX8_pass_15 mW_0 rfl ?_
    refine j_iconst C dX8_pass_18 (0 : Int32) (by decide) ?_
    refine j_iald C 1 dX8_pass_19 mW_1 (vin_c rfl) ?_
    refine j_iload_n C dX8_pass_20 rfl ?_
    refine j_iadd C dX8_pass_21 ?_
    refine j_ldc C q_818 dX8_pass_22 ?_
    refine j_icmp_le (tgt := 30) C dX8_pass_24 (by decide) (fun (h24 : ((M 0 (0 : Int32).toNatClampNeg) + days) ≤ (99999 : Int32)) => ?_) (fun (h24 : ¬ (((M 0 (0 : Int32).toNatClampNeg) + days) ≤ (99999 : Int32))) => ?_)
    · have hq := hq.1 h24
      refine j_aload_n C dX8_pass_30 rfl ?_
      obtain ⟨hv, hq⟩ := hq
      refine j_callVvW C g_X8_81 (c_X8_know l D ca g M hv) 0 mW_0 hcl_X8 ⟨Nat.le_of_ble_eq_true rfl, Nat.le_of_ble_eq_true rfl⟩ ⟨Nat.le_of_ble_eq_true rfl, Nat.le_of_ble_eq_true rfl⟩ rfl rfl (Nat.le_of_ble_eq_true rfl) dX8_pass_31 fst_m ?_
      refine j_aload_n C dX8_pass_34 rfl ?_
      refine j_get C f_X8_7.F 0 dX8_pass_35 mW_0 rfl ?_
      refine j_iconst C dX8_pass_38 (0 : Int32) (by decide) ?_
      refine j_dup2 C dX8_pass_39 rfl rfl ?_
      refine j_iald C 1 dX8_pass_40 mW_1 (vin_c rfl) ?_
      refine j_iload_n C dX8_pass_41 rfl ?_
      refine j_iadd C dX8_pass_42 ?_
      refine j_iast C 1 dX8_pass_43 mW_1 (vin_c rfl) ?_
      refine j_ws (ws' := (mW ca g (z_X8_pass_0 M days))) fa_m_1 ?_
      refine j_aload_n C dX8_pass_44 rfl ?_
      refine j_get C f_X8_7.F 0 dX8_pass_45 mW_0 rfl ?_
      refine j_iconst C dX8_pass_48 (0 : Int32) (by decide) ?_
      refine j_iald C 1 dX8_pass_49 mW_1 (vin_c rfl) ?_
      have e9 : r_X8_pass M days = (((z_X8_pass_0 M days) 0 (0 : Int32).toNatClampNeg), (z_X8_pass_0 M days)) := by rw [r_X8_pass, if_neg h8, if_pos h24]
      exact j_iret E dX8_pass_50 (jD_i e9 (mW ca g))
    · have hq := hq.2 h24
      refine j_bipush C dX8_pass_27 (-4 : Int32) (by decide) ?_
      have e9 : r_X8_pass M days = ((-4 : Int32), M) := by rw [r_X8_pass, if_neg h8, if_neg h24]
      exact j_iret E dX8_pass_29 (jD_i e9 (mW ca g))
  · have hq := hq.1 h8
    refine j_bipush C dX8_pass_11 (-2 : Int32) (by decide) ?_
    have e9 : r_X8_pass M days = ((-2 : Int32), M) := by rw [r_X8_pass, if_pos h8]
    exact j_iret E dX8_pass_13 (jD_i e9 (mW ca g))
theorem vin_60 {q : Int32} (h0 : 0 ≤ q) (h4 : q ≤ 60) (hn : ¬ q = 60) : vp_in q 60 := by
  have h1 := Int32.le_iff_toInt_le.mp h4
  have h3 := Int32.le_iff_toInt_le.mp h0
  have e4 : (60 : Int32).toInt = 60 := rfl
  have e0 : (0 : Int32).toInt = 0 := rfl
  have h2 : q.toInt ≠ 60 := fun z => hn (Int32.toInt_inj.mp (z.trans e4.symm))
  exact vp_in_iff.mpr ⟨by omega, by omega⟩
theorem in_vin {v : Int32} {n : Nat} (N : Int32) (hN : N.toInt + 1 = n) (h : ¬ r_X8_in v 0 N = 0) : vp_in v n := by
  unfold r_X8_in at h
  by_cases h1 : v < 0
  · rw [if_pos h1] at h; exact absurd rfl h
  · rw [if_neg h1] at h
    by_cases h2 : N < v
    · rw [if_pos h2] at h; exact absurd rfl h
    · have b1 := Int32.le_iff_toInt_le.mp (Int32.not_lt.mp h1)
      have b2 := Int32.le_iff_toInt_le.mp (Int32.not_lt.mp h2)
      have e0 : (0 : Int32).toInt = 0 := rfl
      exact vp_in_iff.mpr ⟨by omega, by omega⟩
set_option maxRecDepth 100000 in
set_option maxHeartbeats 4000000 in
theorem fa_m_5 {ca : Nat → ClassId} {g : Nat → Nat} {M : jB} {i : Nat} {v : Int32} : (mW ca g M).set 5 (g 5, .inl (ca 0, 60, .inl (upd (M 4) i v))) = mW ca g (up2 M 4 i v) := rfl
set_option maxRecDepth 100000 in
set_option maxHeartbeats 4000000 in
theorem rd_32 {S : jB} {k0 : Nat} {v0 : Int32} : (up2 S 4 k0 v0) 6 2 = S 6 2 := rfl
set_option maxRecDepth 100000 in
set_option maxHeartbeats 4000000 in
theorem fo_m_0_7 {ca : Nat → ClassId} {g : Nat → Nat} {M : jB} {v : Int32} : (mW ca g M).set 0 (g 0, .inr (8, [.ref (g 1), .ref (g 2), .ref (g 3), .int (M 6 0), .ref (g 4), .int (M 6 1), .ref (g 5), .int (M 6 2), .int (M 6 3), .int (M 6 4), .ref (g 6), .int (M 6 5), .int (M 6 6), .int (M 6 7), .int (M 6 8)].set 7 (.int v))) = mW ca g (up2 M 6 2 v) := rfl
set_option maxRecDepth 100000 in
set_option maxHeartbeats 4000000 in
theorem rd_33 {S : jB} {v0 : Int32} : (up2 S 6 2 v0) 6 2 = v0 := rfl

def r_X8_type (M : jB) (c : Int32) : Int32 × jB := (if (M 6 2) = (60 : Int32) then ((-3 : Int32), M) else (((M 6 2) + (1 : Int32)), (up2 (up2 M 4 ((M 6 2)).toNatClampNeg c) 6 2 ((M 6 2) + (1 : Int32)))))
def n_X8_type (M : jB) (c : Int32) : Prop := (((0 : Int32) ≤ M 6 2) ∧ ((M 6 2 ≤ 60) ∧ True))
set_option maxRecDepth 100000 in
set_option maxHeartbeats 4000000 in
theorem c_X8_type (l : Launch) (D : va_G) (ca : Nat → ClassId) (g : Nat → Nat) (M : jB) (c : Int32) (hq : n_X8_type M c) : jM l D ca yX8_type cX8_type 2 (some .int) 0 0 0 0 [.ref (g 0), .int c] (mW ca g M) (jD (some (.int (r_X8_type M c).1)) (mW ca g ((r_X8_type M c).2))) := by
  refine jM_of [(0, .ref (g 0)), (1, .int c)] (by decide) (Nat.le_of_ble_eq_true rfl) rfl (fun X C E => ?_)
  rw [n_X8_type] at hq
  obtain ⟨hT0, hq⟩ := hq
  obtain ⟨hT, hq⟩ := hq
  refine j_aload_n C dX8_type_0 rfl ?_
  refine j_get C f_X8_127.F 0 dX8_type_1 mW_0 rfl ?_
  refine j_bipush C dX8_type_4 (60 : Int32) (by decide) ?_
  refine j_icmp_ne (tgt := 12) C dX8_type_6 (by decide) (fun (h6 : ¬ ((M 6 2) = (60 : Int32))) => ?_) (fun (h6 : (M 6 2) = (60 : Int32)) => ?_)
  · refine j_aload_n C dX8_type_12 rfl ?_
    refine j_get C f_X8_22.F 0 dX8_type_13 mW_0 rfl ?_
    refine j_aload_n C dX8_type_16 rfl ?_
    refine j_get C f_X8_127.F 0 dX8_type_17 mW_0 rfl ?_
    refine j_iload_n C dX8_type_20 rfl ?_
    refine j_iast C 5 dX8_type_21 mW_5 (vin_60 hT0 hT h6) ?_
    refine j_ws (ws' := (mW ca g (up2 M 4 ((M 6 2)).toNatClampNeg c))) fa_m_5 ?_
    refine j_aload_n C dX8_type_22 rfl ?_
    refine j_dup C dX8_type_23 rfl ?_
    refine j_get C f_X8_127.F 0 dX8_type_24 mW_0 rfl ?_
    refine j_sti rd_32 ?_
    refine j_iconst C dX8_type_27 (1 : Int32) (by decide) ?_
    refine j_iadd C dX8_type_28 ?_
    refine j_put C f_X8_127 0 dX8_type_29 mW_0 (Nat.le_of_ble_eq_true rfl) rfl rfl ?_
    refine j_ws (ws' := (mW ca g (up2 (up2 M 4 ((M 6 2)).toNatClampNeg c) 6 2 ((M 6 2) + (1 : Int32))))) fo_m_0_7 ?_
    refine j_aload_n C dX8_type_32 rfl ?_
    refine j_get C f_X8_127.F 0 dX8_type_33 mW_0 rfl ?_
    refine j_sti rd_33 ?_
    have e9 : r_X8_type M c = (((M 6 2) + (1 : Int32)), (up2 (up2 M 4 ((M 6 2)).toNatClampNeg c) 6 2 ((M 6 2) + (1 : Int32)))) := by rw [r_X8_type, if_neg h6]
    exact j_iret E dX8_type_36 (jD_i e9 (mW ca g))
  · refine j_bipush C dX8_type_9 (-3 : Int32) (by decide) ?_
    have e9 : r_X8_type M c = ((-3 : Int32), M) := by rw [r_X8_type, if_pos h6]
    exact j_iret E dX8_type_11 (jD_i e9 (mW ca g))


def r_X8_clearText (M : jB) : Int32 × jB := ((M 6 2), (up2 M 6 2 (0 : Int32)))
set_option maxRecDepth 100000 in
set_option maxHeartbeats 4000000 in
theorem c_X8_clearText (l : Launch) (D : va_G) (ca : Nat → ClassId) (g : Nat → Nat) (M : jB) : jM l D ca yX8_clearText cX8_clearText 2 (some .int) 0 0 0 0 [.ref (g 0)] (mW ca g M) (jD (some (.int (r_X8_clearText M).1)) (mW ca g ((r_X8_clearText M).2))) := by
  refine jM_of [(0, .ref (g 0))] (by decide) (Nat.le_of_ble_eq_true rfl) rfl (fun X C E => ?_)
  refine j_aload_n C dX8_clearText_0 rfl ?_
  refine j_get C f_X8_127.F 0 dX8_clearText_1 mW_0 rfl ?_
  refine j_istore_n C [(1, _), (0, _)] dX8_clearText_4 (by decide) rfl ?_
  refine j_aload_n C dX8_clearText_5 rfl ?_
  refine j_iconst C dX8_clearText_6 (0 : Int32) (by decide) ?_
  refine j_put C f_X8_127 0 dX8_clearText_7 mW_0 (Nat.le_of_ble_eq_true rfl) rfl rfl ?_
  refine j_ws (ws' := (mW ca g (up2 M 6 2 (0 : Int32)))) fo_m_0_7 ?_
  refine j_iload_n C dX8_clearText_10 rfl ?_
  have e9 : r_X8_clearText M = ((M 6 2), (up2 M 6 2 (0 : Int32))) := by rw [r_X8_clearText]
  exact j_iret E dX8_clearText_11 (jD_i e9 (mW ca g))


def z_X8_undo_0 (x22_1 : Int32) (M22 : jB) : jB := (up2 M22 0 (x22_1).toNatClampNeg (M22 2 (((204 : Int32) * (M22 6 0)) + x22_1).toNatClampNeg))
def L_X8_undo_22 (M : jB) : Nat → Int32 → jB → Int32 × jB
  | 0, _, _ => (0, M)
  | n22 + 1, x22_1, M22 => (if (204 : Int32) ≤ x22_1 then ((M22 6 0), M22) else L_X8_undo_22 M n22 (x22_1 + (1 : Int32)) (z_X8_undo_0 x22_1 M22))
def r_X8_undo (M : jB) : Int32 × jB := (if (M 6 0) = (0 : Int32) then ((-5 : Int32), M) else L_X8_undo_22 M 205 (0 : Int32) (up2 M 6 0 ((M 6 0) - (1 : Int32))))
def n_X8_undo (M : jB) : Prop := (((0 : Int32) ≤ M 6 0) ∧ ((M 6 0 ≤ 4) ∧ True))
set_option maxRecDepth 100000 in
set_option maxHeartbeats 4000000 in
theorem c_X8_undo (l : Launch) (D : va_G) (ca : Nat → ClassId) (g : Nat → Nat) (M : jB) (hq : n_X8_undo M) : jM l D ca yX8_undo cX8_undo 2 (some .int) 0 0 0 0 [.ref (g 0)] (mW ca g M) (jD (some (.int (r_X8_undo M).1)) (mW ca g ((r_X8_undo M).2))) := by
  refine jM_of [(0, .ref (g 0))] (by decide) (Nat.le_of_ble_eq_true rfl) rfl (fun X C E => ?_)
  rw [n_X8_undo] at hq
  obtain ⟨hk0, hq⟩ := hq
  obtain ⟨hk4, hq⟩ := hq
  refine j_aload_n C dX8_undo_0 rfl ?_
  refine j_get C f_X8_42.F 0 dX8_undo_1 mW_0 rfl ?_
  refine j_if_ne (tgt := 10) C dX8_undo_4 (by decide) (fun (h4 : ¬ ((M 6 0) = (0 : Int32))) => ?_) (fun (h4 : (M 6 0) = (0 : Int32)) => ?_)
  · refine j_aload_n C dX8_undo_10 rfl ?_
    refine j_dup C dX8_undo_11 rfl ?_
    refine j_get C f_X8_42.F 0 dX8_undo_12 mW_0 rfl ?_
    refine j_iconst C dX8_undo_15 (1 : Int32) (by decide) ?_
    refine j_isub C dX8_undo_16 ?_
    refine j_put C f_X8_42 0 dX8_undo_17 mW_0 (Nat.le_of_ble_eq_true rfl) rfl rfl ?_
    refine j_ws (ws' := (mW ca g (up2 M 6 0 ((M 6 0) - (1 : Int32))))) fo_m_0_3 ?_
    refine j_iconst C dX8_undo_20 (0 : Int32) (by decide) ?_
    refine j_istore_n C [(1, _), (0, _)] dX8_undo_21 (by decide) rfl ?_
    have K22 : ∀ (n22 : Nat) (x22_1 : Int32) (M22 : jB), ((204 : Int32).toInt - x22_1.toInt).toNat < n22 → ((0 : Int32) ≤ x22_1) → (0 ≤ M22 6 0 ∧ M22 6 0 ≤ 3) → r_X8_undo M = L_X8_undo_22 M n22 x22_1 M22 → J l { frames := 0, cells := 0, slots := 0, locals := 0 } D 2 X 0 0 (mW ca g M22) [(0, .ref (g 0)), (1, .int x22_1)] [] 22 := by
      intro n22
      induction n22 with
      | zero =>
        intro x22_1 M22 hm22
        exact absurd hm22 (Nat.not_lt_zero _)
      | succ n22 ih22 =>
        intro x22_1 M22 hm22 hp22 hk22 hr22
        refine j_iload_n C dX8_undo_22 rfl ?_
        refine j_sipush C dX8_undo_23 (204 : Int32) (by decide) ?_
        refine j_icmp_ge (tgt := 56) C dX8_undo_26 (by decide) (fun (h26 : (204 : Int32) ≤ x22_1) => ?_) (fun (h26 : ¬ ((204 : Int32) ≤ x22_1)) => ?_)
        · refine j_aload_n C dX8_undo_56 rfl ?_
          refine j_get C f_X8_42.F 0 dX8_undo_57 mW_0 rfl ?_
          have e9 : r_X8_undo M = ((M22 6 0), M22) := by rw [hr22, L_X8_undo_22, if_pos h26]
          exact j_iret E dX8_undo_60 (jD_i e9 (mW ca g))
        · refine j_aload_n C dX8_undo_29 rfl ?_
          refine j_get C f_X8_7.F 0 dX8_undo_30 mW_0 rfl ?_
          refine j_iload_n C dX8_undo_33 rfl ?_
          refine j_aload_n C dX8_undo_34 rfl ?_
          refine j_get C f_X8_16.F 0 dX8_undo_35 mW_0 rfl ?_
          refine j_sipush C dX8_undo_38 (204 : Int32) (by decide) ?_
          refine j_aload_n C dX8_undo_41 rfl ?_
          refine j_get C f_X8_42.F 0 dX8_undo_42 mW_0 rfl ?_
          refine j_imul C dX8_undo_45 ?_
          refine j_iload_n C dX8_undo_46 rfl ?_
          refine j_iadd C dX8_undo_47 ?_
          refine j_iald C 3 dX8_undo_48 mW_3 (vin_kn hk22.1 hk22.2 hp22 h26) ?_
          refine j_iast C 1 dX8_undo_49 mW_1 (vin_b 204 rfl hp22 h26 (by decide)) ?_
          refine j_ws (ws' := (mW ca g (z_X8_undo_0 x22_1 M22))) fa_m_1 ?_
          refine j_iinc C [(1, _), (0, _)] (v := (x22_1 + (1 : Int32))) dX8_undo_50 rfl (iinc_1 _) (by decide) rfl ?_
          refine j_goto (tgt := 22) C dX8_undo_53 (by decide) ?_
          refine j_lv [(0, .ref (g 0)), (1, .int (x22_1 + (1 : Int32)))] rfl ?_
          exact ih22 (x22_1 + (1 : Int32)) (z_X8_undo_0 x22_1 M22) (jms h26 hm22) (i_pos' h26 hp22) hk22 (by rw [hr22, L_X8_undo_22, if_neg h26])
    refine j_lv [(0, .ref (g 0)), (1, .int (0 : Int32))] rfl ?_
    exact K22 205 (0 : Int32) (up2 M 6 0 ((M 6 0) - (1 : Int32))) (by decide) (by decide) (kn_c hk0 hk4 h4) (by rw [r_X8_undo, if_neg h4])
  · refine j_bipush C dX8_undo_7 (-5 : Int32) (by decide) ?_
    have e9 : r_X8_undo M = ((-5 : Int32), M) := by rw [r_X8_undo, if_pos h4]
    exact j_iret E dX8_undo_9 (jD_i e9 (mW ca g))
set_option maxRecDepth 100000 in
set_option maxHeartbeats 4000000 in
theorem fo_m_0_5 {ca : Nat → ClassId} {g : Nat → Nat} {M : jB} {v : Int32} : (mW ca g M).set 0 (g 0, .inr (8, [.ref (g 1), .ref (g 2), .ref (g 3), .int (M 6 0), .ref (g 4), .int (M 6 1), .ref (g 5), .int (M 6 2), .int (M 6 3), .int (M 6 4), .ref (g 6), .int (M 6 5), .int (M 6 6), .int (M 6 7), .int (M 6 8)].set 5 (.int v))) = mW ca g (up2 M 6 1 v) := rfl
set_option maxRecDepth 100000 in
set_option maxHeartbeats 4000000 in
theorem rd_34 {S : jB} {v0 : Int32} {i : Nat} : (up2 S 6 1 v0) 0 i = S 0 i := rfl
set_option maxRecDepth 100000 in
set_option maxHeartbeats 4000000 in
theorem fa_m_4 {ca : Nat → ClassId} {g : Nat → Nat} {M : jB} {i : Nat} {v : Int32} : (mW ca g M).set 4 (g 4, .inl (ca 0, 204, .inl (upd (M 3) i v))) = mW ca g (up2 M 3 i v) := rfl

def L_X8_keep_2 (M : jB) : Nat → Int32 → jB → Int32 × jB
  | 0, _, _ => (0, M)
  | n2 + 1, x2_1, M2 => (if (204 : Int32) ≤ x2_1 then ((M2 0 (0 : Int32).toNatClampNeg), (up2 M2 6 1 (1 : Int32))) else L_X8_keep_2 M n2 (x2_1 + (1 : Int32)) (up2 M2 3 (x2_1).toNatClampNeg (M2 0 x2_1.toNatClampNeg)))
def r_X8_keep (M : jB) : Int32 × jB := L_X8_keep_2 M 205 (0 : Int32) M
set_option maxRecDepth 100000 in
set_option maxHeartbeats 4000000 in
theorem c_X8_keep (l : Launch) (D : va_G) (ca : Nat → ClassId) (g : Nat → Nat) (M : jB) : jM l D ca yX8_keep cX8_keep 2 (some .int) 0 0 0 0 [.ref (g 0)] (mW ca g M) (jD (some (.int (r_X8_keep M).1)) (mW ca g ((r_X8_keep M).2))) := by
  refine jM_of [(0, .ref (g 0))] (by decide) (Nat.le_of_ble_eq_true rfl) rfl (fun X C E => ?_)
  refine j_iconst C dX8_keep_0 (0 : Int32) (by decide) ?_
  refine j_istore_n C [(1, _), (0, _)] dX8_keep_1 (by decide) rfl ?_
  have K2 : ∀ (n2 : Nat) (x2_1 : Int32) (M2 : jB), ((204 : Int32).toInt - x2_1.toInt).toNat < n2 → ((0 : Int32) ≤ x2_1) → r_X8_keep M = L_X8_keep_2 M n2 x2_1 M2 → J l { frames := 0, cells := 0, slots := 0, locals := 0 } D 2 X 0 0 (mW ca g M2) [(0, .ref (g 0)), (1, .int x2_1)] [] 2 := by
    intro n2
    induction n2 with
    | zero =>
      intro x2_1 M2 hm2
      exact absurd hm2 (Nat.not_lt_zero _)
    | succ n2 ih2 =>
      intro x2_1 M2 hm2 hp2 hr2
      refine j_iload_n C dX8_keep_2 rfl ?_
      refine j_sipush C dX8_keep_3 (204 : Int32) (by decide) ?_
      refine j_icmp_ge (tgt := 27) C dX8_keep_6 (by decide) (fun (h6 : (204 : Int32) ≤ x2_1) => ?_) (fun (h6 : ¬ ((204 : Int32) ≤ x2_1)) => ?_)
      · refine j_aload_n C dX8_keep_27 rfl ?_
        refine j_iconst C dX8_keep_28 (1 : Int32) (by decide) ?_
        refine j_put C f_X8_154 0 dX8_keep_29 mW_0 (Nat.le_of_ble_eq_true rfl) rfl rfl ?_
        refine j_ws (ws' := (mW ca g (up2 M2 6 1 (1 : Int32)))) fo_m_0_5 ?_
        refine j_aload_n C dX8_keep_32 rfl ?_
        refine j_get C f_X8_7.F 0 dX8_keep_33 mW_0 rfl ?_
        refine j_iconst C dX8_keep_36 (0 : Int32) (by decide) ?_
        refine j_iald C 1 dX8_keep_37 mW_1 (vin_c rfl) ?_
        refine j_sti rd_34 ?_
        have e9 : r_X8_keep M = ((M2 0 (0 : Int32).toNatClampNeg), (up2 M2 6 1 (1 : Int32))) := by rw [hr2, L_X8_keep_2, if_pos h6]
        exact j_iret E dX8_keep_38 (jD_i e9 (mW ca g))
      · refine j_aload_n C dX8_keep_9 rfl ?_
        refine j_get C f_X8_19.F 0 dX8_keep_10 mW_0 rfl ?_
        refine j_iload_n C dX8_keep_13 rfl ?_
        refine j_aload_n C dX8_keep_14 rfl ?_
        refine j_get C f_X8_7.F 0 dX8_keep_15 mW_0 rfl ?_
        refine j_iload_n C dX8_keep_18 rfl ?_
        refine j_iald C 1 dX8_keep_19 mW_1 (vin_b 204 rfl hp2 h6 (by decide)) ?_
        refine j_iast C 4 dX8_keep_20 mW_4 (vin_b 204 rfl hp2 h6 (by decide)) ?_
        refine j_ws (ws' := (mW ca g (up2 M2 3 (x2_1).toNatClampNeg (M2 0 x2_1.toNatClampNeg)))) fa_m_4 ?_
        refine j_iinc C [(1, _), (0, _)] (v := (x2_1 + (1 : Int32))) dX8_keep_21 rfl (iinc_1 _) (by decide) rfl ?_
        refine j_goto (tgt := 2) C dX8_keep_24 (by decide) ?_
        refine j_lv [(0, .ref (g 0)), (1, .int (x2_1 + (1 : Int32)))] rfl ?_
        exact ih2 (x2_1 + (1 : Int32)) (up2 M2 3 (x2_1).toNatClampNeg (M2 0 x2_1.toNatClampNeg)) (jms h6 hm2) (i_pos' h6 hp2) (by rw [hr2, L_X8_keep_2, if_neg h6])
  refine j_lv [(0, .ref (g 0)), (1, .int (0 : Int32))] rfl ?_
  exact K2 205 (0 : Int32) M (by decide) (by decide) (by rw [r_X8_keep])


def L_X8_restore_16 (M : jB) : Nat → Int32 → jB → Int32 × jB
  | 0, _, _ => (0, M)
  | n16 + 1, x16_1, M16 => (if (204 : Int32) ≤ x16_1 then ((M16 0 (0 : Int32).toNatClampNeg), M16) else L_X8_restore_16 M n16 (x16_1 + (1 : Int32)) (up2 M16 0 (x16_1).toNatClampNeg (M16 3 x16_1.toNatClampNeg)))
def NL_X8_restore_16 (M : jB) : Nat → Int32 → jB → Prop
  | 0, _, _ => True
  | n16 + 1, x16_1, M16 => (((204 : Int32) ≤ x16_1 → True) ∧ (¬ ((204 : Int32) ≤ x16_1) → NL_X8_restore_16 M n16 (x16_1 + (1 : Int32)) (up2 M16 0 (x16_1).toNatClampNeg (M16 3 x16_1.toNatClampNeg))))
def r_X8_restore (M : jB) : Int32 × jB := (if (M 6 1) = (0 : Int32) then ((-5 : Int32), M) else L_X8_restore_16 M 205 (0 : Int32) (r_X8_know M))
def n_X8_restore (M : jB) : Prop := (((M 6 1) = (0 : Int32) → True) ∧ (¬ ((M 6 1) = (0 : Int32)) → ((n_X8_know M) ∧ NL_X8_restore_16 M 205 (0 : Int32) (r_X8_know M))))
set_option maxRecDepth 100000 in
set_option maxHeartbeats 4000000 in
theorem c_X8_restore (l : Launch) (D : va_G) (ca : Nat → ClassId) (g : Nat → Nat) (M : jB) (hq : n_X8_restore M) : jM l D ca yX8_restore cX8_restore 2 (some .int) 1 21 0 0 [.ref (g 0)] (mW ca g M) (jD (some (.int (r_X8_restore M).1)) (mW ca g ((r_X8_restore M).2))) := by
  refine jM_of [(0, .ref (g 0))] (by decide) (Nat.le_of_ble_eq_true rfl) rfl (fun X C E => ?_)
  rw [n_X8_restore] at hq
  refine j_aload_n C dX8_restore_0 rfl ?_
  refine j_get C f_X8_154.F 0 dX8_restore_1 mW_0 rfl ?_
  refine j_if_ne (tgt := 10) C dX8_restore_4 (by decide) (fun (h4 : ¬ ((M 6 1) = (0 : Int32))) => ?_) (fun (h4 : (M 6 1) = (0 : Int32)) => ?_)
  · have hq := hq.2 h4
    refine j_aload_n C dX8_restore_10 rfl ?_
    obtain ⟨hv, hq⟩ := hq
    refine j_callVvW C g_X8_81 (c_X8_know l D ca g M hv) 0 mW_0 hcl_X8 ⟨Nat.le_of_ble_eq_true rfl, Nat.le_of_ble_eq_true rfl⟩ ⟨Nat.le_of_ble_eq_true rfl, Nat.le_of_ble_eq_true rfl⟩ rfl rfl (Nat.le_of_ble_eq_true rfl) dX8_restore_11 fst_m ?_
    refine j_iconst C dX8_restore_14 (0 : Int32) (by decide) ?_
    refine j_istore_n C [(1, _), (0, _)] dX8_restore_15 (by decide) rfl ?_
    have K16 : ∀ (n16 : Nat) (x16_1 : Int32) (M16 : jB), ((204 : Int32).toInt - x16_1.toInt).toNat < n16 → ((0 : Int32) ≤ x16_1) → NL_X8_restore_16 M n16 x16_1 M16 → r_X8_restore M = L_X8_restore_16 M n16 x16_1 M16 → J l { frames := 1, cells := 0, slots := 0, locals := 21 } D 2 X 0 0 (mW ca g M16) [(0, .ref (g 0)), (1, .int x16_1)] [] 16 := by
      intro n16
      induction n16 with
      | zero =>
        intro x16_1 M16 hm16
        exact absurd hm16 (Nat.not_lt_zero _)
      | succ n16 ih16 =>
        intro x16_1 M16 hm16 hp16 hq hr16
        rw [NL_X8_restore_16] at hq
        refine j_iload_n C dX8_restore_16 rfl ?_
        refine j_sipush C dX8_restore_17 (204 : Int32) (by decide) ?_
        refine j_icmp_ge (tgt := 41) C dX8_restore_20 (by decide) (fun (h20 : (204 : Int32) ≤ x16_1) => ?_) (fun (h20 : ¬ ((204 : Int32) ≤ x16_1)) => ?_)
        · have hq := hq.1 h20
          refine j_aload_n C dX8_restore_41 rfl ?_
          refine j_get C f_X8_7.F 0 dX8_restore_42 mW_0 rfl ?_
          refine j_iconst C dX8_restore_45 (0 : Int32) (by decide) ?_
          refine j_iald C 1 dX8_restore_46 mW_1 (vin_c rfl) ?_
          have e9 : r_X8_restore M = ((M16 0 (0 : Int32).toNatClampNeg), M16) := by rw [hr16, L_X8_restore_16, if_pos h20]
          exact j_iret E dX8_restore_47 (jD_i e9 (mW ca g))
        · have hq := hq.2 h20
          refine j_aload_n C dX8_restore_23 rfl ?_
          refine j_get C f_X8_7.F 0 dX8_restore_24 mW_0 rfl ?_
          refine j_iload_n C dX8_restore_27 rfl ?_
          refine j_aload_n C dX8_restore_28 rfl ?_
          refine j_get C f_X8_19.F 0 dX8_restore_29 mW_0 rfl ?_
          refine j_iload_n C dX8_restore_32 rfl ?_
          refine j_iald C 4 dX8_restore_33 mW_4 (vin_b 204 rfl hp16 h20 (by decide)) ?_
          refine j_iast C 1 dX8_restore_34 mW_1 (vin_b 204 rfl hp16 h20 (by decide)) ?_
          refine j_ws (ws' := (mW ca g (up2 M16 0 (x16_1).toNatClampNeg (M16 3 x16_1.toNatClampNeg)))) fa_m_1 ?_
          refine j_iinc C [(1, _), (0, _)] (v := (x16_1 + (1 : Int32))) dX8_restore_35 rfl (iinc_1 _) (by decide) rfl ?_
          refine j_goto (tgt := 16) C dX8_restore_38 (by decide) ?_
          refine j_lv [(0, .ref (g 0)), (1, .int (x16_1 + (1 : Int32)))] rfl ?_
          exact ih16 (x16_1 + (1 : Int32)) (up2 M16 0 (x16_1).toNatClampNeg (M16 3 x16_1.toNatClampNeg)) (jms h20 hm16) (i_pos' h20 hp16) hq (by rw [hr16, L_X8_restore_16, if_neg h20])
    refine j_lv [(0, .ref (g 0)), (1, .int (0 : Int32))] rfl ?_
    exact K16 205 (0 : Int32) (r_X8_know M) (by decide) (by decide) hq (by rw [r_X8_restore, if_neg h4])
  · have hq := hq.1 h4
    refine j_bipush C dX8_restore_7 (-5 : Int32) (by decide) ?_
    have e9 : r_X8_restore M = ((-5 : Int32), M) := by rw [r_X8_restore, if_pos h4]
    exact j_iret E dX8_restore_9 (jD_i e9 (mW ca g))


def r_X8_rate (M : jB) (w : Int32) : UInt32 := (if (r_X8_in w (0 : Int32) (2 : Int32)) = (0 : Int32) then (r_X8_nan) else (r_X8_rateOf M w))
def n_X8_rate (M : jB) (w : Int32) : Prop := (((r_X8_in w (0 : Int32) (2 : Int32)) = (0 : Int32) → True) ∧ (¬ ((r_X8_in w (0 : Int32) (2 : Int32)) = (0 : Int32)) → ((n_X8_rateOf M w) ∧ True)))
set_option maxRecDepth 100000 in
set_option maxHeartbeats 4000000 in
theorem c_X8_rate (l : Launch) (D : va_G) (ca : Nat → ClassId) (g : Nat → Nat) (M : jB) (w : Int32) (hq : n_X8_rate M w) : jM l D ca yX8_rate cX8_rate 2 (Option.some FieldType.float) 2 44 0 0 [.ref (g 0), .int w] (mW ca g M) (jD (some (.float (r_X8_rate M w))) (mW ca g M)) := by
  refine jM_of [(0, .ref (g 0)), (1, .int w)] (by decide) (Nat.le_of_ble_eq_true rfl) rfl (fun X C E => ?_)
  rw [n_X8_rate] at hq
  refine j_iload_n C dX8_rate_0 rfl ?_
  refine j_iconst C dX8_rate_1 (0 : Int32) (by decide) ?_
  refine j_iconst C dX8_rate_2 (2 : Int32) (by decide) ?_
  refine j_callSiR C g_X8_38 (c_X8_in l D ca w (0 : Int32) (2 : Int32)) ⟨Nat.le_of_ble_eq_true rfl, Nat.le_of_ble_eq_true rfl⟩ ⟨Nat.le_of_ble_eq_true rfl, Nat.le_of_ble_eq_true rfl⟩ [] rfl rfl rfl rfl (Nat.le_of_ble_eq_true rfl) dX8_rate_3 ?_
  refine j_if_eq (tgt := 17) C dX8_rate_6 (by decide) (fun (h6 : (r_X8_in w (0 : Int32) (2 : Int32)) = (0 : Int32)) => ?_) (fun (h6 : ¬ ((r_X8_in w (0 : Int32) (2 : Int32)) = (0 : Int32))) => ?_)
  · have hq := hq.1 h6
    refine j_callSfR C g_X8_157 (c_X8_nan l D ca) ⟨Nat.le_of_ble_eq_true rfl, Nat.le_of_ble_eq_true rfl⟩ ⟨Nat.le_of_ble_eq_true rfl, Nat.le_of_ble_eq_true rfl⟩ [] rfl rfl rfl rfl (Nat.le_of_ble_eq_true rfl) dX8_rate_17 ?_
    have e9 : r_X8_rate M w = (r_X8_nan) := by rw [r_X8_rate, if_pos h6]
    exact j_fret E dX8_rate_20 (by rw [e9]; exact ⟨rfl, rfl⟩)
  · have hq := hq.2 h6
    refine j_aload_n C dX8_rate_9 rfl ?_
    refine j_iload_n C dX8_rate_10 rfl ?_
    obtain ⟨hv, hq⟩ := hq
    refine j_callVfRW C g_X8_62 (c_X8_rateOf l D ca g M w hv) 0 mW_0 hcl_X8 ⟨Nat.le_of_ble_eq_true rfl, Nat.le_of_ble_eq_true rfl⟩ ⟨Nat.le_of_ble_eq_true rfl, Nat.le_of_ble_eq_true rfl⟩ rfl rfl (Nat.le_of_ble_eq_true rfl) dX8_rate_11 ?_
    refine j_goto (tgt := 20) C dX8_rate_14 (by decide) ?_
    have e9 : r_X8_rate M w = (r_X8_rateOf M w) := by rw [r_X8_rate, if_neg h6]
    exact j_fret E dX8_rate_20 (by rw [e9]; exact ⟨rfl, rfl⟩)


def r_X8_number_ (M : jB) (w : Int32) : Int32 := (if (r_X8_in w (0 : Int32) (2 : Int32)) = (0 : Int32) then (-1 : Int32) else (M 0 ((5 : Int32) + w).toNatClampNeg))
def n_X8_number_ (M : jB) (w : Int32) : Prop := (((r_X8_in w (0 : Int32) (2 : Int32)) = (0 : Int32) → True) ∧ (¬ ((r_X8_in w (0 : Int32) (2 : Int32)) = (0 : Int32)) → (vp_in ((5 : Int32) + w) 204 ∧ True)))
set_option maxRecDepth 100000 in
set_option maxHeartbeats 4000000 in
theorem c_X8_number_ (l : Launch) (D : va_G) (ca : Nat → ClassId) (g : Nat → Nat) (M : jB) (w : Int32) (hq : n_X8_number_ M w) : jM l D ca yX8_number_ cX8_number_ 2 (some .int) 1 22 0 0 [.ref (g 0), .int w] (mW ca g M) (jD (some (.int (r_X8_number_ M w))) (mW ca g M)) := by
  refine jM_of [(0, .ref (g 0)), (1, .int w)] (by decide) (Nat.le_of_ble_eq_true rfl) rfl (fun X C E => ?_)
  rw [n_X8_number_] at hq
  refine j_iload_n C dX8_number__0 rfl ?_
  refine j_iconst C dX8_number__1 (0 : Int32) (by decide) ?_
  refine j_iconst C dX8_number__2 (2 : Int32) (by decide) ?_
  refine j_callSiR C g_X8_38 (c_X8_in l D ca w (0 : Int32) (2 : Int32)) ⟨Nat.le_of_ble_eq_true rfl, Nat.le_of_ble_eq_true rfl⟩ ⟨Nat.le_of_ble_eq_true rfl, Nat.le_of_ble_eq_true rfl⟩ [] rfl rfl rfl rfl (Nat.le_of_ble_eq_true rfl) dX8_number__3 ?_
  refine j_if_eq (tgt := 20) C dX8_number__6 (by decide) (fun (h6 : (r_X8_in w (0 : Int32) (2 : Int32)) = (0 : Int32)) => ?_) (fun (h6 : ¬ ((r_X8_in w (0 : Int32) (2 : Int32)) = (0 : Int32))) => ?_)
  · have hq := hq.1 h6
    refine j_iconst C dX8_number__20 (-1 : Int32) (by decide) ?_
    have e9 : r_X8_number_ M w = (-1 : Int32) := by rw [r_X8_number_, if_pos h6]
    exact j_iret E dX8_number__21 (by rw [e9]; exact ⟨rfl, rfl⟩)
  · have hq := hq.2 h6
    refine j_aload_n C dX8_number__9 rfl ?_
    refine j_get C f_X8_7.F 0 dX8_number__10 mW_0 rfl ?_
    refine j_iconst C dX8_number__13 (5 : Int32) (by decide) ?_
    refine j_iload_n C dX8_number__14 rfl ?_
    refine j_iadd C dX8_number__15 ?_
    obtain ⟨hv, hq⟩ := hq
    refine j_iald C 1 dX8_number__16 mW_1 hv ?_
    refine j_goto (tgt := 21) C dX8_number__17 (by decide) ?_
    have e9 : r_X8_number_ M w = (M 0 ((5 : Int32) + w).toNatClampNeg) := by rw [r_X8_number_, if_neg h6]
    exact j_iret E dX8_number__21 (by rw [e9]; exact ⟨rfl, rfl⟩)


def L_X8_invoices_6 (M : jB) (by_ : Int32) (who : Int32) (lo : Int32) (hi : Int32) : Nat → Int32 → Int32 → Int32
  | 0, _, _ => 0
  | n6 + 1, x6_5, x6_6 => (if (M 0 (9 : Int32).toNatClampNeg) ≤ x6_6 then x6_5 else (if by_ < (0 : Int32) then (if (r_X8_in (M 0 (r_X8_of x6_6 (4 : Int32)).toNatClampNeg) lo hi) = (0 : Int32) then L_X8_invoices_6 M by_ who lo hi n6 (x6_5 + (0 : Int32)) (x6_6 + (1 : Int32)) else L_X8_invoices_6 M by_ who lo hi n6 (x6_5 + (1 : Int32)) (x6_6 + (1 : Int32))) else (if (M 0 (r_X8_of x6_6 by_).toNatClampNeg) = who then (if (r_X8_in (M 0 (r_X8_of x6_6 (4 : Int32)).toNatClampNeg) lo hi) = (0 : Int32) then L_X8_invoices_6 M by_ who lo hi n6 (x6_5 + (0 : Int32)) (x6_6 + (1 : Int32)) else L_X8_invoices_6 M by_ who lo hi n6 (x6_5 + (1 : Int32)) (x6_6 + (1 : Int32))) else L_X8_invoices_6 M by_ who lo hi n6 (x6_5 + (0 : Int32)) (x6_6 + (1 : Int32)))))
def r_X8_invoices (M : jB) (by_ : Int32) (who : Int32) (lo : Int32) (hi : Int32) : Int32 := L_X8_invoices_6 M by_ who lo hi (((M 0 9).toInt - (0 : Int32).toInt).toNat + 1) (0 : Int32) (0 : Int32)
def n_X8_invoices (M : jB) (by_ : Int32) (who : Int32) (lo : Int32) (hi : Int32) : Prop := ((M 0 9 ≤ 20) ∧ ((by_ < 0 ∨ vp_in by_ 7) ∧ True))
set_option maxRecDepth 100000 in
set_option maxHeartbeats 4000000 in
theorem c_X8_invoices (l : Launch) (D : va_G) (ca : Nat → ClassId) (g : Nat → Nat) (M : jB) (by_ : Int32) (who : Int32) (lo : Int32) (hi : Int32) (hq : n_X8_invoices M by_ who lo hi) : jM l D ca yX8_invoices cX8_invoices 7 (some .int) 1 22 0 0 [.ref (g 0), .int by_, .int who, .int lo, .int hi] (mW ca g M) (jD (some (.int (r_X8_invoices M by_ who lo hi))) (mW ca g M)) := by
  refine jM_of [(0, .ref (g 0)), (1, .int by_), (2, .int who), (3, .int lo), (4, .int hi)] (by decide) (Nat.le_of_ble_eq_true rfl) rfl (fun X C E => ?_)
  rw [n_X8_invoices] at hq
  obtain ⟨hI, hq⟩ := hq
  obtain ⟨hby, hq⟩ := hq
  refine j_iconst C dX8_invoices_0 (0 : Int32) (by decide) ?_
  refine j_istore C [(5, _), (0, _), (1, _), (2, _), (3, _), (4, _)] dX8_invoices_1 (by decide) rfl ?_
  refine j_iconst C dX8_invoices_3 (0 : Int32) (by decide) ?_
  refine j_istore C [(6, _), (5, _), (0, _), (1, _), (2, _), (3, _), (4, _)] dX8_invoices_4 (by decide) rfl ?_
  have K6 : ∀ (n6 : Nat) (x6_5 : Int32) (x6_6 : Int32), ((M 0 9).toInt - x6_6.toInt).toNat < n6 → ((0 : Int32) ≤ x6_6) → r_X8_invoices M by_ who lo hi = L_X8_invoices_6 M by_ who lo hi n6 x6_5 x6_6 → J l { frames := 1, cells := 0, slots := 0, locals := 22 } D 7 X 0 0 (mW ca g M) [(0, .ref (g 0)), (1, .int by_), (2, .int who), (3, .int lo), (4, .int hi), (5, .int x6_5), (6, .int x6_6)] [] 6 := by
    intro n6
    induction n6 with
    | zero =>
      intro x6_5 x6_6 hm6
      exact absurd hm6 (Nat.not_lt_zero _)
    | succ n6 ih6 =>
      intro x6_5 x6_6 hm6 hp6 hr6
      refine j_iload C dX8_invoices_6 rfl ?_
      refine j_aload_n C dX8_invoices_8 rfl ?_
      refine j_get C f_X8_7.F 0 dX8_invoices_9 mW_0 rfl ?_
      refine j_bipush C dX8_invoices_12 (9 : Int32) (by decide) ?_
      refine j_iald C 1 dX8_invoices_14 mW_1 (vin_c rfl) ?_
      refine j_icmp_ge (tgt := 73) C dX8_invoices_15 (by decide) (fun (h15 : (M 0 (9 : Int32).toNatClampNeg) ≤ x6_6) => ?_) (fun (h15 : ¬ ((M 0 (9 : Int32).toNatClampNeg) ≤ x6_6)) => ?_)
      · refine j_iload C dX8_invoices_73 rfl ?_
        have e9 : r_X8_invoices M by_ who lo hi = x6_5 := by rw [hr6, L_X8_invoices_6, if_pos h15]
        exact j_iret E dX8_invoices_75 (by rw [e9]; exact ⟨rfl, rfl⟩)
      · refine j_iload C dX8_invoices_18 rfl ?_
        refine j_iload_n C dX8_invoices_20 rfl ?_
        refine j_if_lt (tgt := 39) C dX8_invoices_21 (by decide) (fun (h21 : by_ < (0 : Int32)) => ?_) (fun (h21 : ¬ (by_ < (0 : Int32))) => ?_)
        · refine j_aload_n C dX8_invoices_39 rfl ?_
          refine j_get C f_X8_7.F 0 dX8_invoices_40 mW_0 rfl ?_
          refine j_iload C dX8_invoices_43 rfl ?_
          refine j_iconst C dX8_invoices_45 (4 : Int32) (by decide) ?_
          refine j_callSiR C g_X8_59 (c_X8_of l D ca x6_6 (4 : Int32)) ⟨Nat.le_of_ble_eq_true rfl, Nat.le_of_ble_eq_true rfl⟩ ⟨Nat.le_of_ble_eq_true rfl, Nat.le_of_ble_eq_true rfl⟩ [] rfl rfl rfl rfl (Nat.le_of_ble_eq_true rfl) dX8_invoices_46 ?_
          refine j_iald C 1 dX8_invoices_49 mW_1 (vin_of (vin_b 20 rfl hp6 h15 hI) (vin_c rfl)) ?_
          refine j_iload_n C dX8_invoices_50 rfl ?_
          refine j_iload C dX8_invoices_51 rfl ?_
          refine j_callSiR C g_X8_38 (c_X8_in l D ca (M 0 (r_X8_of x6_6 (4 : Int32)).toNatClampNeg) lo hi) ⟨Nat.le_of_ble_eq_true rfl, Nat.le_of_ble_eq_true rfl⟩ ⟨Nat.le_of_ble_eq_true rfl, Nat.le_of_ble_eq_true rfl⟩ [] rfl rfl rfl rfl (Nat.le_of_ble_eq_true rfl) dX8_invoices_53 ?_
          refine j_if_eq (tgt := 63) C dX8_invoices_56 (by decide) (fun (h56 : (r_X8_in (M 0 (r_X8_of x6_6 (4 : Int32)).toNatClampNeg) lo hi) = (0 : Int32)) => ?_) (fun (h56 : ¬ ((r_X8_in (M 0 (r_X8_of x6_6 (4 : Int32)).toNatClampNeg) lo hi) = (0 : Int32))) => ?_)
          · refine j_iconst C dX8_invoices_63 (0 : Int32) (by decide) ?_
            refine j_iadd C dX8_invoices_64 ?_
            refine j_istore C [(5, _), (0, _), (1, _), (2, _), (3, _), (4, _), (6, _)] dX8_invoices_65 (by decide) rfl ?_
            refine j_iinc C [(6, _), (5, _), (0, _), (1, _), (2, _), (3, _), (4, _)] (v := (x6_6 + (1 : Int32))) dX8_invoices_67 rfl (iinc_1 _) (by decide) rfl ?_
            refine j_goto (tgt := 6) C dX8_invoices_70 (by decide) ?_
            refine j_lv [(0, .ref (g 0)), (1, .int by_), (2, .int who), (3, .int lo), (4, .int hi), (5, .int (x6_5 + (0 : Int32))), (6, .int (x6_6 + (1 : Int32)))] rfl ?_
            exact ih6 (x6_5 + (0 : Int32)) (x6_6 + (1 : Int32)) (jms h15 hm6) (i_pos' h15 hp6) (by rw [hr6, L_X8_invoices_6, if_neg h15, if_pos h21, if_pos h56])
          · refine j_iconst C dX8_invoices_59 (1 : Int32) (by decide) ?_
            refine j_goto (tgt := 64) C dX8_invoices_60 (by decide) ?_
            refine j_iadd C dX8_invoices_64 ?_
            refine j_istore C [(5, _), (0, _), (1, _), (2, _), (3, _), (4, _), (6, _)] dX8_invoices_65 (by decide) rfl ?_
            refine j_iinc C [(6, _), (5, _), (0, _), (1, _), (2, _), (3, _), (4, _)] (v := (x6_6 + (1 : Int32))) dX8_invoices_67 rfl (iinc_1 _) (by decide) rfl ?_
            refine j_goto (tgt := 6) C dX8_invoices_70 (by decide) ?_
            refine j_lv [(0, .ref (g 0)), (1, .int by_), (2, .int who), (3, .int lo), (4, .int hi), (5, .int (x6_5 + (1 : Int32))), (6, .int (x6_6 + (1 : Int32)))] rfl ?_
            exact ih6 (x6_5 + (1 : Int32)) (x6_6 + (1 : Int32)) (jms h15 hm6) (i_pos' h15 hp6) (by rw [hr6, L_X8_invoices_6, if_neg h15, if_pos h21, if_neg h56])
        · refine j_aload_n C dX8_invoices_24 rfl ?_
          refine j_get C f_X8_7.F 0 dX8_invoices_25 mW_0 rfl ?_
          refine j_iload C dX8_invoices_28 rfl ?_
          refine j_iload_n C dX8_invoices_30 rfl ?_
          refine j_callSiR C g_X8_59 (c_X8_of l D ca x6_6 by_) ⟨Nat.le_of_ble_eq_true rfl, Nat.le_of_ble_eq_true rfl⟩ ⟨Nat.le_of_ble_eq_true rfl, Nat.le_of_ble_eq_true rfl⟩ [] rfl rfl rfl rfl (Nat.le_of_ble_eq_true rfl) dX8_invoices_31 ?_
          refine j_iald C 1 dX8_invoices_34 mW_1 (vin_of (vin_b 20 rfl hp6 h15 hI) (hby.resolve_left h21)) ?_
          refine j_iload_n C dX8_invoices_35 rfl ?_
          refine j_icmp_ne (tgt := 63) C dX8_invoices_36 (by decide) (fun (h36 : ¬ ((M 0 (r_X8_of x6_6 by_).toNatClampNeg) = who)) => ?_) (fun (h36 : (M 0 (r_X8_of x6_6 by_).toNatClampNeg) = who) => ?_)
          · refine j_iconst C dX8_invoices_63 (0 : Int32) (by decide) ?_
            refine j_iadd C dX8_invoices_64 ?_
            refine j_istore C [(5, _), (0, _), (1, _), (2, _), (3, _), (4, _), (6, _)] dX8_invoices_65 (by decide) rfl ?_
            refine j_iinc C [(6, _), (5, _), (0, _), (1, _), (2, _), (3, _), (4, _)] (v := (x6_6 + (1 : Int32))) dX8_invoices_67 rfl (iinc_1 _) (by decide) rfl ?_
            refine j_goto (tgt := 6) C dX8_invoices_70 (by decide) ?_
            refine j_lv [(0, .ref (g 0)), (1, .int by_), (2, .int who), (3, .int lo), (4, .int hi), (5, .int (x6_5 + (0 : Int32))), (6, .int (x6_6 + (1 : Int32)))] rfl ?_
            exact ih6 (x6_5 + (0 : Int32)) (x6_6 + (1 : Int32)) (jms h15 hm6) (i_pos' h15 hp6) (by rw [hr6, L_X8_invoices_6, if_neg h15, if_neg h21, if_neg h36])
          · refine j_aload_n C dX8_invoices_39 rfl ?_
            refine j_get C f_X8_7.F 0 dX8_invoices_40 mW_0 rfl ?_
            refine j_iload C dX8_invoices_43 rfl ?_
            refine j_iconst C dX8_invoices_45 (4 : Int32) (by decide) ?_
            refine j_callSiR C g_X8_59 (c_X8_of l D ca x6_6 (4 : Int32)) ⟨Nat.le_of_ble_eq_true rfl, Nat.le_of_ble_eq_true rfl⟩ ⟨Nat.le_of_ble_eq_true rfl, Nat.le_of_ble_eq_true rfl⟩ [] rfl rfl rfl rfl (Nat.le_of_ble_eq_true rfl) dX8_invoices_46 ?_
            refine j_iald C 1 dX8_invoices_49 mW_1 (vin_of (vin_b 20 rfl hp6 h15 hI) (vin_c rfl)) ?_
            refine j_iload_n C dX8_invoices_50 rfl ?_
            refine j_iload C dX8_invoices_51 rfl ?_
            refine j_callSiR C g_X8_38 (c_X8_in l D ca (M 0 (r_X8_of x6_6 (4 : Int32)).toNatClampNeg) lo hi) ⟨Nat.le_of_ble_eq_true rfl, Nat.le_of_ble_eq_true rfl⟩ ⟨Nat.le_of_ble_eq_true rfl, Nat.le_of_ble_eq_true rfl⟩ [] rfl rfl rfl rfl (Nat.le_of_ble_eq_true rfl) dX8_invoices_53 ?_
            refine j_if_eq (tgt := 63) C dX8_invoices_56 (by decide) (fun (h56 : (r_X8_in (M 0 (r_X8_of x6_6 (4 : Int32)).toNatClampNeg) lo hi) = (0 : Int32)) => ?_) (fun (h56 : ¬ ((r_X8_in (M 0 (r_X8_of x6_6 (4 : Int32)).toNatClampNeg) lo hi) = (0 : Int32))) => ?_)
            · refine j_iconst C dX8_invoices_63 (0 : Int32) (by decide) ?_
              refine j_iadd C dX8_invoices_64 ?_
              refine j_istore C [(5, _), (0, _), (1, _), (2, _), (3, _), (4, _), (6, _)] dX8_invoices_65 (by decide) rfl ?_
              refine j_iinc C [(6, _), (5, _), (0, _), (1, _), (2, _), (3, _), (4, _)] (v := (x6_6 + (1 : Int32))) dX8_invoices_67 rfl (iinc_1 _) (by decide) rfl ?_
              refine j_goto (tgt := 6) C dX8_invoices_70 (by decide) ?_
              refine j_lv [(0, .ref (g 0)), (1, .int by_), (2, .int who), (3, .int lo), (4, .int hi), (5, .int (x6_5 + (0 : Int32))), (6, .int (x6_6 + (1 : Int32)))] rfl ?_
              exact ih6 (x6_5 + (0 : Int32)) (x6_6 + (1 : Int32)) (jms h15 hm6) (i_pos' h15 hp6) (by rw [hr6, L_X8_invoices_6, if_neg h15, if_neg h21, if_pos h36, if_pos h56])
            · refine j_iconst C dX8_invoices_59 (1 : Int32) (by decide) ?_
              refine j_goto (tgt := 64) C dX8_invoices_60 (by decide) ?_
              refine j_iadd C dX8_invoices_64 ?_
              refine j_istore C [(5, _), (0, _), (1, _), (2, _), (3, _), (4, _), (6, _)] dX8_invoices_65 (by decide) rfl ?_
              refine j_iinc C [(6, _), (5, _), (0, _), (1, _), (2, _), (3, _), (4, _)] (v := (x6_6 + (1 : Int32))) dX8_invoices_67 rfl (iinc_1 _) (by decide) rfl ?_
              refine j_goto (tgt := 6) C dX8_invoices_70 (by decide) ?_
              refine j_lv [(0, .ref (g 0)), (1, .int by_), (2, .int who), (3, .int lo), (4, .int hi), (5, .int (x6_5 + (1 : Int32))), (6, .int (x6_6 + (1 : Int32)))] rfl ?_
              exact ih6 (x6_5 + (1 : Int32)) (x6_6 + (1 : Int32)) (jms h15 hm6) (i_pos' h15 hp6) (by rw [hr6, L_X8_invoices_6, if_neg h15, if_neg h21, if_pos h36, if_neg h56])
  refine j_lv [(0, .ref (g 0)), (1, .int by_), (2, .int who), (3, .int lo), (4, .int hi), (5, .int (0 : Int32)), (6, .int (0 : Int32))] rfl ?_
  exact K6 (((M 0 9).toInt - (0 : Int32).toInt).toNat + 1) (0 : Int32) (0 : Int32) (Nat.lt_succ_self _) (by decide) (by rw [r_X8_invoices])


def r_X8_member (M : jB) (i : Int32) (w : Int32) : Int32 := (if (r_X8_isMember M i) = (0 : Int32) then (-1 : Int32) else (if w = (0 : Int32) then (M 0 (r_X8_ofMember i w).toNatClampNeg) else (if w = (1 : Int32) then (M 0 (r_X8_ofMember i w).toNatClampNeg) else (if w = (2 : Int32) then ((M 0 (r_X8_ofMember i (2 : Int32)).toNatClampNeg) + (1000000000 : Int32)) else (if w = (3 : Int32) then (r_X8_invoices M (0 : Int32) i (0 : Int32) (3 : Int32)) else (if w = (4 : Int32) then (r_X8_invoices M (0 : Int32) i (1 : Int32) (1 : Int32)) else (if w = (5 : Int32) then ((M 0 (r_X8_ofMember i (3 : Int32)).toNatClampNeg) + (1000000000 : Int32)) else (-2 : Int32))))))))
def n_X8_member (M : jB) (i : Int32) (w : Int32) : Prop := ((M 0 8 ≤ 8) ∧ (((0 : Int32) ≤ M 0 8) ∧ (((r_X8_isMember M i) = (0 : Int32) → True) ∧ (¬ ((r_X8_isMember M i) = (0 : Int32)) → ((w = (0 : Int32) → True) ∧ (¬ w = (0 : Int32) → ((w = (1 : Int32) → True) ∧ (¬ w = (1 : Int32) → ((w = (2 : Int32) → True) ∧ (¬ w = (2 : Int32) → ((w = (3 : Int32) → ((n_X8_invoices M (0 : Int32) i (0 : Int32) (3 : Int32)) ∧ True)) ∧ (¬ w = (3 : Int32) → ((w = (4 : Int32) → ((n_X8_invoices M (0 : Int32) i (1 : Int32) (1 : Int32)) ∧ True)) ∧ (¬ w = (4 : Int32) → ((w = (5 : Int32) → True) ∧ (¬ w = (5 : Int32) → True))))))))))))))))
set_option maxRecDepth 100000 in
set_option maxHeartbeats 4000000 in
theorem c_X8_member (l : Launch) (D : va_G) (ca : Nat → ClassId) (g : Nat → Nat) (M : jB) (i : Int32) (w : Int32) (hq : n_X8_member M i w) : jM l D ca yX8_member cX8_member 3 (some .int) 2 48 0 0 [.ref (g 0), .int i, .int w] (mW ca g M) (jD (some (.int (r_X8_member M i w))) (mW ca g M)) := by
  refine jM_of [(0, .ref (g 0)), (1, .int i), (2, .int w)] (by decide) (Nat.le_of_ble_eq_true rfl) rfl (fun X C E => ?_)
  rw [n_X8_member] at hq
  obtain ⟨hM, hq⟩ := hq
  obtain ⟨hm0, hq⟩ := hq
  refine j_aload_n C dX8_member_0 rfl ?_
  refine j_iload_n C dX8_member_1 rfl ?_
  refine j_callViRW C g_X8_87 (c_X8_isMember l D ca g M i) 0 mW_0 hcl_X8 ⟨Nat.le_of_ble_eq_true rfl, Nat.le_of_ble_eq_true rfl⟩ ⟨Nat.le_of_ble_eq_true rfl, Nat.le_of_ble_eq_true rfl⟩ rfl rfl (Nat.le_of_ble_eq_true rfl) dX8_member_2 ?_
  refine j_if_ne (tgt := 10) C dX8_member_5 (by decide) (fun (h5 : ¬ ((r_X8_isMember M i) = (0 : Int32))) => ?_) (fun (h5 : (r_X8_isMember M i) = (0 : Int32)) => ?_)
  · have hq := hq.2 h5
    refine j_iload_n C dX8_member_10 rfl ?_
    by_cases h11_0 : w = (0 : Int32)
    · have hq := hq.1 h11_0
      refine j_tabEq (tgt := 48) C h11_0 dX8_member_11 (by decide) (by decide) (off := 37) rfl (by decide) ?_
      refine j_aload_n C dX8_member_48 rfl ?_
      refine j_get C f_X8_7.F 0 dX8_member_49 mW_0 rfl ?_
      refine j_iload_n C dX8_member_52 rfl ?_
      refine j_iload_n C dX8_member_53 rfl ?_
      refine j_callSiR C g_X8_84 (c_X8_ofMember l D ca i w) ⟨Nat.le_of_ble_eq_true rfl, Nat.le_of_ble_eq_true rfl⟩ ⟨Nat.le_of_ble_eq_true rfl, Nat.le_of_ble_eq_true rfl⟩ [] rfl rfl rfl rfl (Nat.le_of_ble_eq_true rfl) dX8_member_54 ?_
      refine j_iald C 1 dX8_member_57 mW_1 (vin_om (isM h5 hM hm0) (by first | (rw [h11_0]; exact vin_c rfl) | (rw [h11_1]; exact vin_c rfl))) ?_
      have e9 : r_X8_member M i w = (M 0 (r_X8_ofMember i w).toNatClampNeg) := by rw [r_X8_member, if_neg h5, if_pos h11_0]
      exact j_iret E dX8_member_58 (by rw [e9]; exact ⟨rfl, rfl⟩)
    have hq := hq.2 h11_0
    by_cases h11_1 : w = (1 : Int32)
    · have hq := hq.1 h11_1
      refine j_tabEq (tgt := 48) C h11_1 dX8_member_11 (by decide) (by decide) (off := 37) rfl (by decide) ?_
      refine j_aload_n C dX8_member_48 rfl ?_
      refine j_get C f_X8_7.F 0 dX8_member_49 mW_0 rfl ?_
      refine j_iload_n C dX8_member_52 rfl ?_
      refine j_iload_n C dX8_member_53 rfl ?_
      refine j_callSiR C g_X8_84 (c_X8_ofMember l D ca i w) ⟨Nat.le_of_ble_eq_true rfl, Nat.le_of_ble_eq_true rfl⟩ ⟨Nat.le_of_ble_eq_true rfl, Nat.le_of_ble_eq_true rfl⟩ [] rfl rfl rfl rfl (Nat.le_of_ble_eq_true rfl) dX8_member_54 ?_
      refine j_iald C 1 dX8_member_57 mW_1 (vin_om (isM h5 hM hm0) (by first | (rw [h11_0]; exact vin_c rfl) | (rw [h11_1]; exact vin_c rfl))) ?_
      have e9 : r_X8_member M i w = (M 0 (r_X8_ofMember i w).toNatClampNeg) := by rw [r_X8_member, if_neg h5, if_neg h11_0, if_pos h11_1]
      exact j_iret E dX8_member_58 (by rw [e9]; exact ⟨rfl, rfl⟩)
    have hq := hq.2 h11_1
    by_cases h11_2 : w = (2 : Int32)
    · have hq := hq.1 h11_2
      refine j_tabEq (tgt := 59) C h11_2 dX8_member_11 (by decide) (by decide) (off := 48) rfl (by decide) ?_
      refine j_aload_n C dX8_member_59 rfl ?_
      refine j_get C f_X8_7.F 0 dX8_member_60 mW_0 rfl ?_
      refine j_iload_n C dX8_member_63 rfl ?_
      refine j_iconst C dX8_member_64 (2 : Int32) (by decide) ?_
      refine j_callSiR C g_X8_84 (c_X8_ofMember l D ca i (2 : Int32)) ⟨Nat.le_of_ble_eq_true rfl, Nat.le_of_ble_eq_true rfl⟩ ⟨Nat.le_of_ble_eq_true rfl, Nat.le_of_ble_eq_true rfl⟩ [] rfl rfl rfl rfl (Nat.le_of_ble_eq_true rfl) dX8_member_65 ?_
      refine j_iald C 1 dX8_member_68 mW_1 (vin_om (isM h5 hM hm0) (vin_c rfl)) ?_
      refine j_ldc C q_855 dX8_member_69 ?_
      refine j_iadd C dX8_member_71 ?_
      have e9 : r_X8_member M i w = ((M 0 (r_X8_ofMember i (2 : Int32)).toNatClampNeg) + (1000000000 : Int32)) := by rw [r_X8_member, if_neg h5, if_neg h11_0, if_neg h11_1, if_pos h11_2]
      exact j_iret E dX8_member_72 (by rw [e9]; exact ⟨rfl, rfl⟩)
    have hq := hq.2 h11_2
    by_cases h11_3 : w = (3 : Int32)
    · have hq := hq.1 h11_3
      refine j_tabEq (tgt := 73) C h11_3 dX8_member_11 (by decide) (by decide) (off := 62) rfl (by decide) ?_
      refine j_aload_n C dX8_member_73 rfl ?_
      refine j_iconst C dX8_member_74 (0 : Int32) (by decide) ?_
      refine j_iload_n C dX8_member_75 rfl ?_
      refine j_iconst C dX8_member_76 (0 : Int32) (by decide) ?_
      refine j_iconst C dX8_member_77 (3 : Int32) (by decide) ?_
      obtain ⟨hv, hq⟩ := hq
      refine j_callViRW C g_X8_162 (c_X8_invoices l D ca g M (0 : Int32) i (0 : Int32) (3 : Int32) hv) 0 mW_0 hcl_X8 ⟨Nat.le_of_ble_eq_true rfl, Nat.le_of_ble_eq_true rfl⟩ ⟨Nat.le_of_ble_eq_true rfl, Nat.le_of_ble_eq_true rfl⟩ rfl rfl (Nat.le_of_ble_eq_true rfl) dX8_member_78 ?_
      have e9 : r_X8_member M i w = (r_X8_invoices M (0 : Int32) i (0 : Int32) (3 : Int32)) := by rw [r_X8_member, if_neg h5, if_neg h11_0, if_neg h11_1, if_neg h11_2, if_pos h11_3]
      exact j_iret E dX8_member_81 (by rw [e9]; exact ⟨rfl, rfl⟩)
    have hq := hq.2 h11_3
    by_cases h11_4 : w = (4 : Int32)
    · have hq := hq.1 h11_4
      refine j_tabEq (tgt := 82) C h11_4 dX8_member_11 (by decide) (by decide) (off := 71) rfl (by decide) ?_
      refine j_aload_n C dX8_member_82 rfl ?_
      refine j_iconst C dX8_member_83 (0 : Int32) (by decide) ?_
      refine j_iload_n C dX8_member_84 rfl ?_
      refine j_iconst C dX8_member_85 (1 : Int32) (by decide) ?_
      refine j_iconst C dX8_member_86 (1 : Int32) (by decide) ?_
      obtain ⟨hv, hq⟩ := hq
      refine j_callViRW C g_X8_162 (c_X8_invoices l D ca g M (0 : Int32) i (1 : Int32) (1 : Int32) hv) 0 mW_0 hcl_X8 ⟨Nat.le_of_ble_eq_true rfl, Nat.le_of_ble_eq_true rfl⟩ ⟨Nat.le_of_ble_eq_true rfl, Nat.le_of_ble_eq_true rfl⟩ rfl rfl (Nat.le_of_ble_eq_true rfl) dX8_member_87 ?_
      have e9 : r_X8_member M i w = (r_X8_invoices M (0 : Int32) i (1 : Int32) (1 : Int32)) := by rw [r_X8_member, if_neg h5, if_neg h11_0, if_neg h11_1, if_neg h11_2, if_neg h11_3, if_pos h11_4]
      exact j_iret E dX8_member_90 (by rw [e9]; exact ⟨rfl, rfl⟩)
    have hq := hq.2 h11_4
    by_cases h11_5 : w = (5 : Int32)
    · have hq := hq.1 h11_5
      refine j_tabEq (tgt := 91) C h11_5 dX8_member_11 (by decide) (by decide) (off := 80) rfl (by decide) ?_
      refine j_aload_n C dX8_member_91 rfl ?_
      refine j_get C f_X8_7.F 0 dX8_member_92 mW_0 rfl ?_
      refine j_iload_n C dX8_member_95 rfl ?_
      refine j_iconst C dX8_member_96 (3 : Int32) (by decide) ?_
      refine j_callSiR C g_X8_84 (c_X8_ofMember l D ca i (3 : Int32)) ⟨Nat.le_of_ble_eq_true rfl, Nat.le_of_ble_eq_true rfl⟩ ⟨Nat.le_of_ble_eq_true rfl, Nat.le_of_ble_eq_true rfl⟩ [] rfl rfl rfl rfl (Nat.le_of_ble_eq_true rfl) dX8_member_97 ?_
      refine j_iald C 1 dX8_member_100 mW_1 (vin_om (isM h5 hM hm0) (vin_c rfl)) ?_
      refine j_ldc C q_855 dX8_member_101 ?_
      refine j_iadd C dX8_member_103 ?_
      have e9 : r_X8_member M i w = ((M 0 (r_X8_ofMember i (3 : Int32)).toNatClampNeg) + (1000000000 : Int32)) := by rw [r_X8_member, if_neg h5, if_neg h11_0, if_neg h11_1, if_neg h11_2, if_neg h11_3, if_neg h11_4, if_pos h11_5]
      exact j_iret E dX8_member_104 (by rw [e9]; exact ⟨rfl, rfl⟩)
    have hq := hq.2 h11_5
    refine j_tabOut (tgt := 105) C dX8_member_11 (by have e0 := tab_ne h11_0 0 rfl; have e1 := tab_ne h11_1 1 rfl; have e2 := tab_ne h11_2 2 rfl; have e3 := tab_ne h11_3 3 rfl; have e4 := tab_ne h11_4 4 rfl; have e5 := tab_ne h11_5 5 rfl; omega) (by decide) ?_
    refine j_bipush C dX8_member_105 (-2 : Int32) (by decide) ?_
    have e9 : r_X8_member M i w = (-2 : Int32) := by rw [r_X8_member, if_neg h5, if_neg h11_0, if_neg h11_1, if_neg h11_2, if_neg h11_3, if_neg h11_4, if_neg h11_5]
    exact j_iret E dX8_member_107 (by rw [e9]; exact ⟨rfl, rfl⟩)
  · have hq := hq.1 h5
    refine j_iconst C dX8_member_8 (-1 : Int32) (by decide) ?_
    have e9 : r_X8_member M i w = (-1 : Int32) := by rw [r_X8_member, if_pos h5]
    exact j_iret E dX8_member_9 (by rw [e9]; exact ⟨rfl, rfl⟩)


def r_X8_client (M : jB) (i : Int32) (w : Int32) : Int32 := (if (r_X8_isClient i) = (0 : Int32) then (-1 : Int32) else (if (r_X8_in w (0 : Int32) (3 : Int32)) = (0 : Int32) then (-2 : Int32) else (if w = (3 : Int32) then (r_X8_invoices M (1 : Int32) i (0 : Int32) (1 : Int32)) else (M 0 (r_X8_ofClient i w).toNatClampNeg))))
def n_X8_client (M : jB) (i : Int32) (w : Int32) : Prop := (((r_X8_isClient i) = (0 : Int32) → True) ∧ (¬ ((r_X8_isClient i) = (0 : Int32)) → (((r_X8_in w (0 : Int32) (3 : Int32)) = (0 : Int32) → True) ∧ (¬ ((r_X8_in w (0 : Int32) (3 : Int32)) = (0 : Int32)) → ((w = (3 : Int32) → ((n_X8_invoices M (1 : Int32) i (0 : Int32) (1 : Int32)) ∧ True)) ∧ (¬ (w = (3 : Int32)) → (vp_in (r_X8_ofClient i w) 204 ∧ True)))))))
set_option maxRecDepth 100000 in
set_option maxHeartbeats 4000000 in
theorem c_X8_client (l : Launch) (D : va_G) (ca : Nat → ClassId) (g : Nat → Nat) (M : jB) (i : Int32) (w : Int32) (hq : n_X8_client M i w) : jM l D ca yX8_client cX8_client 3 (some .int) 2 48 0 0 [.ref (g 0), .int i, .int w] (mW ca g M) (jD (some (.int (r_X8_client M i w))) (mW ca g M)) := by
  refine jM_of [(0, .ref (g 0)), (1, .int i), (2, .int w)] (by decide) (Nat.le_of_ble_eq_true rfl) rfl (fun X C E => ?_)
  rw [n_X8_client] at hq
  refine j_iload_n C dX8_client_0 rfl ?_
  refine j_callSiR C g_X8_93 (c_X8_isClient l D ca i) ⟨Nat.le_of_ble_eq_true rfl, Nat.le_of_ble_eq_true rfl⟩ ⟨Nat.le_of_ble_eq_true rfl, Nat.le_of_ble_eq_true rfl⟩ [] rfl rfl rfl rfl (Nat.le_of_ble_eq_true rfl) dX8_client_1 ?_
  refine j_if_ne (tgt := 9) C dX8_client_4 (by decide) (fun (h4 : ¬ ((r_X8_isClient i) = (0 : Int32))) => ?_) (fun (h4 : (r_X8_isClient i) = (0 : Int32)) => ?_)
  · have hq := hq.2 h4
    refine j_iload_n C dX8_client_9 rfl ?_
    refine j_iconst C dX8_client_10 (0 : Int32) (by decide) ?_
    refine j_iconst C dX8_client_11 (3 : Int32) (by decide) ?_
    refine j_callSiR C g_X8_38 (c_X8_in l D ca w (0 : Int32) (3 : Int32)) ⟨Nat.le_of_ble_eq_true rfl, Nat.le_of_ble_eq_true rfl⟩ ⟨Nat.le_of_ble_eq_true rfl, Nat.le_of_ble_eq_true rfl⟩ [] rfl rfl rfl rfl (Nat.le_of_ble_eq_true rfl) dX8_client_12 ?_
    refine j_if_ne (tgt := 23) C dX8_client_15 (by decide) (fun (h15 : ¬ ((r_X8_in w (0 : Int32) (3 : Int32)) = (0 : Int32))) => ?_) (fun (h15 : (r_X8_in w (0 : Int32) (3 : Int32)) = (0 : Int32)) => ?_)
    · have hq := hq.2 h15
      refine j_iload_n C dX8_client_23 rfl ?_
      refine j_iconst C dX8_client_24 (3 : Int32) (by decide) ?_
      refine j_icmp_ne (tgt := 39) C dX8_client_25 (by decide) (fun (h25 : ¬ (w = (3 : Int32))) => ?_) (fun (h25 : w = (3 : Int32)) => ?_)
      · have hq := hq.2 h25
        refine j_aload_n C dX8_client_39 rfl ?_
        refine j_get C f_X8_7.F 0 dX8_client_40 mW_0 rfl ?_
        refine j_iload_n C dX8_client_43 rfl ?_
        refine j_iload_n C dX8_client_44 rfl ?_
        refine j_callSiR C g_X8_55 (c_X8_ofClient l D ca i w) ⟨Nat.le_of_ble_eq_true rfl, Nat.le_of_ble_eq_true rfl⟩ ⟨Nat.le_of_ble_eq_true rfl, Nat.le_of_ble_eq_true rfl⟩ [] rfl rfl rfl rfl (Nat.le_of_ble_eq_true rfl) dX8_client_45 ?_
        obtain ⟨hv, hq⟩ := hq
        refine j_iald C 1 dX8_client_48 mW_1 hv ?_
        have e9 : r_X8_client M i w = (M 0 (r_X8_ofClient i w).toNatClampNeg) := by rw [r_X8_client, if_neg h4, if_neg h15, if_neg h25]
        exact j_iret E dX8_client_49 (by rw [e9]; exact ⟨rfl, rfl⟩)
      · have hq := hq.1 h25
        refine j_aload_n C dX8_client_28 rfl ?_
        refine j_iconst C dX8_client_29 (1 : Int32) (by decide) ?_
        refine j_iload_n C dX8_client_30 rfl ?_
        refine j_iconst C dX8_client_31 (0 : Int32) (by decide) ?_
        refine j_iconst C dX8_client_32 (1 : Int32) (by decide) ?_
        obtain ⟨hv, hq⟩ := hq
        refine j_callViRW C g_X8_162 (c_X8_invoices l D ca g M (1 : Int32) i (0 : Int32) (1 : Int32) hv) 0 mW_0 hcl_X8 ⟨Nat.le_of_ble_eq_true rfl, Nat.le_of_ble_eq_true rfl⟩ ⟨Nat.le_of_ble_eq_true rfl, Nat.le_of_ble_eq_true rfl⟩ rfl rfl (Nat.le_of_ble_eq_true rfl) dX8_client_33 ?_
        refine j_goto (tgt := 49) C dX8_client_36 (by decide) ?_
        have e9 : r_X8_client M i w = (r_X8_invoices M (1 : Int32) i (0 : Int32) (1 : Int32)) := by rw [r_X8_client, if_neg h4, if_neg h15, if_pos h25]
        exact j_iret E dX8_client_49 (by rw [e9]; exact ⟨rfl, rfl⟩)
    · have hq := hq.1 h15
      refine j_bipush C dX8_client_18 (-2 : Int32) (by decide) ?_
      refine j_goto (tgt := 49) C dX8_client_20 (by decide) ?_
      have e9 : r_X8_client M i w = (-2 : Int32) := by rw [r_X8_client, if_neg h4, if_pos h15]
      exact j_iret E dX8_client_49 (by rw [e9]; exact ⟨rfl, rfl⟩)
  · have hq := hq.1 h4
    refine j_iconst C dX8_client_7 (-1 : Int32) (by decide) ?_
    have e9 : r_X8_client M i w = (-1 : Int32) := by rw [r_X8_client, if_pos h4]
    exact j_iret E dX8_client_8 (by rw [e9]; exact ⟨rfl, rfl⟩)


def r_X8_risk (M : jB) (i : Int32) : UInt32 := (if (r_X8_isClient i) = (0 : Int32) then (r_X8_nan) else (r_X8_riskOf M i))
def n_X8_risk (M : jB) (i : Int32) : Prop := (((r_X8_isClient i) = (0 : Int32) → True) ∧ (¬ ((r_X8_isClient i) = (0 : Int32)) → ((n_X8_riskOf M i) ∧ True)))
set_option maxRecDepth 100000 in
set_option maxHeartbeats 4000000 in
theorem c_X8_risk (l : Launch) (D : va_G) (ca : Nat → ClassId) (g : Nat → Nat) (M : jB) (i : Int32) (hq : n_X8_risk M i) : jM l D ca yX8_risk cX8_risk 2 (Option.some FieldType.float) 2 43 0 0 [.ref (g 0), .int i] (mW ca g M) (jD (some (.float (r_X8_risk M i))) (mW ca g M)) := by
  refine jM_of [(0, .ref (g 0)), (1, .int i)] (by decide) (Nat.le_of_ble_eq_true rfl) rfl (fun X C E => ?_)
  rw [n_X8_risk] at hq
  refine j_iload_n C dX8_risk_0 rfl ?_
  refine j_callSiR C g_X8_93 (c_X8_isClient l D ca i) ⟨Nat.le_of_ble_eq_true rfl, Nat.le_of_ble_eq_true rfl⟩ ⟨Nat.le_of_ble_eq_true rfl, Nat.le_of_ble_eq_true rfl⟩ [] rfl rfl rfl rfl (Nat.le_of_ble_eq_true rfl) dX8_risk_1 ?_
  refine j_if_eq (tgt := 15) C dX8_risk_4 (by decide) (fun (h4 : (r_X8_isClient i) = (0 : Int32)) => ?_) (fun (h4 : ¬ ((r_X8_isClient i) = (0 : Int32))) => ?_)
  · have hq := hq.1 h4
    refine j_callSfR C g_X8_157 (c_X8_nan l D ca) ⟨Nat.le_of_ble_eq_true rfl, Nat.le_of_ble_eq_true rfl⟩ ⟨Nat.le_of_ble_eq_true rfl, Nat.le_of_ble_eq_true rfl⟩ [] rfl rfl rfl rfl (Nat.le_of_ble_eq_true rfl) dX8_risk_15 ?_
    have e9 : r_X8_risk M i = (r_X8_nan) := by rw [r_X8_risk, if_pos h4]
    exact j_fret E dX8_risk_18 (by rw [e9]; exact ⟨rfl, rfl⟩)
  · have hq := hq.2 h4
    refine j_aload_n C dX8_risk_7 rfl ?_
    refine j_iload_n C dX8_risk_8 rfl ?_
    obtain ⟨hv, hq⟩ := hq
    refine j_callVfRW C g_X8_68 (c_X8_riskOf l D ca g M i hv) 0 mW_0 hcl_X8 ⟨Nat.le_of_ble_eq_true rfl, Nat.le_of_ble_eq_true rfl⟩ ⟨Nat.le_of_ble_eq_true rfl, Nat.le_of_ble_eq_true rfl⟩ rfl rfl (Nat.le_of_ble_eq_true rfl) dX8_risk_9 ?_
    refine j_goto (tgt := 18) C dX8_risk_12 (by decide) ?_
    have e9 : r_X8_risk M i = (r_X8_riskOf M i) := by rw [r_X8_risk, if_neg h4]
    exact j_fret E dX8_risk_18 (by rw [e9]; exact ⟨rfl, rfl⟩)


def r_X8_lateness (M : jB) (i : Int32) : UInt32 := (if (r_X8_isClient i) = (0 : Int32) then (r_X8_nan) else (if (M 0 (r_X8_ofClient i (0 : Int32)).toNatClampNeg) = (0 : Int32) then (0x00000000 : UInt32) else (FP.fdiv (FP.i2f (M 0 (r_X8_ofClient i (2 : Int32)).toNatClampNeg)) (FP.i2f (M 0 (r_X8_ofClient i (0 : Int32)).toNatClampNeg)))))
def n_X8_lateness (M : jB) (i : Int32) : Prop := (((r_X8_isClient i) = (0 : Int32) → True) ∧ (¬ ((r_X8_isClient i) = (0 : Int32)) → (((M 0 (r_X8_ofClient i (0 : Int32)).toNatClampNeg) = (0 : Int32) → True) ∧ (¬ ((M 0 (r_X8_ofClient i (0 : Int32)).toNatClampNeg) = (0 : Int32)) → (vf_n32 (FP.fdiv (FP.i2f (M 0 (r_X8_ofClient i (2 : Int32)).toNatClampNeg)) (FP.i2f (M 0 (r_X8_ofClient i (0 : Int32)).toNatClampNeg))) ∧ True)))))
set_option maxRecDepth 100000 in
set_option maxHeartbeats 4000000 in
theorem c_X8_lateness (l : Launch) (D : va_G) (ca : Nat → ClassId) (g : Nat → Nat) (M : jB) (i : Int32) (hq : n_X8_lateness M i) : jM l D ca yX8_lateness cX8_lateness 3 (Option.some FieldType.float) 2 42 0 0 [.ref (g 0), .int i] (mW ca g M) (jD (some (.float (r_X8_lateness M i))) (mW ca g M)) := by
  refine jM_of [(0, .ref (g 0)), (1, .int i)] (by decide) (Nat.le_of_ble_eq_true rfl) rfl (fun X C E => ?_)
  rw [n_X8_lateness] at hq
  refine j_iload_n C dX8_lateness_0 rfl ?_
  refine j_callSiR C g_X8_93 (c_X8_isClient l D ca i) ⟨Nat.le_of_ble_eq_true rfl, Nat.le_of_ble_eq_true rfl⟩ ⟨Nat.le_of_ble_eq_true rfl, Nat.le_of_ble_eq_true rfl⟩ [] rfl rfl rfl rfl (Nat.le_of_ble_eq_true rfl) dX8_lateness_1 ?_
  refine j_if_ne (tgt := 11) C dX8_lateness_4 (by decide) (fun (h4 : ¬ ((r_X8_isClient i) = (0 : Int32))) => ?_) (fun (h4 : (r_X8_isClient i) = (0 : Int32)) => ?_)
  · have hq := hq.2 h4
    refine j_aload_n C dX8_lateness_11 rfl ?_
    refine j_get C f_X8_7.F 0 dX8_lateness_12 mW_0 rfl ?_
    refine j_iload_n C dX8_lateness_15 rfl ?_
    refine j_iconst C dX8_lateness_16 (0 : Int32) (by decide) ?_
    refine j_callSiR C g_X8_55 (c_X8_ofClient l D ca i (0 : Int32)) ⟨Nat.le_of_ble_eq_true rfl, Nat.le_of_ble_eq_true rfl⟩ ⟨Nat.le_of_ble_eq_true rfl, Nat.le_of_ble_eq_true rfl⟩ [] rfl rfl rfl rfl (Nat.le_of_ble_eq_true rfl) dX8_lateness_17 ?_
    refine j_iald C 1 dX8_lateness_20 mW_1 (vin_oc (isC h4) (vin_c rfl)) ?_
    refine j_istore_n C [(2, _), (0, _), (1, _)] dX8_lateness_21 (by decide) rfl ?_
    refine j_iload_n C dX8_lateness_22 rfl ?_
    refine j_if_ne (tgt := 30) C dX8_lateness_23 (by decide) (fun (h23 : ¬ ((M 0 (r_X8_ofClient i (0 : Int32)).toNatClampNeg) = (0 : Int32))) => ?_) (fun (h23 : (M 0 (r_X8_ofClient i (0 : Int32)).toNatClampNeg) = (0 : Int32)) => ?_)
    · have hq := hq.2 h23
      refine j_aload_n C dX8_lateness_30 rfl ?_
      refine j_get C f_X8_7.F 0 dX8_lateness_31 mW_0 rfl ?_
      refine j_iload_n C dX8_lateness_34 rfl ?_
      refine j_iconst C dX8_lateness_35 (2 : Int32) (by decide) ?_
      refine j_callSiR C g_X8_55 (c_X8_ofClient l D ca i (2 : Int32)) ⟨Nat.le_of_ble_eq_true rfl, Nat.le_of_ble_eq_true rfl⟩ ⟨Nat.le_of_ble_eq_true rfl, Nat.le_of_ble_eq_true rfl⟩ [] rfl rfl rfl rfl (Nat.le_of_ble_eq_true rfl) dX8_lateness_36 ?_
      refine j_iald C 1 dX8_lateness_39 mW_1 (vin_oc (isC h4) (vin_c rfl)) ?_
      refine j_i2f C dX8_lateness_40 ?_
      refine j_iload_n C dX8_lateness_41 rfl ?_
      refine j_i2f C dX8_lateness_42 ?_
      obtain ⟨hv, hq⟩ := hq
      refine j_fdiv C dX8_lateness_43 hv ?_
      have e9 : r_X8_lateness M i = (FP.fdiv (FP.i2f (M 0 (r_X8_ofClient i (2 : Int32)).toNatClampNeg)) (FP.i2f (M 0 (r_X8_ofClient i (0 : Int32)).toNatClampNeg))) := by rw [r_X8_lateness, if_neg h4, if_neg h23]
      exact j_fret E dX8_lateness_44 (by rw [e9]; exact ⟨rfl, rfl⟩)
    · have hq := hq.1 h23
      refine j_fconst0 C dX8_lateness_26 ?_
      refine j_goto (tgt := 44) C dX8_lateness_27 (by decide) ?_
      have e9 : r_X8_lateness M i = (0x00000000 : UInt32) := by rw [r_X8_lateness, if_neg h4, if_pos h23]
      exact j_fret E dX8_lateness_44 (by rw [e9]; exact ⟨rfl, rfl⟩)
  · have hq := hq.1 h4
    refine j_callSfR C g_X8_157 (c_X8_nan l D ca) ⟨Nat.le_of_ble_eq_true rfl, Nat.le_of_ble_eq_true rfl⟩ ⟨Nat.le_of_ble_eq_true rfl, Nat.le_of_ble_eq_true rfl⟩ [] rfl rfl rfl rfl (Nat.le_of_ble_eq_true rfl) dX8_lateness_7 ?_
    have e9 : r_X8_lateness M i = (r_X8_nan) := by rw [r_X8_lateness, if_pos h4]
    exact j_fret E dX8_lateness_10 (by rw [e9]; exact ⟨rfl, rfl⟩)


def r_X8_invoice (M : jB) (i : Int32) (w : Int32) : Int32 := (if (r_X8_isInvoice M i) = (0 : Int32) then (-1 : Int32) else (if w = (7 : Int32) then (((M 0 (0 : Int32).toNatClampNeg) - (M 0 (r_X8_of i (3 : Int32)).toNatClampNeg)) + (100000 : Int32)) else (if w = (8 : Int32) then (r_X8_offerBehind M i (0 : Int32)) else (if w = (9 : Int32) then (if (r_X8_mayAhead M i) = (0 : Int32) then (0 : Int32) else (1 : Int32)) else (if w = (10 : Int32) then (if (r_X8_mayGiveUp M i) = (0 : Int32) then (0 : Int32) else (1 : Int32)) else (if (r_X8_in w (0 : Int32) (6 : Int32)) = (0 : Int32) then (-2 : Int32) else (M 0 (r_X8_of i w).toNatClampNeg)))))))
def n_X8_invoice (M : jB) (i : Int32) (w : Int32) : Prop := ((M 0 9 ≤ 20) ∧ (((0 : Int32) ≤ M 0 9) ∧ (((r_X8_isInvoice M i) = (0 : Int32) → True) ∧ (¬ ((r_X8_isInvoice M i) = (0 : Int32)) → ((w = (7 : Int32) → True) ∧ (¬ w = (7 : Int32) → ((w = (8 : Int32) → ((n_X8_offerBehind M i (0 : Int32)) ∧ True)) ∧ (¬ w = (8 : Int32) → ((w = (9 : Int32) → ((n_X8_mayAhead M i) ∧ (((r_X8_mayAhead M i) = (0 : Int32) → True) ∧ (¬ ((r_X8_mayAhead M i) = (0 : Int32)) → True)))) ∧ (¬ w = (9 : Int32) → ((w = (10 : Int32) → ((n_X8_mayGiveUp M i) ∧ (((r_X8_mayGiveUp M i) = (0 : Int32) → True) ∧ (¬ ((r_X8_mayGiveUp M i) = (0 : Int32)) → True)))) ∧ (¬ w = (10 : Int32) → (((r_X8_in w (0 : Int32) (6 : Int32)) = (0 : Int32) → True) ∧ (¬ ((r_X8_in w (0 : Int32) (6 : Int32)) = (0 : Int32)) → (vp_in (r_X8_of i w) 204 ∧ True)))))))))))))))
set_option maxRecDepth 100000 in
set_option maxHeartbeats 4000000 in
theorem c_X8_invoice (l : Launch) (D : va_G) (ca : Nat → ClassId) (g : Nat → Nat) (M : jB) (i : Int32) (w : Int32) (hq : n_X8_invoice M i w) : jM l D ca yX8_invoice cX8_invoice 3 (some .int) 5 113 0 0 [.ref (g 0), .int i, .int w] (mW ca g M) (jD (some (.int (r_X8_invoice M i w))) (mW ca g M)) := by
  refine jM_of [(0, .ref (g 0)), (1, .int i), (2, .int w)] (by decide) (Nat.le_of_ble_eq_true rfl) rfl (fun X C E => ?_)
  rw [n_X8_invoice] at hq
  obtain ⟨hI, hq⟩ := hq
  obtain ⟨hi0, hq⟩ := hq
  refine j_aload_n C dX8_invoice_0 rfl ?_
  refine j_iload_n C dX8_invoice_1 rfl ?_
  refine j_callViRW C g_X8_105 (c_X8_isInvoice l D ca g M i) 0 mW_0 hcl_X8 ⟨Nat.le_of_ble_eq_true rfl, Nat.le_of_ble_eq_true rfl⟩ ⟨Nat.le_of_ble_eq_true rfl, Nat.le_of_ble_eq_true rfl⟩ rfl rfl (Nat.le_of_ble_eq_true rfl) dX8_invoice_2 ?_
  refine j_if_ne (tgt := 10) C dX8_invoice_5 (by decide) (fun (h5 : ¬ ((r_X8_isInvoice M i) = (0 : Int32))) => ?_) (fun (h5 : (r_X8_isInvoice M i) = (0 : Int32)) => ?_)
  · have hq := hq.2 h5
    refine j_iload_n C dX8_invoice_10 rfl ?_
    by_cases h11_0 : w = (7 : Int32)
    · have hq := hq.1 h11_0
      refine j_tabEq (tgt := 40) C h11_0 dX8_invoice_11 (by decide) (by decide) (off := 29) rfl (by decide) ?_
      refine j_aload_n C dX8_invoice_40 rfl ?_
      refine j_get C f_X8_7.F 0 dX8_invoice_41 mW_0 rfl ?_
      refine j_iconst C dX8_invoice_44 (0 : Int32) (by decide) ?_
      refine j_iald C 1 dX8_invoice_45 mW_1 (vin_c rfl) ?_
      refine j_aload_n C dX8_invoice_46 rfl ?_
      refine j_get C f_X8_7.F 0 dX8_invoice_47 mW_0 rfl ?_
      refine j_iload_n C dX8_invoice_50 rfl ?_
      refine j_iconst C dX8_invoice_51 (3 : Int32) (by decide) ?_
      refine j_callSiR C g_X8_59 (c_X8_of l D ca i (3 : Int32)) ⟨Nat.le_of_ble_eq_true rfl, Nat.le_of_ble_eq_true rfl⟩ ⟨Nat.le_of_ble_eq_true rfl, Nat.le_of_ble_eq_true rfl⟩ [] rfl rfl rfl rfl (Nat.le_of_ble_eq_true rfl) dX8_invoice_52 ?_
      refine j_iald C 1 dX8_invoice_55 mW_1 (vin_of (isI h5 hI hi0) (vin_c rfl)) ?_
      refine j_isub C dX8_invoice_56 ?_
      refine j_ldc C q_876 dX8_invoice_57 ?_
      refine j_iadd C dX8_invoice_59 ?_
      have e9 : r_X8_invoice M i w = (((M 0 (0 : Int32).toNatClampNeg) - (M 0 (r_X8_of i (3 : Int32)).toNatClampNeg)) + (100000 : Int32)) := by rw [r_X8_invoice, if_neg h5, if_pos h11_0]
      exact j_iret E dX8_invoice_60 (by rw [e9]; exact ⟨rfl, rfl⟩)
    have hq := hq.2 h11_0
    by_cases h11_1 : w = (8 : Int32)
    · have hq := hq.1 h11_1
      refine j_tabEq (tgt := 61) C h11_1 dX8_invoice_11 (by decide) (by decide) (off := 50) rfl (by decide) ?_
      refine j_aload_n C dX8_invoice_61 rfl ?_
      refine j_iload_n C dX8_invoice_62 rfl ?_
      refine j_iconst C dX8_invoice_63 (0 : Int32) (by decide) ?_
      obtain ⟨hv, hq⟩ := hq
      refine j_callViRW C g_X8_75 (c_X8_offerBehind l D ca g M i (0 : Int32) hv) 0 mW_0 hcl_X8 ⟨Nat.le_of_ble_eq_true rfl, Nat.le_of_ble_eq_true rfl⟩ ⟨Nat.le_of_ble_eq_true rfl, Nat.le_of_ble_eq_true rfl⟩ rfl rfl (Nat.le_of_ble_eq_true rfl) dX8_invoice_64 ?_
      have e9 : r_X8_invoice M i w = (r_X8_offerBehind M i (0 : Int32)) := by rw [r_X8_invoice, if_neg h5, if_neg h11_0, if_pos h11_1]
      exact j_iret E dX8_invoice_67 (by rw [e9]; exact ⟨rfl, rfl⟩)
    have hq := hq.2 h11_1
    by_cases h11_2 : w = (9 : Int32)
    · have hq := hq.1 h11_2
      refine j_tabEq (tgt := 68) C h11_2 dX8_invoice_11 (by decide) (by decide) (off := 57) rfl (by decide) ?_
      refine j_aload_n C dX8_invoice_68 rfl ?_
      refine j_iload_n C dX8_invoice_69 rfl ?_
      obtain ⟨hv, hq⟩ := hq
      refine j_callViRW C g_X8_108 (c_X8_mayAhead l D ca g M i hv) 0 mW_0 hcl_X8 ⟨Nat.le_of_ble_eq_true rfl, Nat.le_of_ble_eq_true rfl⟩ ⟨Nat.le_of_ble_eq_true rfl, Nat.le_of_ble_eq_true rfl⟩ rfl rfl (Nat.le_of_ble_eq_true rfl) dX8_invoice_70 ?_
      refine j_if_eq (tgt := 80) C dX8_invoice_73 (by decide) (fun (h73 : (r_X8_mayAhead M i) = (0 : Int32)) => ?_) (fun (h73 : ¬ ((r_X8_mayAhead M i) = (0 : Int32))) => ?_)
      · have hq := hq.1 h73
        refine j_iconst C dX8_invoice_80 (0 : Int32) (by decide) ?_
        have e9 : r_X8_invoice M i w = (0 : Int32) := by rw [r_X8_invoice, if_neg h5, if_neg h11_0, if_neg h11_1, if_pos h11_2, if_pos h73]
        exact j_iret E dX8_invoice_81 (by rw [e9]; exact ⟨rfl, rfl⟩)
      · have hq := hq.2 h73
        refine j_iconst C dX8_invoice_76 (1 : Int32) (by decide) ?_
        refine j_goto (tgt := 81) C dX8_invoice_77 (by decide) ?_
        have e9 : r_X8_invoice M i w = (1 : Int32) := by rw [r_X8_invoice, if_neg h5, if_neg h11_0, if_neg h11_1, if_pos h11_2, if_neg h73]
        exact j_iret E dX8_invoice_81 (by rw [e9]; exact ⟨rfl, rfl⟩)
    have hq := hq.2 h11_2
    by_cases h11_3 : w = (10 : Int32)
    · have hq := hq.1 h11_3
      refine j_tabEq (tgt := 82) C h11_3 dX8_invoice_11 (by decide) (by decide) (off := 71) rfl (by decide) ?_
      refine j_aload_n C dX8_invoice_82 rfl ?_
      refine j_iload_n C dX8_invoice_83 rfl ?_
      obtain ⟨hv, hq⟩ := hq
      refine j_callViRW C g_X8_117 (c_X8_mayGiveUp l D ca g M i hv) 0 mW_0 hcl_X8 ⟨Nat.le_of_ble_eq_true rfl, Nat.le_of_ble_eq_true rfl⟩ ⟨Nat.le_of_ble_eq_true rfl, Nat.le_of_ble_eq_true rfl⟩ rfl rfl (Nat.le_of_ble_eq_true rfl) dX8_invoice_84 ?_
      refine j_if_eq (tgt := 94) C dX8_invoice_87 (by decide) (fun (h87 : (r_X8_mayGiveUp M i) = (0 : Int32)) => ?_) (fun (h87 : ¬ ((r_X8_mayGiveUp M i) = (0 : Int32))) => ?_)
      · have hq := hq.1 h87
        refine j_iconst C dX8_invoice_94 (0 : Int32) (by decide) ?_
        have e9 : r_X8_invoice M i w = (0 : Int32) := by rw [r_X8_invoice, if_neg h5, if_neg h11_0, if_neg h11_1, if_neg h11_2, if_pos h11_3, if_pos h87]
        exact j_iret E dX8_invoice_95 (by rw [e9]; exact ⟨rfl, rfl⟩)
      · have hq := hq.2 h87
        refine j_iconst C dX8_invoice_90 (1 : Int32) (by decide) ?_
        refine j_goto (tgt := 95) C dX8_invoice_91 (by decide) ?_
        have e9 : r_X8_invoice M i w = (1 : Int32) := by rw [r_X8_invoice, if_neg h5, if_neg h11_0, if_neg h11_1, if_neg h11_2, if_pos h11_3, if_neg h87]
        exact j_iret E dX8_invoice_95 (by rw [e9]; exact ⟨rfl, rfl⟩)
    have hq := hq.2 h11_3
    refine j_tabOut (tgt := 96) C dX8_invoice_11 (by have e0 := tab_ne h11_0 7 rfl; have e1 := tab_ne h11_1 8 rfl; have e2 := tab_ne h11_2 9 rfl; have e3 := tab_ne h11_3 10 rfl; omega) (by decide) ?_
    refine j_iload_n C dX8_invoice_96 rfl ?_
    refine j_iconst C dX8_invoice_97 (0 : Int32) (by decide) ?_
    refine j_bipush C dX8_invoice_98 (6 : Int32) (by decide) ?_
    refine j_callSiR C g_X8_38 (c_X8_in l D ca w (0 : Int32) (6 : Int32)) ⟨Nat.le_of_ble_eq_true rfl, Nat.le_of_ble_eq_true rfl⟩ ⟨Nat.le_of_ble_eq_true rfl, Nat.le_of_ble_eq_true rfl⟩ [] rfl rfl rfl rfl (Nat.le_of_ble_eq_true rfl) dX8_invoice_100 ?_
    refine j_if_eq (tgt := 119) C dX8_invoice_103 (by decide) (fun (h103 : (r_X8_in w (0 : Int32) (6 : Int32)) = (0 : Int32)) => ?_) (fun (h103 : ¬ ((r_X8_in w (0 : Int32) (6 : Int32)) = (0 : Int32))) => ?_)
    · have hq := hq.1 h103
      refine j_bipush C dX8_invoice_119 (-2 : Int32) (by decide) ?_
      have e9 : r_X8_invoice M i w = (-2 : Int32) := by rw [r_X8_invoice, if_neg h5, if_neg h11_0, if_neg h11_1, if_neg h11_2, if_neg h11_3, if_pos h103]
      exact j_iret E dX8_invoice_121 (by rw [e9]; exact ⟨rfl, rfl⟩)
    · have hq := hq.2 h103
      refine j_aload_n C dX8_invoice_106 rfl ?_
      refine j_get C f_X8_7.F 0 dX8_invoice_107 mW_0 rfl ?_
      refine j_iload_n C dX8_invoice_110 rfl ?_
      refine j_iload_n C dX8_invoice_111 rfl ?_
      refine j_callSiR C g_X8_59 (c_X8_of l D ca i w) ⟨Nat.le_of_ble_eq_true rfl, Nat.le_of_ble_eq_true rfl⟩ ⟨Nat.le_of_ble_eq_true rfl, Nat.le_of_ble_eq_true rfl⟩ [] rfl rfl rfl rfl (Nat.le_of_ble_eq_true rfl) dX8_invoice_112 ?_
      obtain ⟨hv, hq⟩ := hq
      refine j_iald C 1 dX8_invoice_115 mW_1 hv ?_
      refine j_goto (tgt := 121) C dX8_invoice_116 (by decide) ?_
      have e9 : r_X8_invoice M i w = (M 0 (r_X8_of i w).toNatClampNeg) := by rw [r_X8_invoice, if_neg h5, if_neg h11_0, if_neg h11_1, if_neg h11_2, if_neg h11_3, if_neg h103]
      exact j_iret E dX8_invoice_121 (by rw [e9]; exact ⟨rfl, rfl⟩)
  · have hq := hq.1 h5
    refine j_iconst C dX8_invoice_8 (-1 : Int32) (by decide) ?_
    have e9 : r_X8_invoice M i w = (-1 : Int32) := by rw [r_X8_invoice, if_pos h5]
    exact j_iret E dX8_invoice_9 (by rw [e9]; exact ⟨rfl, rfl⟩)


def r_X8_rateIn (M : jB) (i : Int32) (days : Int32) : UInt32 := (if (r_X8_isInvoice M i) = (0 : Int32) then (r_X8_nan) else (if (r_X8_in days (0 : Int32) (1000 : Int32)) = (0 : Int32) then (r_X8_nan) else (r_X8_rateBehind M i days)))
def n_X8_rateIn (M : jB) (i : Int32) (days : Int32) : Prop := (((r_X8_isInvoice M i) = (0 : Int32) → True) ∧ (¬ ((r_X8_isInvoice M i) = (0 : Int32)) → (((r_X8_in days (0 : Int32) (1000 : Int32)) = (0 : Int32) → True) ∧ (¬ ((r_X8_in days (0 : Int32) (1000 : Int32)) = (0 : Int32)) → ((n_X8_rateBehind M i days) ∧ True)))))
set_option maxRecDepth 100000 in
set_option maxHeartbeats 4000000 in
theorem c_X8_rateIn (l : Launch) (D : va_G) (ca : Nat → ClassId) (g : Nat → Nat) (M : jB) (i : Int32) (days : Int32) (hq : n_X8_rateIn M i days) : jM l D ca yX8_rateIn cX8_rateIn 3 (Option.some FieldType.float) 3 68 0 0 [.ref (g 0), .int i, .int days] (mW ca g M) (jD (some (.float (r_X8_rateIn M i days))) (mW ca g M)) := by
  refine jM_of [(0, .ref (g 0)), (1, .int i), (2, .int days)] (by decide) (Nat.le_of_ble_eq_true rfl) rfl (fun X C E => ?_)
  rw [n_X8_rateIn] at hq
  refine j_aload_n C dX8_rateIn_0 rfl ?_
  refine j_iload_n C dX8_rateIn_1 rfl ?_
  refine j_callViRW C g_X8_105 (c_X8_isInvoice l D ca g M i) 0 mW_0 hcl_X8 ⟨Nat.le_of_ble_eq_true rfl, Nat.le_of_ble_eq_true rfl⟩ ⟨Nat.le_of_ble_eq_true rfl, Nat.le_of_ble_eq_true rfl⟩ rfl rfl (Nat.le_of_ble_eq_true rfl) dX8_rateIn_2 ?_
  refine j_if_eq (tgt := 28) C dX8_rateIn_5 (by decide) (fun (h5 : (r_X8_isInvoice M i) = (0 : Int32)) => ?_) (fun (h5 : ¬ ((r_X8_isInvoice M i) = (0 : Int32))) => ?_)
  · have hq := hq.1 h5
    refine j_callSfR C g_X8_157 (c_X8_nan l D ca) ⟨Nat.le_of_ble_eq_true rfl, Nat.le_of_ble_eq_true rfl⟩ ⟨Nat.le_of_ble_eq_true rfl, Nat.le_of_ble_eq_true rfl⟩ [] rfl rfl rfl rfl (Nat.le_of_ble_eq_true rfl) dX8_rateIn_28 ?_
    have e9 : r_X8_rateIn M i days = (r_X8_nan) := by rw [r_X8_rateIn, if_pos h5]
    exact j_fret E dX8_rateIn_31 (by rw [e9]; exact ⟨rfl, rfl⟩)
  · have hq := hq.2 h5
    refine j_iload_n C dX8_rateIn_8 rfl ?_
    refine j_iconst C dX8_rateIn_9 (0 : Int32) (by decide) ?_
    refine j_sipush C dX8_rateIn_10 (1000 : Int32) (by decide) ?_
    refine j_callSiR C g_X8_38 (c_X8_in l D ca days (0 : Int32) (1000 : Int32)) ⟨Nat.le_of_ble_eq_true rfl, Nat.le_of_ble_eq_true rfl⟩ ⟨Nat.le_of_ble_eq_true rfl, Nat.le_of_ble_eq_true rfl⟩ [] rfl rfl rfl rfl (Nat.le_of_ble_eq_true rfl) dX8_rateIn_13 ?_
    refine j_if_eq (tgt := 28) C dX8_rateIn_16 (by decide) (fun (h16 : (r_X8_in days (0 : Int32) (1000 : Int32)) = (0 : Int32)) => ?_) (fun (h16 : ¬ ((r_X8_in days (0 : Int32) (1000 : Int32)) = (0 : Int32))) => ?_)
    · have hq := hq.1 h16
      refine j_callSfR C g_X8_157 (c_X8_nan l D ca) ⟨Nat.le_of_ble_eq_true rfl, Nat.le_of_ble_eq_true rfl⟩ ⟨Nat.le_of_ble_eq_true rfl, Nat.le_of_ble_eq_true rfl⟩ [] rfl rfl rfl rfl (Nat.le_of_ble_eq_true rfl) dX8_rateIn_28 ?_
      have e9 : r_X8_rateIn M i days = (r_X8_nan) := by rw [r_X8_rateIn, if_neg h5, if_pos h16]
      exact j_fret E dX8_rateIn_31 (by rw [e9]; exact ⟨rfl, rfl⟩)
    · have hq := hq.2 h16
      refine j_aload_n C dX8_rateIn_19 rfl ?_
      refine j_iload_n C dX8_rateIn_20 rfl ?_
      refine j_iload_n C dX8_rateIn_21 rfl ?_
      obtain ⟨hv, hq⟩ := hq
      refine j_callVfRW C g_X8_71 (c_X8_rateBehind l D ca g M i days hv) 0 mW_0 hcl_X8 ⟨Nat.le_of_ble_eq_true rfl, Nat.le_of_ble_eq_true rfl⟩ ⟨Nat.le_of_ble_eq_true rfl, Nat.le_of_ble_eq_true rfl⟩ rfl rfl (Nat.le_of_ble_eq_true rfl) dX8_rateIn_22 ?_
      refine j_goto (tgt := 31) C dX8_rateIn_25 (by decide) ?_
      have e9 : r_X8_rateIn M i days = (r_X8_rateBehind M i days) := by rw [r_X8_rateIn, if_neg h5, if_neg h16]
      exact j_fret E dX8_rateIn_31 (by rw [e9]; exact ⟨rfl, rfl⟩)


def r_X8_worth (M : jB) (i : Int32) : UInt32 := (if (r_X8_isInvoice M i) = (0 : Int32) then (r_X8_nan) else (r_X8_worthOf M i))
def n_X8_worth (M : jB) (i : Int32) : Prop := (((r_X8_isInvoice M i) = (0 : Int32) → True) ∧ (¬ ((r_X8_isInvoice M i) = (0 : Int32)) → ((n_X8_worthOf M i) ∧ True)))
set_option maxRecDepth 100000 in
set_option maxHeartbeats 4000000 in
theorem c_X8_worth (l : Launch) (D : va_G) (ca : Nat → ClassId) (g : Nat → Nat) (M : jB) (i : Int32) (hq : n_X8_worth M i) : jM l D ca yX8_worth cX8_worth 2 (Option.some FieldType.float) 5 114 0 0 [.ref (g 0), .int i] (mW ca g M) (jD (some (.float (r_X8_worth M i))) (mW ca g M)) := by
  refine jM_of [(0, .ref (g 0)), (1, .int i)] (by decide) (Nat.le_of_ble_eq_true rfl) rfl (fun X C E => ?_)
  rw [n_X8_worth] at hq
  refine j_aload_n C dX8_worth_0 rfl ?_
  refine j_iload_n C dX8_worth_1 rfl ?_
  refine j_callViRW C g_X8_105 (c_X8_isInvoice l D ca g M i) 0 mW_0 hcl_X8 ⟨Nat.le_of_ble_eq_true rfl, Nat.le_of_ble_eq_true rfl⟩ ⟨Nat.le_of_ble_eq_true rfl, Nat.le_of_ble_eq_true rfl⟩ rfl rfl (Nat.le_of_ble_eq_true rfl) dX8_worth_2 ?_
  refine j_if_eq (tgt := 16) C dX8_worth_5 (by decide) (fun (h5 : (r_X8_isInvoice M i) = (0 : Int32)) => ?_) (fun (h5 : ¬ ((r_X8_isInvoice M i) = (0 : Int32))) => ?_)
  · have hq := hq.1 h5
    refine j_callSfR C g_X8_157 (c_X8_nan l D ca) ⟨Nat.le_of_ble_eq_true rfl, Nat.le_of_ble_eq_true rfl⟩ ⟨Nat.le_of_ble_eq_true rfl, Nat.le_of_ble_eq_true rfl⟩ [] rfl rfl rfl rfl (Nat.le_of_ble_eq_true rfl) dX8_worth_16 ?_
    have e9 : r_X8_worth M i = (r_X8_nan) := by rw [r_X8_worth, if_pos h5]
    exact j_fret E dX8_worth_19 (by rw [e9]; exact ⟨rfl, rfl⟩)
  · have hq := hq.2 h5
    refine j_aload_n C dX8_worth_8 rfl ?_
    refine j_iload_n C dX8_worth_9 rfl ?_
    obtain ⟨hv, hq⟩ := hq
    refine j_callVfRW C g_X8_167 (c_X8_worthOf l D ca g M i hv) 0 mW_0 hcl_X8 ⟨Nat.le_of_ble_eq_true rfl, Nat.le_of_ble_eq_true rfl⟩ ⟨Nat.le_of_ble_eq_true rfl, Nat.le_of_ble_eq_true rfl⟩ rfl rfl (Nat.le_of_ble_eq_true rfl) dX8_worth_10 ?_
    refine j_goto (tgt := 19) C dX8_worth_13 (by decide) ?_
    have e9 : r_X8_worth M i = (r_X8_worthOf M i) := by rw [r_X8_worth, if_neg h5]
    exact j_fret E dX8_worth_19 (by rw [e9]; exact ⟨rfl, rfl⟩)


theorem le_1000 {q : Int32} (h : ¬ (1000 : Int32) < q) : ¬ (1001 : Int32) ≤ q := by
  have h1 := Int32.le_iff_toInt_le.mp (Int32.not_lt.mp h)
  intro z
  have h2 := Int32.le_iff_toInt_le.mp z
  have e1 : (1000 : Int32).toInt = 1000 := rfl
  have e2 : (1001 : Int32).toInt = 1001 := rfl
  omega
def L_X8_worthlessIn_12 (M : jB) (i : Int32) : Nat → Int32 → Int32
  | 0, _ => 0
  | n12 + 1, x12_2 => (if (1000 : Int32) < x12_2 then (-5 : Int32) else (if (r_X8_offerBehind M i x12_2) = (0 : Int32) then x12_2 else L_X8_worthlessIn_12 M i n12 (x12_2 + (1 : Int32))))
def NL_X8_worthlessIn_12 (M : jB) (i : Int32) : Nat → Int32 → Prop
  | 0, _ => True
  | n12 + 1, x12_2 => (((1000 : Int32) < x12_2 → True) ∧ (¬ ((1000 : Int32) < x12_2) → ((n_X8_offerBehind M i x12_2) ∧ (((r_X8_offerBehind M i x12_2) = (0 : Int32) → True) ∧ (¬ ((r_X8_offerBehind M i x12_2) = (0 : Int32)) → NL_X8_worthlessIn_12 M i n12 (x12_2 + (1 : Int32)))))))
def r_X8_worthlessIn (M : jB) (i : Int32) : Int32 := (if (r_X8_isInvoice M i) = (0 : Int32) then (-1 : Int32) else L_X8_worthlessIn_12 M i 1002 (0 : Int32))
def n_X8_worthlessIn (M : jB) (i : Int32) : Prop := (((r_X8_isInvoice M i) = (0 : Int32) → True) ∧ (¬ ((r_X8_isInvoice M i) = (0 : Int32)) → NL_X8_worthlessIn_12 M i 1002 (0 : Int32)))
set_option maxRecDepth 100000 in
set_option maxHeartbeats 4000000 in
theorem c_X8_worthlessIn (l : Launch) (D : va_G) (ca : Nat → ClassId) (g : Nat → Nat) (M : jB) (i : Int32) (hq : n_X8_worthlessIn M i) : jM l D ca yX8_worthlessIn cX8_worthlessIn 3 (some .int) 4 90 0 0 [.ref (g 0), .int i] (mW ca g M) (jD (some (.int (r_X8_worthlessIn M i))) (mW ca g M)) := by
  refine jM_of [(0, .ref (g 0)), (1, .int i)] (by decide) (Nat.le_of_ble_eq_true rfl) rfl (fun X C E => ?_)
  rw [n_X8_worthlessIn] at hq
  refine j_aload_n C dX8_worthlessIn_0 rfl ?_
  refine j_iload_n C dX8_worthlessIn_1 rfl ?_
  refine j_callViRW C g_X8_105 (c_X8_isInvoice l D ca g M i) 0 mW_0 hcl_X8 ⟨Nat.le_of_ble_eq_true rfl, Nat.le_of_ble_eq_true rfl⟩ ⟨Nat.le_of_ble_eq_true rfl, Nat.le_of_ble_eq_true rfl⟩ rfl rfl (Nat.le_of_ble_eq_true rfl) dX8_worthlessIn_2 ?_
  refine j_if_ne (tgt := 10) C dX8_worthlessIn_5 (by decide) (fun (h5 : ¬ ((r_X8_isInvoice M i) = (0 : Int32))) => ?_) (fun (h5 : (r_X8_isInvoice M i) = (0 : Int32)) => ?_)
  · have hq := hq.2 h5
    refine j_iconst C dX8_worthlessIn_10 (0 : Int32) (by decide) ?_
    refine j_istore_n C [(2, _), (0, _), (1, _)] dX8_worthlessIn_11 (by decide) rfl ?_
    have K12 : ∀ (n12 : Nat) (x12_2 : Int32), ((1001 : Int32).toInt - x12_2.toInt).toNat < n12 → NL_X8_worthlessIn_12 M i n12 x12_2 → r_X8_worthlessIn M i = L_X8_worthlessIn_12 M i n12 x12_2 → J l { frames := 4, cells := 0, slots := 0, locals := 90 } D 3 X 0 0 (mW ca g M) [(0, .ref (g 0)), (1, .int i), (2, .int x12_2)] [] 12 := by
      intro n12
      induction n12 with
      | zero =>
        intro x12_2 hm12
        exact absurd hm12 (Nat.not_lt_zero _)
      | succ n12 ih12 =>
        intro x12_2 hm12 hq hr12
        rw [NL_X8_worthlessIn_12] at hq
        refine j_iload_n C dX8_worthlessIn_12 rfl ?_
        refine j_sipush C dX8_worthlessIn_13 (1000 : Int32) (by decide) ?_
        refine j_icmp_gt (tgt := 36) C dX8_worthlessIn_16 (by decide) (fun (h16 : (1000 : Int32) < x12_2) => ?_) (fun (h16 : ¬ ((1000 : Int32) < x12_2)) => ?_)
        · have hq := hq.1 h16
          refine j_bipush C dX8_worthlessIn_36 (-5 : Int32) (by decide) ?_
          have e9 : r_X8_worthlessIn M i = (-5 : Int32) := by rw [hr12, L_X8_worthlessIn_12, if_pos h16]
          exact j_iret E dX8_worthlessIn_38 (by rw [e9]; exact ⟨rfl, rfl⟩)
        · have hq := hq.2 h16
          refine j_aload_n C dX8_worthlessIn_19 rfl ?_
          refine j_iload_n C dX8_worthlessIn_20 rfl ?_
          refine j_iload_n C dX8_worthlessIn_21 rfl ?_
          obtain ⟨hv, hq⟩ := hq
          refine j_callViRW C g_X8_75 (c_X8_offerBehind l D ca g M i x12_2 hv) 0 mW_0 hcl_X8 ⟨Nat.le_of_ble_eq_true rfl, Nat.le_of_ble_eq_true rfl⟩ ⟨Nat.le_of_ble_eq_true rfl, Nat.le_of_ble_eq_true rfl⟩ rfl rfl (Nat.le_of_ble_eq_true rfl) dX8_worthlessIn_22 ?_
          refine j_if_ne (tgt := 30) C dX8_worthlessIn_25 (by decide) (fun (h25 : ¬ ((r_X8_offerBehind M i x12_2) = (0 : Int32))) => ?_) (fun (h25 : (r_X8_offerBehind M i x12_2) = (0 : Int32)) => ?_)
          · have hq := hq.2 h25
            refine j_iinc C [(2, _), (0, _), (1, _)] (v := (x12_2 + (1 : Int32))) dX8_worthlessIn_30 rfl (iinc_1 _) (by decide) rfl ?_
            refine j_goto (tgt := 12) C dX8_worthlessIn_33 (by decide) ?_
            refine j_lv [(0, .ref (g 0)), (1, .int i), (2, .int (x12_2 + (1 : Int32)))] rfl ?_
            exact ih12 (x12_2 + (1 : Int32)) (jms (le_1000 h16) hm12) hq (by rw [hr12, L_X8_worthlessIn_12, if_neg h16, if_neg h25])
          · have hq := hq.1 h25
            refine j_iload_n C dX8_worthlessIn_28 rfl ?_
            have e9 : r_X8_worthlessIn M i = x12_2 := by rw [hr12, L_X8_worthlessIn_12, if_neg h16, if_pos h25]
            exact j_iret E dX8_worthlessIn_29 (by rw [e9]; exact ⟨rfl, rfl⟩)
    refine j_lv [(0, .ref (g 0)), (1, .int i), (2, .int (0 : Int32))] rfl ?_
    exact K12 1002 (0 : Int32) (by decide) hq (by rw [r_X8_worthlessIn, if_neg h5])
  · have hq := hq.1 h5
    refine j_iconst C dX8_worthlessIn_8 (-1 : Int32) (by decide) ?_
    have e9 : r_X8_worthlessIn M i = (-1 : Int32) := by rw [r_X8_worthlessIn, if_pos h5]
    exact j_iret E dX8_worthlessIn_9 (by rw [e9]; exact ⟨rfl, rfl⟩)


def L_X8_exposure_4 (M : jB) : Nat → Int32 → Int32 → UInt32
  | 0, _, _ => 0
  | n4 + 1, x4_1, x4_2 => (if (M 0 (9 : Int32).toNatClampNeg) ≤ x4_2 then (if (r_X8_allDues M) = (0 : Int32) then (r_X8_nan) else (FP.fdiv (FP.i2f x4_1) (FP.i2f (r_X8_allDues M)))) else (if (M 0 (r_X8_of x4_2 (4 : Int32)).toNatClampNeg) = (1 : Int32) then L_X8_exposure_4 M n4 (x4_1 + (M 0 (r_X8_of x4_2 (6 : Int32)).toNatClampNeg)) (x4_2 + (1 : Int32)) else L_X8_exposure_4 M n4 (x4_1 + (0 : Int32)) (x4_2 + (1 : Int32))))
def NL_X8_exposure_4 (M : jB) : Nat → Int32 → Int32 → Prop
  | 0, _, _ => True
  | n4 + 1, x4_1, x4_2 => (((M 0 (9 : Int32).toNatClampNeg) ≤ x4_2 → ((n_X8_allDues M) ∧ (((r_X8_allDues M) = (0 : Int32) → True) ∧ (¬ ((r_X8_allDues M) = (0 : Int32)) → ((n_X8_allDues M) ∧ (vf_n32 (FP.fdiv (FP.i2f x4_1) (FP.i2f (r_X8_allDues M))) ∧ True)))))) ∧ (¬ ((M 0 (9 : Int32).toNatClampNeg) ≤ x4_2) → (((M 0 (r_X8_of x4_2 (4 : Int32)).toNatClampNeg) = (1 : Int32) → NL_X8_exposure_4 M n4 (x4_1 + (M 0 (r_X8_of x4_2 (6 : Int32)).toNatClampNeg)) (x4_2 + (1 : Int32))) ∧ (¬ ((M 0 (r_X8_of x4_2 (4 : Int32)).toNatClampNeg) = (1 : Int32)) → NL_X8_exposure_4 M n4 (x4_1 + (0 : Int32)) (x4_2 + (1 : Int32))))))
def r_X8_exposure (M : jB) : UInt32 := L_X8_exposure_4 M (((M 0 9).toInt - (0 : Int32).toInt).toNat + 1) (0 : Int32) (0 : Int32)
def n_X8_exposure (M : jB) : Prop := ((M 0 9 ≤ 20) ∧ NL_X8_exposure_4 M (((M 0 9).toInt - (0 : Int32).toInt).toNat + 1) (0 : Int32) (0 : Int32))
set_option maxRecDepth 100000 in
set_option maxHeartbeats 4000000 in
theorem c_X8_exposure (l : Launch) (D : va_G) (ca : Nat → ClassId) (g : Nat → Nat) (M : jB) (hq : n_X8_exposure M) : jM l D ca yX8_exposure cX8_exposure 3 (Option.some FieldType.float) 2 43 0 0 [.ref (g 0)] (mW ca g M) (jD (some (.float (r_X8_exposure M))) (mW ca g M)) := by
  refine jM_of [(0, .ref (g 0))] (by decide) (Nat.le_of_ble_eq_true rfl) rfl (fun X C E => ?_)
  rw [n_X8_exposure] at hq
  obtain ⟨hI, hq⟩ := hq
  refine j_iconst C dX8_exposure_0 (0 : Int32) (by decide) ?_
  refine j_istore_n C [(1, _), (0, _)] dX8_exposure_1 (by decide) rfl ?_
  refine j_iconst C dX8_exposure_2 (0 : Int32) (by decide) ?_
  refine j_istore_n C [(2, _), (1, _), (0, _)] dX8_exposure_3 (by decide) rfl ?_
  have K4 : ∀ (n4 : Nat) (x4_1 : Int32) (x4_2 : Int32), ((M 0 9).toInt - x4_2.toInt).toNat < n4 → ((0 : Int32) ≤ x4_2) → NL_X8_exposure_4 M n4 x4_1 x4_2 → r_X8_exposure M = L_X8_exposure_4 M n4 x4_1 x4_2 → J l { frames := 2, cells := 0, slots := 0, locals := 43 } D 3 X 0 0 (mW ca g M) [(0, .ref (g 0)), (1, .int x4_1), (2, .int x4_2)] [] 4 := by
    intro n4
    induction n4 with
    | zero =>
      intro x4_1 x4_2 hm4
      exact absurd hm4 (Nat.not_lt_zero _)
    | succ n4 ih4 =>
      intro x4_1 x4_2 hm4 hp4 hq hr4
      rw [NL_X8_exposure_4] at hq
      refine j_iload_n C dX8_exposure_4 rfl ?_
      refine j_aload_n C dX8_exposure_5 rfl ?_
      refine j_get C f_X8_7.F 0 dX8_exposure_6 mW_0 rfl ?_
      refine j_bipush C dX8_exposure_9 (9 : Int32) (by decide) ?_
      refine j_iald C 1 dX8_exposure_11 mW_1 (vin_c rfl) ?_
      refine j_icmp_ge (tgt := 53) C dX8_exposure_12 (by decide) (fun (h12 : (M 0 (9 : Int32).toNatClampNeg) ≤ x4_2) => ?_) (fun (h12 : ¬ ((M 0 (9 : Int32).toNatClampNeg) ≤ x4_2)) => ?_)
      · have hq := hq.1 h12
        refine j_aload_n C dX8_exposure_53 rfl ?_
        obtain ⟨hv, hq⟩ := hq
        refine j_callViRW C g_X8_96 (c_X8_allDues l D ca g M hv) 0 mW_0 hcl_X8 ⟨Nat.le_of_ble_eq_true rfl, Nat.le_of_ble_eq_true rfl⟩ ⟨Nat.le_of_ble_eq_true rfl, Nat.le_of_ble_eq_true rfl⟩ rfl rfl (Nat.le_of_ble_eq_true rfl) dX8_exposure_54 ?_
        refine j_if_ne (tgt := 66) C dX8_exposure_57 (by decide) (fun (h57 : ¬ ((r_X8_allDues M) = (0 : Int32))) => ?_) (fun (h57 : (r_X8_allDues M) = (0 : Int32)) => ?_)
        · have hq := hq.2 h57
          refine j_iload_n C dX8_exposure_66 rfl ?_
          refine j_i2f C dX8_exposure_67 ?_
          refine j_aload_n C dX8_exposure_68 rfl ?_
          obtain ⟨hv, hq⟩ := hq
          refine j_callViRW C g_X8_96 (c_X8_allDues l D ca g M hv) 0 mW_0 hcl_X8 ⟨Nat.le_of_ble_eq_true rfl, Nat.le_of_ble_eq_true rfl⟩ ⟨Nat.le_of_ble_eq_true rfl, Nat.le_of_ble_eq_true rfl⟩ rfl rfl (Nat.le_of_ble_eq_true rfl) dX8_exposure_69 ?_
          refine j_i2f C dX8_exposure_72 ?_
          obtain ⟨hv, hq⟩ := hq
          refine j_fdiv C dX8_exposure_73 hv ?_
          have e9 : r_X8_exposure M = (FP.fdiv (FP.i2f x4_1) (FP.i2f (r_X8_allDues M))) := by rw [hr4, L_X8_exposure_4, if_pos h12, if_neg h57]
          exact j_fret E dX8_exposure_74 (by rw [e9]; exact ⟨rfl, rfl⟩)
        · have hq := hq.1 h57
          refine j_callSfR C g_X8_157 (c_X8_nan l D ca) ⟨Nat.le_of_ble_eq_true rfl, Nat.le_of_ble_eq_true rfl⟩ ⟨Nat.le_of_ble_eq_true rfl, Nat.le_of_ble_eq_true rfl⟩ [] rfl rfl rfl rfl (Nat.le_of_ble_eq_true rfl) dX8_exposure_60 ?_
          refine j_goto (tgt := 74) C dX8_exposure_63 (by decide) ?_
          have e9 : r_X8_exposure M = (r_X8_nan) := by rw [hr4, L_X8_exposure_4, if_pos h12, if_pos h57]
          exact j_fret E dX8_exposure_74 (by rw [e9]; exact ⟨rfl, rfl⟩)
      · have hq := hq.2 h12
        refine j_iload_n C dX8_exposure_15 rfl ?_
        refine j_aload_n C dX8_exposure_16 rfl ?_
        refine j_get C f_X8_7.F 0 dX8_exposure_17 mW_0 rfl ?_
        refine j_iload_n C dX8_exposure_20 rfl ?_
        refine j_iconst C dX8_exposure_21 (4 : Int32) (by decide) ?_
        refine j_callSiR C g_X8_59 (c_X8_of l D ca x4_2 (4 : Int32)) ⟨Nat.le_of_ble_eq_true rfl, Nat.le_of_ble_eq_true rfl⟩ ⟨Nat.le_of_ble_eq_true rfl, Nat.le_of_ble_eq_true rfl⟩ [] rfl rfl rfl rfl (Nat.le_of_ble_eq_true rfl) dX8_exposure_22 ?_
        refine j_iald C 1 dX8_exposure_25 mW_1 (vin_of (vin_b 20 rfl hp4 h12 hI) (vin_c rfl)) ?_
        refine j_iconst C dX8_exposure_26 (1 : Int32) (by decide) ?_
        refine j_icmp_ne (tgt := 44) C dX8_exposure_27 (by decide) (fun (h27 : ¬ ((M 0 (r_X8_of x4_2 (4 : Int32)).toNatClampNeg) = (1 : Int32))) => ?_) (fun (h27 : (M 0 (r_X8_of x4_2 (4 : Int32)).toNatClampNeg) = (1 : Int32)) => ?_)
        · have hq := hq.2 h27
          refine j_iconst C dX8_exposure_44 (0 : Int32) (by decide) ?_
          refine j_iadd C dX8_exposure_45 ?_
          refine j_istore_n C [(1, _), (0, _), (2, _)] dX8_exposure_46 (by decide) rfl ?_
          refine j_iinc C [(2, _), (1, _), (0, _)] (v := (x4_2 + (1 : Int32))) dX8_exposure_47 rfl (iinc_1 _) (by decide) rfl ?_
          refine j_goto (tgt := 4) C dX8_exposure_50 (by decide) ?_
          refine j_lv [(0, .ref (g 0)), (1, .int (x4_1 + (0 : Int32))), (2, .int (x4_2 + (1 : Int32)))] rfl ?_
          exact ih4 (x4_1 + (0 : Int32)) (x4_2 + (1 : Int32)) (jms h12 hm4) (i_pos' h12 hp4) hq (by rw [hr4, L_X8_exposure_4, if_neg h12, if_neg h27])
        · have hq := hq.1 h27
          refine j_aload_n C dX8_exposure_30 rfl ?_
          refine j_get C f_X8_7.F 0 dX8_exposure_31 mW_0 rfl ?_
          refine j_iload_n C dX8_exposure_34 rfl ?_
          refine j_bipush C dX8_exposure_35 (6 : Int32) (by decide) ?_
          refine j_callSiR C g_X8_59 (c_X8_of l D ca x4_2 (6 : Int32)) ⟨Nat.le_of_ble_eq_true rfl, Nat.le_of_ble_eq_true rfl⟩ ⟨Nat.le_of_ble_eq_true rfl, Nat.le_of_ble_eq_true rfl⟩ [] rfl rfl rfl rfl (Nat.le_of_ble_eq_true rfl) dX8_exposure_37 ?_
          refine j_iald C 1 dX8_exposure_40 mW_1 (vin_of (vin_b 20 rfl hp4 h12 hI) (vin_c rfl)) ?_
          refine j_goto (tgt := 45) C dX8_exposure_41 (by decide) ?_
          refine j_iadd C dX8_exposure_45 ?_
          refine j_istore_n C [(1, _), (0, _), (2, _)] dX8_exposure_46 (by decide) rfl ?_
          refine j_iinc C [(2, _), (1, _), (0, _)] (v := (x4_2 + (1 : Int32))) dX8_exposure_47 rfl (iinc_1 _) (by decide) rfl ?_
          refine j_goto (tgt := 4) C dX8_exposure_50 (by decide) ?_
          refine j_lv [(0, .ref (g 0)), (1, .int (x4_1 + (M 0 (r_X8_of x4_2 (6 : Int32)).toNatClampNeg))), (2, .int (x4_2 + (1 : Int32)))] rfl ?_
          exact ih4 (x4_1 + (M 0 (r_X8_of x4_2 (6 : Int32)).toNatClampNeg)) (x4_2 + (1 : Int32)) (jms h12 hm4) (i_pos' h12 hp4) hq (by rw [hr4, L_X8_exposure_4, if_neg h12, if_pos h27])
  refine j_lv [(0, .ref (g 0)), (1, .int (0 : Int32)), (2, .int (0 : Int32))] rfl ?_
  exact K4 (((M 0 9).toInt - (0 : Int32).toInt).toNat + 1) (0 : Int32) (0 : Int32) (Nat.lt_succ_self _) (by decide) hq (by rw [r_X8_exposure])


def r_X8_count (M : jB) (w : Int32) : Int32 := (if w = (0 : Int32) then (M 0 (0 : Int32).toNatClampNeg) else (if w = (1 : Int32) then ((M 0 (1 : Int32).toNatClampNeg) + (1000000000 : Int32)) else (if w = (2 : Int32) then (r_X8_allDues M) else (if w = (3 : Int32) then (r_X8_reserve M) else (if w = (4 : Int32) then (M 0 (8 : Int32).toNatClampNeg) else (if w = (5 : Int32) then (M 0 (9 : Int32).toNatClampNeg) else (if w = (6 : Int32) then (r_X8_invoices M (-1 : Int32) (0 : Int32) (w - (6 : Int32)) (w - (6 : Int32))) else (if w = (7 : Int32) then (r_X8_invoices M (-1 : Int32) (0 : Int32) (w - (6 : Int32)) (w - (6 : Int32))) else (if w = (8 : Int32) then (r_X8_invoices M (-1 : Int32) (0 : Int32) (w - (6 : Int32)) (w - (6 : Int32))) else (if w = (9 : Int32) then (r_X8_invoices M (-1 : Int32) (0 : Int32) (w - (6 : Int32)) (w - (6 : Int32))) else (if w = (10 : Int32) then (M 0 (((10 : Int32) + w) - (10 : Int32)).toNatClampNeg) else (if w = (11 : Int32) then (M 0 (((10 : Int32) + w) - (10 : Int32)).toNatClampNeg) else (if w = (12 : Int32) then (M 0 (((10 : Int32) + w) - (10 : Int32)).toNatClampNeg) else (if w = (13 : Int32) then (M 0 (((10 : Int32) + w) - (10 : Int32)).toNatClampNeg) else (if w = (14 : Int32) then (M 6 0) else (if w = (15 : Int32) then (M 6 2) else (-2 : Int32)))))))))))))))))
def n_X8_count (M : jB) (w : Int32) : Prop := ((w = (0 : Int32) → True) ∧ (¬ w = (0 : Int32) → ((w = (1 : Int32) → True) ∧ (¬ w = (1 : Int32) → ((w = (2 : Int32) → ((n_X8_allDues M) ∧ True)) ∧ (¬ w = (2 : Int32) → ((w = (3 : Int32) → ((n_X8_reserve M) ∧ True)) ∧ (¬ w = (3 : Int32) → ((w = (4 : Int32) → True) ∧ (¬ w = (4 : Int32) → ((w = (5 : Int32) → True) ∧ (¬ w = (5 : Int32) → ((w = (6 : Int32) → ((n_X8_invoices M (-1 : Int32) (0 : Int32) (w - (6 : Int32)) (w - (6 : Int32))) ∧ True)) ∧ (¬ w = (6 : Int32) → ((w = (7 : Int32) → ((n_X8_invoices M (-1 : Int32) (0 : Int32) (w - (6 : Int32)) (w - (6 : Int32))) ∧ True)) ∧ (¬ w = (7 : Int32) → ((w = (8 : Int32) → ((n_X8_invoices M (-1 : Int32) (0 : Int32) (w - (6 : Int32)) (w - (6 : Int32))) ∧ True)) ∧ (¬ w = (8 : Int32) → ((w = (9 : Int32) → ((n_X8_invoices M (-1 : Int32) (0 : Int32) (w - (6 : Int32)) (w - (6 : Int32))) ∧ True)) ∧ (¬ w = (9 : Int32) → ((w = (10 : Int32) → (vp_in (((10 : Int32) + w) - (10 : Int32)) 204 ∧ True)) ∧ (¬ w = (10 : Int32) → ((w = (11 : Int32) → (vp_in (((10 : Int32) + w) - (10 : Int32)) 204 ∧ True)) ∧ (¬ w = (11 : Int32) → ((w = (12 : Int32) → (vp_in (((10 : Int32) + w) - (10 : Int32)) 204 ∧ True)) ∧ (¬ w = (12 : Int32) → ((w = (13 : Int32) → (vp_in (((10 : Int32) + w) - (10 : Int32)) 204 ∧ True)) ∧ (¬ w = (13 : Int32) → ((w = (14 : Int32) → True) ∧ (¬ w = (14 : Int32) → ((w = (15 : Int32) → True) ∧ (¬ w = (15 : Int32) → True))))))))))))))))))))))))))))))))
set_option maxRecDepth 100000 in
set_option maxHeartbeats 4000000 in
theorem c_X8_count (l : Launch) (D : va_G) (ca : Nat → ClassId) (g : Nat → Nat) (M : jB) (w : Int32) (hq : n_X8_count M w) : jM l D ca yX8_count cX8_count 2 (some .int) 3 63 0 0 [.ref (g 0), .int w] (mW ca g M) (jD (some (.int (r_X8_count M w))) (mW ca g M)) := by
  refine jM_of [(0, .ref (g 0)), (1, .int w)] (by decide) (Nat.le_of_ble_eq_true rfl) rfl (fun X C E => ?_)
  rw [n_X8_count] at hq
  refine j_iload_n C dX8_count_0 rfl ?_
  by_cases h1_0 : w = (0 : Int32)
  · have hq := hq.1 h1_0
    refine j_tabEq (tgt := 80) C h1_0 dX8_count_1 (by decide) (by decide) (off := 79) rfl (by decide) ?_
    refine j_aload_n C dX8_count_80 rfl ?_
    refine j_get C f_X8_7.F 0 dX8_count_81 mW_0 rfl ?_
    refine j_iconst C dX8_count_84 (0 : Int32) (by decide) ?_
    refine j_iald C 1 dX8_count_85 mW_1 (vin_c rfl) ?_
    have e9 : r_X8_count M w = (M 0 (0 : Int32).toNatClampNeg) := by rw [r_X8_count, if_pos h1_0]
    exact j_iret E dX8_count_86 (by rw [e9]; exact ⟨rfl, rfl⟩)
  have hq := hq.2 h1_0
  by_cases h1_1 : w = (1 : Int32)
  · have hq := hq.1 h1_1
    refine j_tabEq (tgt := 87) C h1_1 dX8_count_1 (by decide) (by decide) (off := 86) rfl (by decide) ?_
    refine j_aload_n C dX8_count_87 rfl ?_
    refine j_get C f_X8_7.F 0 dX8_count_88 mW_0 rfl ?_
    refine j_iconst C dX8_count_91 (1 : Int32) (by decide) ?_
    refine j_iald C 1 dX8_count_92 mW_1 (vin_c rfl) ?_
    refine j_ldc C q_855 dX8_count_93 ?_
    refine j_iadd C dX8_count_95 ?_
    have e9 : r_X8_count M w = ((M 0 (1 : Int32).toNatClampNeg) + (1000000000 : Int32)) := by rw [r_X8_count, if_neg h1_0, if_pos h1_1]
    exact j_iret E dX8_count_96 (by rw [e9]; exact ⟨rfl, rfl⟩)
  have hq := hq.2 h1_1
  by_cases h1_2 : w = (2 : Int32)
  · have hq := hq.1 h1_2
    refine j_tabEq (tgt := 97) C h1_2 dX8_count_1 (by decide) (by decide) (off := 96) rfl (by decide) ?_
    refine j_aload_n C dX8_count_97 rfl ?_
    obtain ⟨hv, hq⟩ := hq
    refine j_callViRW C g_X8_96 (c_X8_allDues l D ca g M hv) 0 mW_0 hcl_X8 ⟨Nat.le_of_ble_eq_true rfl, Nat.le_of_ble_eq_true rfl⟩ ⟨Nat.le_of_ble_eq_true rfl, Nat.le_of_ble_eq_true rfl⟩ rfl rfl (Nat.le_of_ble_eq_true rfl) dX8_count_98 ?_
    have e9 : r_X8_count M w = (r_X8_allDues M) := by rw [r_X8_count, if_neg h1_0, if_neg h1_1, if_pos h1_2]
    exact j_iret E dX8_count_101 (by rw [e9]; exact ⟨rfl, rfl⟩)
  have hq := hq.2 h1_2
  by_cases h1_3 : w = (3 : Int32)
  · have hq := hq.1 h1_3
    refine j_tabEq (tgt := 102) C h1_3 dX8_count_1 (by decide) (by decide) (off := 101) rfl (by decide) ?_
    refine j_aload_n C dX8_count_102 rfl ?_
    obtain ⟨hv, hq⟩ := hq
    refine j_callViRW C g_X8_102 (c_X8_reserve l D ca g M hv) 0 mW_0 hcl_X8 ⟨Nat.le_of_ble_eq_true rfl, Nat.le_of_ble_eq_true rfl⟩ ⟨Nat.le_of_ble_eq_true rfl, Nat.le_of_ble_eq_true rfl⟩ rfl rfl (Nat.le_of_ble_eq_true rfl) dX8_count_103 ?_
    have e9 : r_X8_count M w = (r_X8_reserve M) := by rw [r_X8_count, if_neg h1_0, if_neg h1_1, if_neg h1_2, if_pos h1_3]
    exact j_iret E dX8_count_106 (by rw [e9]; exact ⟨rfl, rfl⟩)
  have hq := hq.2 h1_3
  by_cases h1_4 : w = (4 : Int32)
  · have hq := hq.1 h1_4
    refine j_tabEq (tgt := 107) C h1_4 dX8_count_1 (by decide) (by decide) (off := 106) rfl (by decide) ?_
    refine j_aload_n C dX8_count_107 rfl ?_
    refine j_get C f_X8_7.F 0 dX8_count_108 mW_0 rfl ?_
    refine j_bipush C dX8_count_111 (8 : Int32) (by decide) ?_
    refine j_iald C 1 dX8_count_113 mW_1 (vin_c rfl) ?_
    have e9 : r_X8_count M w = (M 0 (8 : Int32).toNatClampNeg) := by rw [r_X8_count, if_neg h1_0, if_neg h1_1, if_neg h1_2, if_neg h1_3, if_pos h1_4]
    exact j_iret E dX8_count_114 (by rw [e9]; exact ⟨rfl, rfl⟩)
  have hq := hq.2 h1_4
  by_cases h1_5 : w = (5 : Int32)
  · have hq := hq.1 h1_5
    refine j_tabEq (tgt := 115) C h1_5 dX8_count_1 (by decide) (by decide) (off := 114) rfl (by decide) ?_
    refine j_aload_n C dX8_count_115 rfl ?_
    refine j_get C f_X8_7.F 0 dX8_count_116 mW_0 rfl ?_
    refine j_bipush C dX8_count_119 (9 : Int32) (by decide) ?_
    refine j_iald C 1 dX8_count_121 mW_1 (vin_c rfl) ?_
    have e9 : r_X8_count M w = (M 0 (9 : Int32).toNatClampNeg) := by rw [r_X8_count, if_neg h1_0, if_neg h1_1, if_neg h1_2, if_neg h1_3, if_neg h1_4, if_pos h1_5]
    exact j_iret E dX8_count_122 (by rw [e9]; exact ⟨rfl, rfl⟩)
  have hq := hq.2 h1_5
  by_cases h1_6 : w = (6 : Int32)
  · have hq := hq.1 h1_6
    refine j_tabEq (tgt := 123) C h1_6 dX8_count_1 (by decide) (by decide) (off := 122) rfl (by decide) ?_
    refine j_aload_n C dX8_count_123 rfl ?_
    refine j_iconst C dX8_count_124 (-1 : Int32) (by decide) ?_
    refine j_iconst C dX8_count_125 (0 : Int32) (by decide) ?_
    refine j_iload_n C dX8_count_126 rfl ?_
    refine j_bipush C dX8_count_127 (6 : Int32) (by decide) ?_
    refine j_isub C dX8_count_129 ?_
    refine j_iload_n C dX8_count_130 rfl ?_
    refine j_bipush C dX8_count_131 (6 : Int32) (by decide) ?_
    refine j_isub C dX8_count_133 ?_
    obtain ⟨hv, hq⟩ := hq
    refine j_callViRW C g_X8_162 (c_X8_invoices l D ca g M (-1 : Int32) (0 : Int32) (w - (6 : Int32)) (w - (6 : Int32)) hv) 0 mW_0 hcl_X8 ⟨Nat.le_of_ble_eq_true rfl, Nat.le_of_ble_eq_true rfl⟩ ⟨Nat.le_of_ble_eq_true rfl, Nat.le_of_ble_eq_true rfl⟩ rfl rfl (Nat.le_of_ble_eq_true rfl) dX8_count_134 ?_
    have e9 : r_X8_count M w = (r_X8_invoices M (-1 : Int32) (0 : Int32) (w - (6 : Int32)) (w - (6 : Int32))) := by rw [r_X8_count, if_neg h1_0, if_neg h1_1, if_neg h1_2, if_neg h1_3, if_neg h1_4, if_neg h1_5, if_pos h1_6]
    exact j_iret E dX8_count_137 (by rw [e9]; exact ⟨rfl, rfl⟩)
  have hq := hq.2 h1_6
  by_cases h1_7 : w = (7 : Int32)
  · have hq := hq.1 h1_7
    refine j_tabEq (tgt := 123) C h1_7 dX8_count_1 (by decide) (by decide) (off := 122) rfl (by decide) ?_
    refine j_aload_n C dX8_count_123 rfl ?_
    refine j_iconst C dX8_count_124 (-1 : Int32) (by decide) ?_
    refine j_iconst C dX8_count_125 (0 : Int32) (by decide) ?_
    refine j_iload_n C dX8_count_126 rfl ?_
    refine j_bipush C dX8_count_127 (6 : Int32) (by decide) ?_
    refine j_isub C dX8_count_129 ?_
    refine j_iload_n C dX8_count_130 rfl ?_
    refine j_bipush C dX8_count_131 (6 : Int32) (by decide) ?_
    refine j_isub C dX8_count_133 ?_
    obtain ⟨hv, hq⟩ := hq
    refine j_callViRW C g_X8_162 (c_X8_invoices l D ca g M (-1 : Int32) (0 : Int32) (w - (6 : Int32)) (w - (6 : Int32)) hv) 0 mW_0 hcl_X8 ⟨Nat.le_of_ble_eq_true rfl, Nat.le_of_ble_eq_true rfl⟩ ⟨Nat.le_of_ble_eq_true rfl, Nat.le_of_ble_eq_true rfl⟩ rfl rfl (Nat.le_of_ble_eq_true rfl) dX8_count_134 ?_
    have e9 : r_X8_count M w = (r_X8_invoices M (-1 : Int32) (0 : Int32) (w - (6 : Int32)) (w - (6 : Int32))) := by rw [r_X8_count, if_neg h1_0, if_neg h1_1, if_neg h1_2, if_neg h1_3, if_neg h1_4, if_neg h1_5, if_neg h1_6, if_pos h1_7]
    exact j_iret E dX8_count_137 (by rw [e9]; exact ⟨rfl, rfl⟩)
  have hq := hq.2 h1_7
  by_cases h1_8 : w = (8 : Int32)
  · have hq := hq.1 h1_8
    refine j_tabEq (tgt := 123) C h1_8 dX8_count_1 (by decide) (by decide) (off := 122) rfl (by decide) ?_
    refine j_aload_n C dX8_count_123 rfl ?_
    refine j_iconst C dX8_count_124 (-1 : Int32) (by decide) ?_
    refine j_iconst C dX8_count_125 (0 : Int32) (by decide) ?_
    refine j_iload_n C dX8_count_126 rfl ?_
    refine j_bipush C dX8_count_127 (6 : Int32) (by decide) ?_
    refine j_isub C dX8_count_129 ?_
    refine j_iload_n C dX8_count_130 rfl ?_
    refine j_bipush C dX8_count_131 (6 : Int32) (by decide) ?_
    refine j_isub C dX8_count_133 ?_
    obtain ⟨hv, hq⟩ := hq
    refine j_callViRW C g_X8_162 (c_X8_invoices l D ca g M (-1 : Int32) (0 : Int32) (w - (6 : Int32)) (w - (6 : Int32)) hv) 0 mW_0 hcl_X8 ⟨Nat.le_of_ble_eq_true rfl, Nat.le_of_ble_eq_true rfl⟩ ⟨Nat.le_of_ble_eq_true rfl, Nat.le_of_ble_eq_true rfl⟩ rfl rfl (Nat.le_of_ble_eq_true rfl) dX8_count_134 ?_
    have e9 : r_X8_count M w = (r_X8_invoices M (-1 : Int32) (0 : Int32) (w - (6 : Int32)) (w - (6 : Int32))) := by rw [r_X8_count, if_neg h1_0, if_neg h1_1, if_neg h1_2, if_neg h1_3, if_neg h1_4, if_neg h1_5, if_neg h1_6, if_neg h1_7, if_pos h1_8]
    exact j_iret E dX8_count_137 (by rw [e9]; exact ⟨rfl, rfl⟩)
  have hq := hq.2 h1_8
  by_cases h1_9 : w = (9 : Int32)
  · have hq := hq.1 h1_9
    refine j_tabEq (tgt := 123) C h1_9 dX8_count_1 (by decide) (by decide) (off := 122) rfl (by decide) ?_
    refine j_aload_n C dX8_count_123 rfl ?_
    refine j_iconst C dX8_count_124 (-1 : Int32) (by decide) ?_
    refine j_iconst C dX8_count_125 (0 : Int32) (by decide) ?_
    refine j_iload_n C dX8_count_126 rfl ?_
    refine j_bipush C dX8_count_127 (6 : Int32) (by decide) ?_
    refine j_isub C dX8_count_129 ?_
    refine j_iload_n C dX8_count_130 rfl ?_
    refine j_bipush C dX8_count_131 (6 : Int32) (by decide) ?_
    refine j_isub C dX8_count_133 ?_
    obtain ⟨hv, hq⟩ := hq
    refine j_callViRW C g_X8_162 (c_X8_invoices l D ca g M (-1 : Int32) (0 : Int32) (w - (6 : Int32)) (w - (6 : Int32)) hv) 0 mW_0 hcl_X8 ⟨Nat.le_of_ble_eq_true rfl, Nat.le_of_ble_eq_true rfl⟩ ⟨Nat.le_of_ble_eq_true rfl, Nat.le_of_ble_eq_true rfl⟩ rfl rfl (Nat.le_of_ble_eq_true rfl) dX8_count_134 ?_
    have e9 : r_X8_count M w = (r_X8_invoices M (-1 : Int32) (0 : Int32) (w - (6 : Int32)) (w - (6 : Int32))) := by rw [r_X8_count, if_neg h1_0, if_neg h1_1, if_neg h1_2, if_neg h1_3, if_neg h1_4, if_neg h1_5, if_neg h1_6, if_neg h1_7, if_neg h1_8, if_pos h1_9]
    exact j_iret E dX8_count_137 (by rw [e9]; exact ⟨rfl, rfl⟩)
  have hq := hq.2 h1_9
  by_cases h1_10 : w = (10 : Int32)
  · have hq := hq.1 h1_10
    refine j_tabEq (tgt := 138) C h1_10 dX8_count_1 (by decide) (by decide) (off := 137) rfl (by decide) ?_
    refine j_aload_n C dX8_count_138 rfl ?_
    refine j_get C f_X8_7.F 0 dX8_count_139 mW_0 rfl ?_
    refine j_bipush C dX8_count_142 (10 : Int32) (by decide) ?_
    refine j_iload_n C dX8_count_144 rfl ?_
    refine j_iadd C dX8_count_145 ?_
    refine j_bipush C dX8_count_146 (10 : Int32) (by decide) ?_
    refine j_isub C dX8_count_148 ?_
    obtain ⟨hv, hq⟩ := hq
    refine j_iald C 1 dX8_count_149 mW_1 hv ?_
    have e9 : r_X8_count M w = (M 0 (((10 : Int32) + w) - (10 : Int32)).toNatClampNeg) := by rw [r_X8_count, if_neg h1_0, if_neg h1_1, if_neg h1_2, if_neg h1_3, if_neg h1_4, if_neg h1_5, if_neg h1_6, if_neg h1_7, if_neg h1_8, if_neg h1_9, if_pos h1_10]
    exact j_iret E dX8_count_150 (by rw [e9]; exact ⟨rfl, rfl⟩)
  have hq := hq.2 h1_10
  by_cases h1_11 : w = (11 : Int32)
  · have hq := hq.1 h1_11
    refine j_tabEq (tgt := 138) C h1_11 dX8_count_1 (by decide) (by decide) (off := 137) rfl (by decide) ?_
    refine j_aload_n C dX8_count_138 rfl ?_
    refine j_get C f_X8_7.F 0 dX8_count_139 mW_0 rfl ?_
    refine j_bipush C dX8_count_142 (10 : Int32) (by decide) ?_
    refine j_iload_n C dX8_count_144 rfl ?_
    refine j_iadd C dX8_count_145 ?_
    refine j_bipush C dX8_count_146 (10 : Int32) (by decide) ?_
    refine j_isub C dX8_count_148 ?_
    obtain ⟨hv, hq⟩ := hq
    refine j_iald C 1 dX8_count_149 mW_1 hv ?_
    have e9 : r_X8_count M w = (M 0 (((10 : Int32) + w) - (10 : Int32)).toNatClampNeg) := by rw [r_X8_count, if_neg h1_0, if_neg h1_1, if_neg h1_2, if_neg h1_3, if_neg h1_4, if_neg h1_5, if_neg h1_6, if_neg h1_7, if_neg h1_8, if_neg h1_9, if_neg h1_10, if_pos h1_11]
    exact j_iret E dX8_count_150 (by rw [e9]; exact ⟨rfl, rfl⟩)
  have hq := hq.2 h1_11
  by_cases h1_12 : w = (12 : Int32)
  · have hq := hq.1 h1_12
    refine j_tabEq (tgt := 138) C h1_12 dX8_count_1 (by decide) (by decide) (off := 137) rfl (by decide) ?_
    refine j_aload_n C dX8_count_138 rfl ?_
    refine j_get C f_X8_7.F 0 dX8_count_139 mW_0 rfl ?_
    refine j_bipush C dX8_count_142 (10 : Int32) (by decide) ?_
    refine j_iload_n C dX8_count_144 rfl ?_
    refine j_iadd C dX8_count_145 ?_
    refine j_bipush C dX8_count_146 (10 : Int32) (by decide) ?_
    refine j_isub C dX8_count_148 ?_
    obtain ⟨hv, hq⟩ := hq
    refine j_iald C 1 dX8_count_149 mW_1 hv ?_
    have e9 : r_X8_count M w = (M 0 (((10 : Int32) + w) - (10 : Int32)).toNatClampNeg) := by rw [r_X8_count, if_neg h1_0, if_neg h1_1, if_neg h1_2, if_neg h1_3, if_neg h1_4, if_neg h1_5, if_neg h1_6, if_neg h1_7, if_neg h1_8, if_neg h1_9, if_neg h1_10, if_neg h1_11, if_pos h1_12]
    exact j_iret E dX8_count_150 (by rw [e9]; exact ⟨rfl, rfl⟩)
  have hq := hq.2 h1_12
  by_cases h1_13 : w = (13 : Int32)
  · have hq := hq.1 h1_13
    refine j_tabEq (tgt := 138) C h1_13 dX8_count_1 (by decide) (by decide) (off := 137) rfl (by decide) ?_
    refine j_aload_n C dX8_count_138 rfl ?_
    refine j_get C f_X8_7.F 0 dX8_count_139 mW_0 rfl ?_
    refine j_bipush C dX8_count_142 (10 : Int32) (by decide) ?_
    refine j_iload_n C dX8_count_144 rfl ?_
    refine j_iadd C dX8_count_145 ?_
    refine j_bipush C dX8_count_146 (10 : Int32) (by decide) ?_
    refine j_isub C dX8_count_148 ?_
    obtain ⟨hv, hq⟩ := hq
    refine j_iald C 1 dX8_count_149 mW_1 hv ?_
    have e9 : r_X8_count M w = (M 0 (((10 : Int32) + w) - (10 : Int32)).toNatClampNeg) := by rw [r_X8_count, if_neg h1_0, if_neg h1_1, if_neg h1_2, if_neg h1_3, if_neg h1_4, if_neg h1_5, if_neg h1_6, if_neg h1_7, if_neg h1_8, if_neg h1_9, if_neg h1_10, if_neg h1_11, if_neg h1_12, if_pos h1_13]
    exact j_iret E dX8_count_150 (by rw [e9]; exact ⟨rfl, rfl⟩)
  have hq := hq.2 h1_13
  by_cases h1_14 : w = (14 : Int32)
  · have hq := hq.1 h1_14
    refine j_tabEq (tgt := 151) C h1_14 dX8_count_1 (by decide) (by decide) (off := 150) rfl (by decide) ?_
    refine j_aload_n C dX8_count_151 rfl ?_
    refine j_get C f_X8_42.F 0 dX8_count_152 mW_0 rfl ?_
    have e9 : r_X8_count M w = (M 6 0) := by rw [r_X8_count, if_neg h1_0, if_neg h1_1, if_neg h1_2, if_neg h1_3, if_neg h1_4, if_neg h1_5, if_neg h1_6, if_neg h1_7, if_neg h1_8, if_neg h1_9, if_neg h1_10, if_neg h1_11, if_neg h1_12, if_neg h1_13, if_pos h1_14]
    exact j_iret E dX8_count_155 (by rw [e9]; exact ⟨rfl, rfl⟩)
  have hq := hq.2 h1_14
  by_cases h1_15 : w = (15 : Int32)
  · have hq := hq.1 h1_15
    refine j_tabEq (tgt := 156) C h1_15 dX8_count_1 (by decide) (by decide) (off := 155) rfl (by decide) ?_
    refine j_aload_n C dX8_count_156 rfl ?_
    refine j_get C f_X8_127.F 0 dX8_count_157 mW_0 rfl ?_
    have e9 : r_X8_count M w = (M 6 2) := by rw [r_X8_count, if_neg h1_0, if_neg h1_1, if_neg h1_2, if_neg h1_3, if_neg h1_4, if_neg h1_5, if_neg h1_6, if_neg h1_7, if_neg h1_8, if_neg h1_9, if_neg h1_10, if_neg h1_11, if_neg h1_12, if_neg h1_13, if_neg h1_14, if_pos h1_15]
    exact j_iret E dX8_count_160 (by rw [e9]; exact ⟨rfl, rfl⟩)
  have hq := hq.2 h1_15
  refine j_tabOut (tgt := 161) C dX8_count_1 (by have e0 := tab_ne h1_0 0 rfl; have e1 := tab_ne h1_1 1 rfl; have e2 := tab_ne h1_2 2 rfl; have e3 := tab_ne h1_3 3 rfl; have e4 := tab_ne h1_4 4 rfl; have e5 := tab_ne h1_5 5 rfl; have e6 := tab_ne h1_6 6 rfl; have e7 := tab_ne h1_7 7 rfl; have e8 := tab_ne h1_8 8 rfl; have e9 := tab_ne h1_9 9 rfl; have e10 := tab_ne h1_10 10 rfl; have e11 := tab_ne h1_11 11 rfl; have e12 := tab_ne h1_12 12 rfl; have e13 := tab_ne h1_13 13 rfl; have e14 := tab_ne h1_14 14 rfl; have e15 := tab_ne h1_15 15 rfl; omega) (by decide) ?_
  refine j_bipush C dX8_count_161 (-2 : Int32) (by decide) ?_
  have e9 : r_X8_count M w = (-2 : Int32) := by rw [r_X8_count, if_neg h1_0, if_neg h1_1, if_neg h1_2, if_neg h1_3, if_neg h1_4, if_neg h1_5, if_neg h1_6, if_neg h1_7, if_neg h1_8, if_neg h1_9, if_neg h1_10, if_neg h1_11, if_neg h1_12, if_neg h1_13, if_neg h1_14, if_neg h1_15]
  exact j_iret E dX8_count_163 (by rw [e9]; exact ⟨rfl, rfl⟩)


def L_X8_best_25 (M : jB) (r : Int32) (x9_2 : Int32) (k : Int32 → Int32) : Nat → Int32 → Int32 → Int32
  | 0, _, _ => 0
  | n25 + 1, x25_3, x25_4 => (if (M 0 (9 : Int32).toNatClampNeg) ≤ x25_4 then (if (r_X8_mayAhead M x9_2) = (0 : Int32) then (k (x9_2 + (1 : Int32))) else (if x25_3 = r then x9_2 else (k (x9_2 + (1 : Int32))))) else (if (r_X8_mayAhead M x25_4) = (0 : Int32) then L_X8_best_25 M r x9_2 k n25 (x25_3 + (0 : Int32)) (x25_4 + (1 : Int32)) else (if (0 : Int32) < (Op.cmpValue (FP.fcmp (r_X8_worthOf M x25_4) (r_X8_worthOf M x9_2)) CmpOp.l) then L_X8_best_25 M r x9_2 k n25 (x25_3 + (1 : Int32)) (x25_4 + (1 : Int32)) else (if (Op.cmpValue (FP.fcmp (r_X8_worthOf M x25_4) (r_X8_worthOf M x9_2)) CmpOp.l) = (0 : Int32) then (if x9_2 ≤ x25_4 then L_X8_best_25 M r x9_2 k n25 (x25_3 + (0 : Int32)) (x25_4 + (1 : Int32)) else L_X8_best_25 M r x9_2 k n25 (x25_3 + (1 : Int32)) (x25_4 + (1 : Int32))) else L_X8_best_25 M r x9_2 k n25 (x25_3 + (0 : Int32)) (x25_4 + (1 : Int32))))))
def NL_X8_best_25 (M : jB) (r : Int32) (x9_2 : Int32) (kn : Int32 → Prop) : Nat → Int32 → Int32 → Prop
  | 0, _, _ => True
  | n25 + 1, x25_3, x25_4 => (((M 0 (9 : Int32).toNatClampNeg) ≤ x25_4 → ((n_X8_mayAhead M x9_2) ∧ (((r_X8_mayAhead M x9_2) = (0 : Int32) → (kn (x9_2 + (1 : Int32)))) ∧ (¬ ((r_X8_mayAhead M x9_2) = (0 : Int32)) → ((x25_3 = r → True) ∧ (¬ (x25_3 = r) → (kn (x9_2 + (1 : Int32))))))))) ∧ (¬ ((M 0 (9 : Int32).toNatClampNeg) ≤ x25_4) → ((n_X8_mayAhead M x25_4) ∧ (((r_X8_mayAhead M x25_4) = (0 : Int32) → NL_X8_best_25 M r x9_2 kn n25 (x25_3 + (0 : Int32)) (x25_4 + (1 : Int32))) ∧ (¬ ((r_X8_mayAhead M x25_4) = (0 : Int32)) → ((n_X8_worthOf M x25_4) ∧ ((n_X8_worthOf M x9_2) ∧ (((0 : Int32) < (Op.cmpValue (FP.fcmp (r_X8_worthOf M x25_4) (r_X8_worthOf M x9_2)) CmpOp.l) → NL_X8_best_25 M r x9_2 kn n25 (x25_3 + (1 : Int32)) (x25_4 + (1 : Int32))) ∧ (¬ ((0 : Int32) < (Op.cmpValue (FP.fcmp (r_X8_worthOf M x25_4) (r_X8_worthOf M x9_2)) CmpOp.l)) → ((n_X8_worthOf M x25_4) ∧ ((n_X8_worthOf M x9_2) ∧ (((Op.cmpValue (FP.fcmp (r_X8_worthOf M x25_4) (r_X8_worthOf M x9_2)) CmpOp.l) = (0 : Int32) → ((x9_2 ≤ x25_4 → NL_X8_best_25 M r x9_2 kn n25 (x25_3 + (0 : Int32)) (x25_4 + (1 : Int32))) ∧ (¬ (x9_2 ≤ x25_4) → NL_X8_best_25 M r x9_2 kn n25 (x25_3 + (1 : Int32)) (x25_4 + (1 : Int32))))) ∧ (¬ ((Op.cmpValue (FP.fcmp (r_X8_worthOf M x25_4) (r_X8_worthOf M x9_2)) CmpOp.l) = (0 : Int32)) → NL_X8_best_25 M r x9_2 kn n25 (x25_3 + (0 : Int32)) (x25_4 + (1 : Int32)))))))))))))))
def L_X8_best_9 (M : jB) (r : Int32) : Nat → Int32 → Int32
  | 0, _ => 0
  | n9 + 1, x9_2 => (if (M 0 (9 : Int32).toNatClampNeg) ≤ x9_2 then (-5 : Int32) else L_X8_best_25 M r x9_2 (fun z0 => L_X8_best_9 M r n9 z0) (((M 0 9).toInt - (0 : Int32).toInt).toNat + 1) (0 : Int32) (0 : Int32))
def NL_X8_best_9 (M : jB) (r : Int32) : Nat → Int32 → Prop
  | 0, _ => True
  | n9 + 1, x9_2 => (((M 0 (9 : Int32).toNatClampNeg) ≤ x9_2 → True) ∧ (¬ ((M 0 (9 : Int32).toNatClampNeg) ≤ x9_2) → NL_X8_best_25 M r x9_2 (fun z0 => NL_X8_best_9 M r n9 z0) (((M 0 9).toInt - (0 : Int32).toInt).toNat + 1) (0 : Int32) (0 : Int32)))
def r_X8_best (M : jB) (r : Int32) : Int32 := (if (0 : Int32) ≤ r then L_X8_best_9 M r (((M 0 9).toInt - (0 : Int32).toInt).toNat + 1) (0 : Int32) else (-2 : Int32))
def n_X8_best (M : jB) (r : Int32) : Prop := (((0 : Int32) ≤ r → NL_X8_best_9 M r (((M 0 9).toInt - (0 : Int32).toInt).toNat + 1) (0 : Int32)) ∧ (¬ ((0 : Int32) ≤ r) → True))
set_option maxRecDepth 100000 in
set_option maxHeartbeats 4000000 in
theorem c_X8_best (l : Launch) (D : va_G) (ca : Nat → ClassId) (g : Nat → Nat) (M : jB) (r : Int32) (hq : n_X8_best M r) : jM l D ca yX8_best cX8_best 5 (some .int) 5 114 0 0 [.ref (g 0), .int r] (mW ca g M) (jD (some (.int (r_X8_best M r))) (mW ca g M)) := by
  refine jM_of [(0, .ref (g 0)), (1, .int r)] (by decide) (Nat.le_of_ble_eq_true rfl) rfl (fun X C E => ?_)
  rw [n_X8_best] at hq
  refine j_iload_n C dX8_best_0 rfl ?_
  refine j_if_ge (tgt := 7) C dX8_best_1 (by decide) (fun (h1 : (0 : Int32) ≤ r) => ?_) (fun (h1 : ¬ ((0 : Int32) ≤ r)) => ?_)
  · have hq := hq.1 h1
    refine j_iconst C dX8_best_7 (0 : Int32) (by decide) ?_
    refine j_istore_n C [(2, _), (0, _), (1, _)] dX8_best_8 (by decide) rfl ?_
    have K9 : ∀ (n9 : Nat) (x9_2 : Int32), ((M 0 9).toInt - x9_2.toInt).toNat < n9 → NL_X8_best_9 M r n9 x9_2 → r_X8_best M r = L_X8_best_9 M r n9 x9_2 → J l { frames := 5, cells := 0, slots := 0, locals := 114 } D 5 X 0 0 (mW ca g M) [(0, .ref (g 0)), (1, .int r), (2, .int x9_2)] [] 9 := by
      intro n9
      induction n9 with
      | zero =>
        intro x9_2 hm9
        exact absurd hm9 (Nat.not_lt_zero _)
      | succ n9 ih9 =>
        intro x9_2 hm9 hq hr9
        rw [NL_X8_best_9] at hq
        refine j_iload_n C dX8_best_9 rfl ?_
        refine j_aload_n C dX8_best_10 rfl ?_
        refine j_get C f_X8_7.F 0 dX8_best_11 mW_0 rfl ?_
        refine j_bipush C dX8_best_14 (9 : Int32) (by decide) ?_
        refine j_iald C 1 dX8_best_16 mW_1 (vin_c rfl) ?_
        refine j_icmp_ge (tgt := 117) C dX8_best_17 (by decide) (fun (h17 : (M 0 (9 : Int32).toNatClampNeg) ≤ x9_2) => ?_) (fun (h17 : ¬ ((M 0 (9 : Int32).toNatClampNeg) ≤ x9_2)) => ?_)
        · have hq := hq.1 h17
          refine j_bipush C dX8_best_117 (-5 : Int32) (by decide) ?_
          have e9 : r_X8_best M r = (-5 : Int32) := by rw [hr9, L_X8_best_9, if_pos h17]
          exact j_iret E dX8_best_119 (by rw [e9]; exact ⟨rfl, rfl⟩)
        · have hq := hq.2 h17
          refine j_iconst C dX8_best_20 (0 : Int32) (by decide) ?_
          refine j_istore_n C [(3, _), (0, _), (1, _), (2, _)] dX8_best_21 (by decide) rfl ?_
          refine j_iconst C dX8_best_22 (0 : Int32) (by decide) ?_
          refine j_istore C [(4, _), (3, _), (0, _), (1, _), (2, _)] dX8_best_23 (by decide) rfl ?_
          have K25 : ∀ (n25 : Nat) (x25_3 : Int32) (x25_4 : Int32), ((M 0 9).toInt - x25_4.toInt).toNat < n25 → NL_X8_best_25 M r x9_2 (fun z0 => NL_X8_best_9 M r n9 z0) n25 x25_3 x25_4 → r_X8_best M r = L_X8_best_25 M r x9_2 (fun z0 => L_X8_best_9 M r n9 z0) n25 x25_3 x25_4 → J l { frames := 5, cells := 0, slots := 0, locals := 114 } D 5 X 0 0 (mW ca g M) [(0, .ref (g 0)), (1, .int r), (2, .int x9_2), (3, .int x25_3), (4, .int x25_4)] [] 25 := by
            intro n25
            induction n25 with
            | zero =>
              intro x25_3 x25_4 hm25
              exact absurd hm25 (Nat.not_lt_zero _)
            | succ n25 ih25 =>
              intro x25_3 x25_4 hm25 hq hr25
              rw [NL_X8_best_25] at hq
              refine j_iload C dX8_best_25 rfl ?_
              refine j_aload_n C dX8_best_27 rfl ?_
              refine j_get C f_X8_7.F 0 dX8_best_28 mW_0 rfl ?_
              refine j_bipush C dX8_best_31 (9 : Int32) (by decide) ?_
              refine j_iald C 1 dX8_best_33 mW_1 (vin_c rfl) ?_
              refine j_icmp_ge (tgt := 96) C dX8_best_34 (by decide) (fun (h34 : (M 0 (9 : Int32).toNatClampNeg) ≤ x25_4) => ?_) (fun (h34 : ¬ ((M 0 (9 : Int32).toNatClampNeg) ≤ x25_4)) => ?_)
              · have hq := hq.1 h34
                refine j_aload_n C dX8_best_96 rfl ?_
                refine j_iload_n C dX8_best_97 rfl ?_
                obtain ⟨hv, hq⟩ := hq
                refine j_callViRW C g_X8_108 (c_X8_mayAhead l D ca g M x9_2 hv) 0 mW_0 hcl_X8 ⟨Nat.le_of_ble_eq_true rfl, Nat.le_of_ble_eq_true rfl⟩ ⟨Nat.le_of_ble_eq_true rfl, Nat.le_of_ble_eq_true rfl⟩ rfl rfl (Nat.le_of_ble_eq_true rfl) dX8_best_98 ?_
                refine j_if_eq (tgt := 111) C dX8_best_101 (by decide) (fun (h101 : (r_X8_mayAhead M x9_2) = (0 : Int32)) => ?_) (fun (h101 : ¬ ((r_X8_mayAhead M x9_2) = (0 : Int32))) => ?_)
                · have hq := hq.1 h101
                  refine j_iinc C [(2, _), (0, _), (1, _), (3, _), (4, _)] (v := (x9_2 + (1 : Int32))) dX8_best_111 rfl (iinc_1 _) (by decide) rfl ?_
                  refine j_goto (tgt := 9) C dX8_best_114 (by decide) ?_
                  refine j_lv [(0, .ref (g 0)), (1, .int r), (2, .int (x9_2 + (1 : Int32)))] rfl ?_
                  exact ih9 (x9_2 + (1 : Int32)) (jms h17 hm9) hq (by rw [hr25, L_X8_best_25, if_pos h34, if_pos h101])
                · have hq := hq.2 h101
                  refine j_iload_n C dX8_best_104 rfl ?_
                  refine j_iload_n C dX8_best_105 rfl ?_
                  refine j_icmp_ne (tgt := 111) C dX8_best_106 (by decide) (fun (h106 : ¬ (x25_3 = r)) => ?_) (fun (h106 : x25_3 = r) => ?_)
                  · have hq := hq.2 h106
                    refine j_iinc C [(2, _), (0, _), (1, _), (3, _), (4, _)] (v := (x9_2 + (1 : Int32))) dX8_best_111 rfl (iinc_1 _) (by decide) rfl ?_
                    refine j_goto (tgt := 9) C dX8_best_114 (by decide) ?_
                    refine j_lv [(0, .ref (g 0)), (1, .int r), (2, .int (x9_2 + (1 : Int32)))] rfl ?_
                    exact ih9 (x9_2 + (1 : Int32)) (jms h17 hm9) hq (by rw [hr25, L_X8_best_25, if_pos h34, if_neg h101, if_neg h106])
                  · have hq := hq.1 h106
                    refine j_iload_n C dX8_best_109 rfl ?_
                    have e9 : r_X8_best M r = x9_2 := by rw [hr25, L_X8_best_25, if_pos h34, if_neg h101, if_pos h106]
                    exact j_iret E dX8_best_110 (by rw [e9]; exact ⟨rfl, rfl⟩)
              · have hq := hq.2 h34
                refine j_iload_n C dX8_best_37 rfl ?_
                refine j_aload_n C dX8_best_38 rfl ?_
                refine j_iload C dX8_best_39 rfl ?_
                obtain ⟨hv, hq⟩ := hq
                refine j_callViRW C g_X8_108 (c_X8_mayAhead l D ca g M x25_4 hv) 0 mW_0 hcl_X8 ⟨Nat.le_of_ble_eq_true rfl, Nat.le_of_ble_eq_true rfl⟩ ⟨Nat.le_of_ble_eq_true rfl, Nat.le_of_ble_eq_true rfl⟩ rfl rfl (Nat.le_of_ble_eq_true rfl) dX8_best_41 ?_
                refine j_if_eq (tgt := 87) C dX8_best_44 (by decide) (fun (h44 : (r_X8_mayAhead M x25_4) = (0 : Int32)) => ?_) (fun (h44 : ¬ ((r_X8_mayAhead M x25_4) = (0 : Int32))) => ?_)
                · have hq := hq.1 h44
                  refine j_iconst C dX8_best_87 (0 : Int32) (by decide) ?_
                  refine j_iadd C dX8_best_88 ?_
                  refine j_istore_n C [(3, _), (0, _), (1, _), (2, _), (4, _)] dX8_best_89 (by decide) rfl ?_
                  refine j_iinc C [(4, _), (3, _), (0, _), (1, _), (2, _)] (v := (x25_4 + (1 : Int32))) dX8_best_90 rfl (iinc_1 _) (by decide) rfl ?_
                  refine j_goto (tgt := 25) C dX8_best_93 (by decide) ?_
                  refine j_lv [(0, .ref (g 0)), (1, .int r), (2, .int x9_2), (3, .int (x25_3 + (0 : Int32))), (4, .int (x25_4 + (1 : Int32)))] rfl ?_
                  exact ih25 (x25_3 + (0 : Int32)) (x25_4 + (1 : Int32)) (jms h34 hm25) hq (by rw [hr25, L_X8_best_25, if_neg h34, if_pos h44])
                · have hq := hq.2 h44
                  refine j_aload_n C dX8_best_47 rfl ?_
                  refine j_iload C dX8_best_48 rfl ?_
                  obtain ⟨hv, hq⟩ := hq
                  refine j_callVfRW C g_X8_167 (c_X8_worthOf l D ca g M x25_4 hv) 0 mW_0 hcl_X8 ⟨Nat.le_of_ble_eq_true rfl, Nat.le_of_ble_eq_true rfl⟩ ⟨Nat.le_of_ble_eq_true rfl, Nat.le_of_ble_eq_true rfl⟩ rfl rfl (Nat.le_of_ble_eq_true rfl) dX8_best_50 ?_
                  refine j_aload_n C dX8_best_53 rfl ?_
                  refine j_iload_n C dX8_best_54 rfl ?_
                  obtain ⟨hv, hq⟩ := hq
                  refine j_callVfRW C g_X8_167 (c_X8_worthOf l D ca g M x9_2 hv) 0 mW_0 hcl_X8 ⟨Nat.le_of_ble_eq_true rfl, Nat.le_of_ble_eq_true rfl⟩ ⟨Nat.le_of_ble_eq_true rfl, Nat.le_of_ble_eq_true rfl⟩ rfl rfl (Nat.le_of_ble_eq_true rfl) dX8_best_55 ?_
                  refine j_fcmp C dX8_best_58 ?_
                  refine j_if_gt (tgt := 83) C dX8_best_59 (by decide) (fun (h59 : (0 : Int32) < (Op.cmpValue (FP.fcmp (r_X8_worthOf M x25_4) (r_X8_worthOf M x9_2)) CmpOp.l)) => ?_) (fun (h59 : ¬ ((0 : Int32) < (Op.cmpValue (FP.fcmp (r_X8_worthOf M x25_4) (r_X8_worthOf M x9_2)) CmpOp.l))) => ?_)
                  · have hq := hq.1 h59
                    refine j_iconst C dX8_best_83 (1 : Int32) (by decide) ?_
                    refine j_goto (tgt := 88) C dX8_best_84 (by decide) ?_
                    refine j_iadd C dX8_best_88 ?_
                    refine j_istore_n C [(3, _), (0, _), (1, _), (2, _), (4, _)] dX8_best_89 (by decide) rfl ?_
                    refine j_iinc C [(4, _), (3, _), (0, _), (1, _), (2, _)] (v := (x25_4 + (1 : Int32))) dX8_best_90 rfl (iinc_1 _) (by decide) rfl ?_
                    refine j_goto (tgt := 25) C dX8_best_93 (by decide) ?_
                    refine j_lv [(0, .ref (g 0)), (1, .int r), (2, .int x9_2), (3, .int (x25_3 + (1 : Int32))), (4, .int (x25_4 + (1 : Int32)))] rfl ?_
                    exact ih25 (x25_3 + (1 : Int32)) (x25_4 + (1 : Int32)) (jms h34 hm25) hq (by rw [hr25, L_X8_best_25, if_neg h34, if_neg h44, if_pos h59])
                  · have hq := hq.2 h59
                    refine j_aload_n C dX8_best_62 rfl ?_
                    refine j_iload C dX8_best_63 rfl ?_
                    obtain ⟨hv, hq⟩ := hq
                    refine j_callVfRW C g_X8_167 (c_X8_worthOf l D ca g M x25_4 hv) 0 mW_0 hcl_X8 ⟨Nat.le_of_ble_eq_true rfl, Nat.le_of_ble_eq_true rfl⟩ ⟨Nat.le_of_ble_eq_true rfl, Nat.le_of_ble_eq_true rfl⟩ rfl rfl (Nat.le_of_ble_eq_true rfl) dX8_best_65 ?_
                    refine j_aload_n C dX8_best_68 rfl ?_
                    refine j_iload_n C dX8_best_69 rfl ?_
                    obtain ⟨hv, hq⟩ := hq
                    refine j_callVfRW C g_X8_167 (c_X8_worthOf l D ca g M x9_2 hv) 0 mW_0 hcl_X8 ⟨Nat.le_of_ble_eq_true rfl, Nat.le_of_ble_eq_true rfl⟩ ⟨Nat.le_of_ble_eq_true rfl, Nat.le_of_ble_eq_true rfl⟩ rfl rfl (Nat.le_of_ble_eq_true rfl) dX8_best_70 ?_
                    refine j_fcmp C dX8_best_73 ?_
                    refine j_if_ne (tgt := 87) C dX8_best_74 (by decide) (fun (h74 : ¬ ((Op.cmpValue (FP.fcmp (r_X8_worthOf M x25_4) (r_X8_worthOf M x9_2)) CmpOp.l) = (0 : Int32))) => ?_) (fun (h74 : (Op.cmpValue (FP.fcmp (r_X8_worthOf M x25_4) (r_X8_worthOf M x9_2)) CmpOp.l) = (0 : Int32)) => ?_)
                    · have hq := hq.2 h74
                      refine j_iconst C dX8_best_87 (0 : Int32) (by decide) ?_
                      refine j_iadd C dX8_best_88 ?_
                      refine j_istore_n C [(3, _), (0, _), (1, _), (2, _), (4, _)] dX8_best_89 (by decide) rfl ?_
                      refine j_iinc C [(4, _), (3, _), (0, _), (1, _), (2, _)] (v := (x25_4 + (1 : Int32))) dX8_best_90 rfl (iinc_1 _) (by decide) rfl ?_
                      refine j_goto (tgt := 25) C dX8_best_93 (by decide) ?_
                      refine j_lv [(0, .ref (g 0)), (1, .int r), (2, .int x9_2), (3, .int (x25_3 + (0 : Int32))), (4, .int (x25_4 + (1 : Int32)))] rfl ?_
                      exact ih25 (x25_3 + (0 : Int32)) (x25_4 + (1 : Int32)) (jms h34 hm25) hq (by rw [hr25, L_X8_best_25, if_neg h34, if_neg h44, if_neg h59, if_neg h74])
                    · have hq := hq.1 h74
                      refine j_iload C dX8_best_77 rfl ?_
                      refine j_iload_n C dX8_best_79 rfl ?_
                      refine j_icmp_ge (tgt := 87) C dX8_best_80 (by decide) (fun (h80 : x9_2 ≤ x25_4) => ?_) (fun (h80 : ¬ (x9_2 ≤ x25_4)) => ?_)
                      · have hq := hq.1 h80
                        refine j_iconst C dX8_best_87 (0 : Int32) (by decide) ?_
                        refine j_iadd C dX8_best_88 ?_
                        refine j_istore_n C [(3, _), (0, _), (1, _), (2, _), (4, _)] dX8_best_89 (by decide) rfl ?_
                        refine j_iinc C [(4, _), (3, _), (0, _), (1, _), (2, _)] (v := (x25_4 + (1 : Int32))) dX8_best_90 rfl (iinc_1 _) (by decide) rfl ?_
                        refine j_goto (tgt := 25) C dX8_best_93 (by decide) ?_
                        refine j_lv [(0, .ref (g 0)), (1, .int r), (2, .int x9_2), (3, .int (x25_3 + (0 : Int32))), (4, .int (x25_4 + (1 : Int32)))] rfl ?_
                        exact ih25 (x25_3 + (0 : Int32)) (x25_4 + (1 : Int32)) (jms h34 hm25) hq (by rw [hr25, L_X8_best_25, if_neg h34, if_neg h44, if_neg h59, if_pos h74, if_pos h80])
                      · have hq := hq.2 h80
                        refine j_iconst C dX8_best_83 (1 : Int32) (by decide) ?_
                        refine j_goto (tgt := 88) C dX8_best_84 (by decide) ?_
                        refine j_iadd C dX8_best_88 ?_
                        refine j_istore_n C [(3, _), (0, _), (1, _), (2, _), (4, _)] dX8_best_89 (by decide) rfl ?_
                        refine j_iinc C [(4, _), (3, _), (0, _), (1, _), (2, _)] (v := (x25_4 + (1 : Int32))) dX8_best_90 rfl (iinc_1 _) (by decide) rfl ?_
                        refine j_goto (tgt := 25) C dX8_best_93 (by decide) ?_
                        refine j_lv [(0, .ref (g 0)), (1, .int r), (2, .int x9_2), (3, .int (x25_3 + (1 : Int32))), (4, .int (x25_4 + (1 : Int32)))] rfl ?_
                        exact ih25 (x25_3 + (1 : Int32)) (x25_4 + (1 : Int32)) (jms h34 hm25) hq (by rw [hr25, L_X8_best_25, if_neg h34, if_neg h44, if_neg h59, if_pos h74, if_neg h80])
          refine j_lv [(0, .ref (g 0)), (1, .int r), (2, .int x9_2), (3, .int (0 : Int32)), (4, .int (0 : Int32))] rfl ?_
          exact K25 (((M 0 9).toInt - (0 : Int32).toInt).toNat + 1) (0 : Int32) (0 : Int32) (Nat.lt_succ_self _) hq (by rw [hr9, L_X8_best_9, if_neg h17])
    refine j_lv [(0, .ref (g 0)), (1, .int r), (2, .int (0 : Int32))] rfl ?_
    exact K9 (((M 0 9).toInt - (0 : Int32).toInt).toNat + 1) (0 : Int32) (Nat.lt_succ_self _) hq (by rw [r_X8_best, if_pos h1])
  · have hq := hq.2 h1
    refine j_bipush C dX8_best_4 (-2 : Int32) (by decide) ?_
    have e9 : r_X8_best M r = (-2 : Int32) := by rw [r_X8_best, if_neg h1]
    exact j_iret E dX8_best_6 (by rw [e9]; exact ⟨rfl, rfl⟩)
