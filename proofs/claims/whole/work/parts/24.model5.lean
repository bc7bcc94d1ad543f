theorem sg_T (M : jB) (lo hi : Int32) : (r_X8_sign M lo hi).2 6 2 = M 6 2 := by
  unfold r_X8_sign
  (repeat' split) <;> rfl
theorem sg_A {M : jB} {lo : Int32} (hi : Int32) (hA : 0 ≤ M 6 5) (hl : 0 < lo) : 0 ≤ (r_X8_sign M lo hi).2 6 5 := by
  have e : M 6 5 + 0 = M 6 5 := Int32.add_zero _
  have a0 : 0 ≤ M 6 5 + 0 := by rw [e]; exact hA
  have w : r_X8_in 0 lo hi = 0 := by unfold r_X8_in; rw [if_pos hl]
  unfold r_X8_sign
  (repeat' split) <;> first | exact a0 | exact absurd w (by assumption) | exact i_pos' (by assumption) hA


def L_X8_number_14 (M : jB) (lo : Int32) (most : Int32) : Nat → Int32 → Int32 → jB → Int32 × jB
  | 0, _, _, _ => (0, M)
  | n14 + 1, x14_3, x14_4, M14 => (if (M14 6 6) = (0 : Int32) then (if x14_3 ≤ (0 : Int32) then (x14_3, M14) else (if most ≤ x14_4 then (x14_3, M14) else (if (M14 6 2) ≤ (M14 6 5) then (x14_3, M14) else (if (r_X8_in (M14 4 (M14 6 5).toNatClampNeg) (48 : Int32) (57 : Int32)) = (0 : Int32) then (x14_3, M14) else L_X8_number_14 M lo most n14 ((((10 : Int32) * x14_3) + (r_X8_sign M14 (48 : Int32) (57 : Int32)).1) - (48 : Int32)) (x14_4 + (1 : Int32)) ((r_X8_sign M14 (48 : Int32) (57 : Int32)).2))))) else (x14_3, M14))
def r_X8_number (M : jB) (lo : Int32) (most : Int32) : Int32 × jB := L_X8_number_14 M lo most ((most.toInt - (1 : Int32).toInt).toNat + 1) ((r_X8_sign M lo (57 : Int32)).1 - (48 : Int32)) (1 : Int32) ((r_X8_sign M lo (57 : Int32)).2)
def n_X8_number (M : jB) (lo : Int32) (most : Int32) : Prop := (((0 : Int32) ≤ M 6 5) ∧ ((M 6 2 ≤ 60) ∧ (((0 : Int32) < lo) ∧ True)))
set_option maxRecDepth 100000 in
set_option maxHeartbeats 4000000 in
theorem c_X8_number (l : Launch) (D : va_G) (ca : Nat → ClassId) (g : Nat → Nat) (M : jB) (lo : Int32) (most : Int32) (hq : n_X8_number M lo most) : jM l D ca yX8_number cX8_number 5 (some .int) 2 45 0 0 [.ref (g 0), .int lo, .int most] (mW ca g M) (jD (some (.int (r_X8_number M lo most).1)) (mW ca g ((r_X8_number M lo most).2))) := by
  refine jM_of [(0, .ref (g 0)), (1, .int lo), (2, .int most)] (by decide) (Nat.le_of_ble_eq_true rfl) rfl (fun X C E => ?_)
  rw [n_X8_number] at hq
  obtain ⟨hA, hq⟩ := hq
  obtain ⟨hT, hq⟩ := hq
  obtain ⟨hl, hq⟩ := hq
  refine j_aload_n C dX8_number_0 rfl ?_
  refine j_iload_n C dX8_number_1 rfl ?_
  refine j_bipush C dX8_number_2 (57 : Int32) (by decide) ?_
  refine j_callViW C g_X8_134 (c_X8_sign l D ca g M lo (57 : Int32) (sgn hA hT)) 0 mW_0 hcl_X8 ⟨Nat.le_of_ble_eq_true rfl, Nat.le_of_ble_eq_true rfl⟩ ⟨Nat.le_of_ble_eq_true rfl, Nat.le_of_ble_eq_true rfl⟩ rfl rfl (Nat.le_of_ble_eq_true rfl) dX8_number_4 fst_m ?_
  refine j_bipush C dX8_number_7 (48 : Int32) (by decide) ?_
  refine j_isub C dX8_number_9 ?_
  refine j_istore_n C [(3, _), (0, _), (1, _), (2, _)] dX8_number_10 (by decide) rfl ?_
  refine j_iconst C dX8_number_11 (1 : Int32) (by decide) ?_
  refine j_istore C [(4, _), (3, _), (0, _), (1, _), (2, _)] dX8_number_12 (by decide) rfl ?_
  have K14 : ∀ (n14 : Nat) (x14_3 : Int32) (x14_4 : Int32) (M14 : jB), (most.toInt - x14_4.toInt).toNat < n14 → ((0 : Int32) ≤ M14 6 5) → (M14 6 2 ≤ 60) → r_X8_number M lo most = L_X8_number_14 M lo most n14 x14_3 x14_4 M14 → J l { frames := 2, cells := 0, slots := 0, locals := 45 } D 5 X 0 0 (mW ca g M14) [(0, .ref (g 0)), (1, .int lo), (2, .int most), (3, .int x14_3), (4, .int x14_4)] [] 14 := by
    intro n14
    induction n14 with
    | zero =>
      intro x14_3 x14_4 M14 hm14
      exact absurd hm14 (Nat.not_lt_zero _)
    | succ n14 ih14 =>
      intro x14_3 x14_4 M14 hm14 hA14 hT14 hr14
      refine j_aload_n C dX8_number_14 rfl ?_
      refine j_get C f_X8_130.F 0 dX8_number_15 mW_0 rfl ?_
      refine j_if_ne (tgt := 84) C dX8_number_18 (by decide) (fun (h18 : ¬ ((M14 6 6) = (0 : Int32))) => ?_) (fun (h18 : (M14 6 6) = (0 : Int32)) => ?_)
      · refine j_iload_n C dX8_number_84 rfl ?_
        have e9 : r_X8_number M lo most = (x14_3, M14) := by rw [hr14, L_X8_number_14, if_neg h18]
        exact j_iret E dX8_number_85 (jD_i e9 (mW ca g))
      · refine j_iload_n C dX8_number_21 rfl ?_
        refine j_if_le (tgt := 84) C dX8_number_22 (by decide) (fun (h22 : x14_3 ≤ (0 : Int32)) => ?_) (fun (h22 : ¬ (x14_3 ≤ (0 : Int32))) => ?_)
        · refine j_iload_n C dX8_number_84 rfl ?_
          have e9 : r_X8_number M lo most = (x14_3, M14) := by rw [hr14, L_X8_number_14, if_pos h18, if_pos h22]
          exact j_iret E dX8_number_85 (jD_i e9 (mW ca g))
        · refine j_iload C dX8_number_25 rfl ?_
          refine j_iload_n C dX8_number_27 rfl ?_
          refine j_icmp_ge (tgt := 84) C dX8_number_28 (by decide) (fun (h28 : most ≤ x14_4) => ?_) (fun (h28 : ¬ (most ≤ x14_4)) => ?_)
          · refine j_iload_n C dX8_number_84 rfl ?_
            have e9 : r_X8_number M lo most = (x14_3, M14) := by rw [hr14, L_X8_number_14, if_pos h18, if_neg h22, if_pos h28]
            exact j_iret E dX8_number_85 (jD_i e9 (mW ca g))
          · refine j_aload_n C dX8_number_31 rfl ?_
            refine j_get C f_X8_124.F 0 dX8_number_32 mW_0 rfl ?_
            refine j_aload_n C dX8_number_35 rfl ?_
            refine j_get C f_X8_127.F 0 dX8_number_36 mW_0 rfl ?_
            refine j_icmp_ge (tgt := 84) C dX8_number_39 (by decide) (fun (h39 : (M14 6 2) ≤ (M14 6 5)) => ?_) (fun (h39 : ¬ ((M14 6 2) ≤ (M14 6 5))) => ?_)
            · refine j_iload_n C dX8_number_84 rfl ?_
              have e9 : r_X8_number M lo most = (x14_3, M14) := by rw [hr14, L_X8_number_14, if_pos h18, if_neg h22, if_neg h28, if_pos h39]
              exact j_iret E dX8_number_85 (jD_i e9 (mW ca g))
            · refine j_aload_n C dX8_number_42 rfl ?_
              refine j_get C f_X8_22.F 0 dX8_number_43 mW_0 rfl ?_
              refine j_aload_n C dX8_number_46 rfl ?_
              refine j_get C f_X8_124.F 0 dX8_number_47 mW_0 rfl ?_
              refine j_iald C 5 dX8_number_50 mW_5 (vin_b 60 rfl hA14 h39 hT14) ?_
              refine j_bipush C dX8_number_51 (48 : Int32) (by decide) ?_
              refine j_bipush C dX8_number_53 (57 : Int32) (by decide) ?_
              refine j_callSiR C g_X8_38 (c_X8_in l D ca (M14 4 (M14 6 5).toNatClampNeg) (48 : Int32) (57 : Int32)) ⟨Nat.le_of_ble_eq_true rfl, Nat.le_of_ble_eq_true rfl⟩ ⟨Nat.le_of_ble_eq_true rfl, Nat.le_of_ble_eq_true rfl⟩ [] rfl rfl rfl rfl (Nat.le_of_ble_eq_true rfl) dX8_number_55 ?_
              refine j_if_eq (tgt := 84) C dX8_number_58 (by decide) (fun (h58 : (r_X8_in (M14 4 (M14 6 5).toNatClampNeg) (48 : Int32) (57 : Int32)) = (0 : Int32)) => ?_) (fun (h58 : ¬ ((r_X8_in (M14 4 (M14 6 5).toNatClampNeg) (48 : Int32) (57 : Int32)) = (0 : Int32))) => ?_)
              · refine j_iload_n C dX8_number_84 rfl ?_
                have e9 : r_X8_number M lo most = (x14_3, M14) := by rw [hr14, L_X8_number_14, if_pos h18, if_neg h22, if_neg h28, if_neg h39, if_pos h58]
                exact j_iret E dX8_number_85 (jD_i e9 (mW ca g))
              · refine j_bipush C dX8_number_61 (10 : Int32) (by decide) ?_
                refine j_iload_n C dX8_number_63 rfl ?_
                refine j_imul C dX8_number_64 ?_
                refine j_aload_n C dX8_number_65 rfl ?_
                refine j_bipush C dX8_number_66 (48 : Int32) (by decide) ?_
                refine j_bipush C dX8_number_68 (57 : Int32) (by decide) ?_
                refine j_callViW C g_X8_134 (c_X8_sign l D ca g M14 (48 : Int32) (57 : Int32) (sgn hA14 hT14)) 0 mW_0 hcl_X8 ⟨Nat.le_of_ble_eq_true rfl, Nat.le_of_ble_eq_true rfl⟩ ⟨Nat.le_of_ble_eq_true rfl, Nat.le_of_ble_eq_true rfl⟩ rfl rfl (Nat.le_of_ble_eq_true rfl) dX8_number_70 fst_m ?_
                refine j_iadd C dX8_number_73 ?_
                refine j_bipush C dX8_number_74 (48 : Int32) (by decide) ?_
                refine j_isub C dX8_number_76 ?_
                refine j_istore_n C [(3, _), (0, _), (1, _), (2, _), (4, _)] dX8_number_77 (by decide) rfl ?_
                refine j_iinc C [(4, _), (3, _), (0, _), (1, _), (2, _)] (v := (x14_4 + (1 : Int32))) dX8_number_78 rfl (iinc_1 _) (by decide) rfl ?_
                refine j_goto (tgt := 14) C dX8_number_81 (by decide) ?_
                refine j_lv [(0, .ref (g 0)), (1, .int lo), (2, .int most), (3, .int ((((10 : Int32) * x14_3) + (r_X8_sign M14 (48 : Int32) (57 : Int32)).1) - (48 : Int32))), (4, .int (x14_4 + (1 : Int32)))] rfl ?_
                exact ih14 ((((10 : Int32) * x14_3) + (r_X8_sign M14 (48 : Int32) (57 : Int32)).1) - (48 : Int32)) (x14_4 + (1 : Int32)) ((r_X8_sign M14 (48 : Int32) (57 : Int32)).2) (jms h28 hm14) (sg_A _ hA14 (by decide)) (by rw [sg_T]; exact hT14) (by rw [hr14, L_X8_number_14, if_pos h18, if_neg h22, if_neg h28, if_neg h39, if_neg h58])
  refine j_lv [(0, .ref (g 0)), (1, .int lo), (2, .int most), (3, .int ((r_X8_sign M lo (57 : Int32)).1 - (48 : Int32))), (4, .int (1 : Int32))] rfl ?_
  exact K14 ((most.toInt - (1 : Int32).toInt).toNat + 1) ((r_X8_sign M lo (57 : Int32)).1 - (48 : Int32)) (1 : Int32) ((r_X8_sign M lo (57 : Int32)).2) (Nat.lt_succ_self _) (sg_A _ hA hl) (by rw [sg_T]; exact hT) (by rw [r_X8_number])
set_option maxRecDepth 100000 in
set_option maxHeartbeats 4000000 in
theorem fo_m_0_14 {ca : Nat → ClassId} {g : Nat → Nat} {M : jB} {v : Int32} : (mW ca g M).set 0 (g 0, .inr (8, [.ref (g 1), .ref (g 2), .ref (g 3), .int (M 6 0), .ref (g 4), .int (M 6 1), .ref (g 5), .int (M 6 2), .int (M 6 3), .int (M 6 4), .ref (g 6), .int (M 6 5), .int (M 6 6), .int (M 6 7), .int (M 6 8)].set 14 (.int v))) = mW ca g (up2 M 6 8 v) := rfl
set_option maxRecDepth 100000 in
set_option maxHeartbeats 4000000 in
theorem fo_m_0_13 {ca : Nat → ClassId} {g : Nat → Nat} {M : jB} {v : Int32} : (mW ca g M).set 0 (g 0, .inr (8, [.ref (g 1), .ref (g 2), .ref (g 3), .int (M 6 0), .ref (g 4), .int (M 6 1), .ref (g 5), .int (M 6 2), .int (M 6 3), .int (M 6 4), .ref (g 6), .int (M 6 5), .int (M 6 6), .int (M 6 7), .int (M 6 8)].set 13 (.int v))) = mW ca g (up2 M 6 7 v) := rfl
set_option maxRecDepth 100000 in
set_option maxHeartbeats 4000000 in
theorem rd_35 {S : jB} {v0 : Int32} : (up2 S 6 8 v0) 6 8 = v0 := rfl
set_option maxRecDepth 100000 in
set_option maxHeartbeats 4000000 in
theorem rd_36 {S : jB} {v0 : Int32} : (up2 S 6 8 v0) 6 6 = S 6 6 := rfl
set_option maxRecDepth 100000 in
set_option maxHeartbeats 4000000 in
theorem rd_37 {S : jB} {v0 : Int32} : (up2 S 6 8 v0) 6 5 = S 6 5 := rfl
set_option maxRecDepth 100000 in
set_option maxHeartbeats 4000000 in
theorem rd_38 {S : jB} {v0 : Int32} : (up2 S 6 8 v0) 6 2 = S 6 2 := rfl
set_option maxRecDepth 100000 in
set_option maxHeartbeats 4000000 in
theorem rd_39 {S : jB} {v0 : Int32} : (up2 S 6 8 v0) 6 7 = S 6 7 := rfl
set_option maxRecDepth 100000 in
set_option maxHeartbeats 4000000 in
theorem rd_40 {S : jB} {v0 : Int32} : (up2 S 6 7 v0) 6 8 = S 6 8 := rfl
set_option maxRecDepth 100000 in
set_option maxHeartbeats 4000000 in
theorem rd_41 {S : jB} {v0 : Int32} : (up2 S 6 7 v0) 6 6 = S 6 6 := rfl
set_option maxRecDepth 100000 in
set_option maxHeartbeats 4000000 in
theorem rd_42 {S : jB} {v0 : Int32} : (up2 S 6 7 v0) 6 5 = S 6 5 := rfl
set_option maxRecDepth 100000 in
set_option maxHeartbeats 4000000 in
theorem rd_43 {S : jB} {v0 : Int32} : (up2 S 6 7 v0) 6 2 = S 6 2 := rfl

def z_X8_go_0 (M : jB) : jB := (up2 (up2 (up2 (up2 M 6 5 (0 : Int32)) 6 6 (0 : Int32)) 6 8 (0 : Int32)) 6 7 (0 : Int32))
def z_X8_go_1 (M24 : jB) : jB := (r_X8_sign ((r_X8_number M24 (48 : Int32) (2 : Int32)).2) (61 : Int32) (61 : Int32)).2
def z_X8_go_2 (M24 : jB) : jB := (up2 ((r_X8_number (z_X8_go_1 M24) (49 : Int32) (7 : Int32)).2) 6 8 (0 : Int32))
def z_X8_go_3 (M24 : jB) : jB := (up2 ((r_X8_number (z_X8_go_1 M24) (49 : Int32) (7 : Int32)).2) 6 8 (r_X8_payFault ((r_X8_number (z_X8_go_1 M24) (49 : Int32) (7 : Int32)).2) ((r_X8_number M24 (48 : Int32) (2 : Int32)).1) ((r_X8_number (z_X8_go_1 M24) (49 : Int32) (7 : Int32)).1)))
def z_X8_go_4 (M24 : jB) : jB := (r_X8_pays (z_X8_go_3 M24) ((r_X8_number M24 (48 : Int32) (2 : Int32)).1) ((r_X8_number (z_X8_go_1 M24) (49 : Int32) (7 : Int32)).1)).2
def z_X8_go_5 (M24 : jB) : jB := (up2 (z_X8_go_4 M24) 6 7 ((((r_X8_number (z_X8_go_1 M24) (49 : Int32) (7 : Int32)).2) 6 7) + (0 : Int32)))
def z_X8_go_6 (M24 : jB) : jB := (up2 (z_X8_go_4 M24) 6 7 ((((r_X8_number (z_X8_go_1 M24) (49 : Int32) (7 : Int32)).2) 6 7) + (1 : Int32)))
def L_X8_go_24 (M : jB) (isDone : Int32) : Nat → Int32 → Int32 → jB → Int32 × jB
  | 0, _, _, _ => (0, M)
  | n24 + 1, x24_2, x24_3, M24 => (if x24_3 = (0 : Int32) then (x24_2, M24) else (if isDone = (0 : Int32) then (if (((r_X8_number (z_X8_go_1 M24) (49 : Int32) (7 : Int32)).2) 6 6) = (0 : Int32) then (if (((r_X8_number (z_X8_go_1 M24) (49 : Int32) (7 : Int32)).2) 6 2) ≤ (((r_X8_number (z_X8_go_1 M24) (49 : Int32) (7 : Int32)).2) 6 5) then L_X8_go_24 M isDone n24 (x24_2 + (1 : Int32)) (0 : Int32) (z_X8_go_2 M24) else (if (((r_X8_sign (z_X8_go_2 M24) (44 : Int32) (44 : Int32)).2) 6 6) = (0 : Int32) then L_X8_go_24 M isDone n24 (x24_2 + (1 : Int32)) (1 : Int32) ((r_X8_sign (z_X8_go_2 M24) (44 : Int32) (44 : Int32)).2) else L_X8_go_24 M isDone n24 (x24_2 + (1 : Int32)) (0 : Int32) ((r_X8_sign (z_X8_go_2 M24) (44 : Int32) (44 : Int32)).2))) else L_X8_go_24 M isDone n24 (x24_2 + (1 : Int32)) (0 : Int32) (z_X8_go_2 M24)) else (if (r_X8_payFault ((r_X8_number (z_X8_go_1 M24) (49 : Int32) (7 : Int32)).2) ((r_X8_number M24 (48 : Int32) (2 : Int32)).1) ((r_X8_number (z_X8_go_1 M24) (49 : Int32) (7 : Int32)).1)) = (0 : Int32) then (if (r_X8_pays (z_X8_go_3 M24) ((r_X8_number M24 (48 : Int32) (2 : Int32)).1) ((r_X8_number (z_X8_go_1 M24) (49 : Int32) (7 : Int32)).1)).1 = (0 : Int32) then (if ((z_X8_go_4 M24) 6 8) = (0 : Int32) then (if ((z_X8_go_4 M24) 6 6) = (0 : Int32) then (if ((z_X8_go_4 M24) 6 2) ≤ ((z_X8_go_4 M24) 6 5) then L_X8_go_24 M isDone n24 (x24_2 + (1 : Int32)) (0 : Int32) (z_X8_go_6 M24) else (if (((r_X8_sign (z_X8_go_6 M24) (44 : Int32) (44 : Int32)).2) 6 6) = (0 : Int32) then L_X8_go_24 M isDone n24 (x24_2 + (1 : Int32)) (1 : Int32) ((r_X8_sign (z_X8_go_6 M24) (44 : Int32) (44 : Int32)).2) else L_X8_go_24 M isDone n24 (x24_2 + (1 : Int32)) (0 : Int32) ((r_X8_sign (z_X8_go_6 M24) (44 : Int32) (44 : Int32)).2))) else L_X8_go_24 M isDone n24 (x24_2 + (1 : Int32)) (0 : Int32) (z_X8_go_6 M24)) else (if ((z_X8_go_4 M24) 6 6) = (0 : Int32) then L_X8_go_24 M isDone n24 (x24_2 + (0 : Int32)) (0 : Int32) (z_X8_go_6 M24) else L_X8_go_24 M isDone n24 (x24_2 + (0 : Int32)) (0 : Int32) (z_X8_go_6 M24))) else (if ((z_X8_go_4 M24) 6 8) = (0 : Int32) then (if ((z_X8_go_4 M24) 6 6) = (0 : Int32) then (if ((z_X8_go_4 M24) 6 2) ≤ ((z_X8_go_4 M24) 6 5) then L_X8_go_24 M isDone n24 (x24_2 + (1 : Int32)) (0 : Int32) (z_X8_go_5 M24) else (if (((r_X8_sign (z_X8_go_5 M24) (44 : Int32) (44 : Int32)).2) 6 6) = (0 : Int32) then L_X8_go_24 M isDone n24 (x24_2 + (1 : Int32)) (1 : Int32) ((r_X8_sign (z_X8_go_5 M24) (44 : Int32) (44 : Int32)).2) else L_X8_go_24 M isDone n24 (x24_2 + (1 : Int32)) (0 : Int32) ((r_X8_sign (z_X8_go_5 M24) (44 : Int32) (44 : Int32)).2))) else L_X8_go_24 M isDone n24 (x24_2 + (1 : Int32)) (0 : Int32) (z_X8_go_5 M24)) else (if ((z_X8_go_4 M24) 6 6) = (0 : Int32) then L_X8_go_24 M isDone n24 (x24_2 + (0 : Int32)) (0 : Int32) (z_X8_go_5 M24) else L_X8_go_24 M isDone n24 (x24_2 + (0 : Int32)) (0 : Int32) (z_X8_go_5 M24)))) else (if (((r_X8_number (z_X8_go_1 M24) (49 : Int32) (7 : Int32)).2) 6 6) = (0 : Int32) then L_X8_go_24 M isDone n24 (x24_2 + (0 : Int32)) (0 : Int32) (z_X8_go_3 M24) else L_X8_go_24 M isDone n24 (x24_2 + (0 : Int32)) (0 : Int32) (z_X8_go_3 M24)))))
def NL_X8_go_24 (M : jB) (isDone : Int32) : Nat → Int32 → Int32 → jB → Prop
  | 0, _, _, _ => False
  | n24 + 1, x24_2, x24_3, M24 => ((x24_3 = (0 : Int32) → True) ∧ (¬ (x24_3 = (0 : Int32)) → ((n_X8_number M24 (48 : Int32) (2 : Int32)) ∧ ((n_X8_sign ((r_X8_number M24 (48 : Int32) (2 : Int32)).2) (61 : Int32) (61 : Int32)) ∧ ((n_X8_number (z_X8_go_1 M24) (49 : Int32) (7 : Int32)) ∧ ((isDone = (0 : Int32) → (((((r_X8_number (z_X8_go_1 M24) (49 : Int32) (7 : Int32)).2) 6 6) = (0 : Int32) → (((((r_X8_number (z_X8_go_1 M24) (49 : Int32) (7 : Int32)).2) 6 2) ≤ (((r_X8_number (z_X8_go_1 M24) (49 : Int32) (7 : Int32)).2) 6 5) → NL_X8_go_24 M isDone n24 (x24_2 + (1 : Int32)) (0 : Int32) (z_X8_go_2 M24)) ∧ (¬ ((((r_X8_number (z_X8_go_1 M24) (49 : Int32) (7 : Int32)).2) 6 2) ≤ (((r_X8_number (z_X8_go_1 M24) (49 : Int32) (7 : Int32)).2) 6 5)) → ((n_X8_sign (z_X8_go_2 M24) (44 : Int32) (44 : Int32)) ∧ (((((r_X8_sign (z_X8_go_2 M24) (44 : Int32) (44 : Int32)).2) 6 6) = (0 : Int32) → NL_X8_go_24 M isDone n24 (x24_2 + (1 : Int32)) (1 : Int32) ((r_X8_sign (z_X8_go_2 M24) (44 : Int32) (44 : Int32)).2)) ∧ (¬ ((((r_X8_sign (z_X8_go_2 M24) (44 : Int32) (44 : Int32)).2) 6 6) = (0 : Int32)) → NL_X8_go_24 M isDone n24 (x24_2 + (1 : Int32)) (0 : Int32) ((r_X8_sign (z_X8_go_2 M24) (44 : Int32) (44 : Int32)).2))))))) ∧ (¬ ((((r_X8_number (z_X8_go_1 M24) (49 : Int32) (7 : Int32)).2) 6 6) = (0 : Int32)) → NL_X8_go_24 M isDone n24 (x24_2 + (1 : Int32)) (0 : Int32) (z_X8_go_2 M24)))) ∧ (¬ (isDone = (0 : Int32)) → ((n_X8_payFault ((r_X8_number (z_X8_go_1 M24) (49 : Int32) (7 : Int32)).2) ((r_X8_number M24 (48 : Int32) (2 : Int32)).1) ((r_X8_number (z_X8_go_1 M24) (49 : Int32) (7 : Int32)).1)) ∧ (((r_X8_payFault ((r_X8_number (z_X8_go_1 M24) (49 : Int32) (7 : Int32)).2) ((r_X8_number M24 (48 : Int32) (2 : Int32)).1) ((r_X8_number (z_X8_go_1 M24) (49 : Int32) (7 : Int32)).1)) = (0 : Int32) → ((n_X8_pays (z_X8_go_3 M24) ((r_X8_number M24 (48 : Int32) (2 : Int32)).1) ((r_X8_number (z_X8_go_1 M24) (49 : Int32) (7 : Int32)).1)) ∧ (((r_X8_pays (z_X8_go_3 M24) ((r_X8_number M24 (48 : Int32) (2 : Int32)).1) ((r_X8_number (z_X8_go_1 M24) (49 : Int32) (7 : Int32)).1)).1 = (0 : Int32) → ((((z_X8_go_4 M24) 6 8) = (0 : Int32) → ((((z_X8_go_4 M24) 6 6) = (0 : Int32) → ((((z_X8_go_4 M24) 6 2) ≤ ((z_X8_go_4 M24) 6 5) → NL_X8_go_24 M isDone n24 (x24_2 + (1 : Int32)) (0 : Int32) (z_X8_go_6 M24)) ∧ (¬ (((z_X8_go_4 M24) 6 2) ≤ ((z_X8_go_4 M24) 6 5)) → ((n_X8_sign (z_X8_go_6 M24) (44 : Int32) (44 : Int32)) ∧ (((((r_X8_sign (z_X8_go_6 M24) (44 : Int32) (44 : Int32)).2) 6 6) = (0 : Int32) → NL_X8_go_24 M isDone n24 (x24_2 + (1 : Int32)) (1 : Int32) ((r_X8_sign (z_X8_go_6 M24) (44 : Int32) (44 : Int32)).2)) ∧ (¬ ((((r_X8_sign (z_X8_go_6 M24) (44 : Int32) (44 : Int32)).2) 6 6) = (0 : Int32)) → NL_X8_go_24 M isDone n24 (x24_2 + (1 : Int32)) (0 : Int32) ((r_X8_sign (z_X8_go_6 M24) (44 : Int32) (44 : Int32)).2))))))) ∧ (¬ (((z_X8_go_4 M24) 6 6) = (0 : Int32)) → NL_X8_go_24 M isDone n24 (x24_2 + (1 : Int32)) (0 : Int32) (z_X8_go_6 M24)))) ∧ (¬ (((z_X8_go_4 M24) 6 8) = (0 : Int32)) → ((((z_X8_go_4 M24) 6 6) = (0 : Int32) → NL_X8_go_24 M isDone n24 (x24_2 + (0 : Int32)) (0 : Int32) (z_X8_go_6 M24)) ∧ (¬ (((z_X8_go_4 M24) 6 6) = (0 : Int32)) → NL_X8_go_24 M isDone n24 (x24_2 + (0 : Int32)) (0 : Int32) (z_X8_go_6 M24)))))) ∧ (¬ ((r_X8_pays (z_X8_go_3 M24) ((r_X8_number M24 (48 : Int32) (2 : Int32)).1) ((r_X8_number (z_X8_go_1 M24) (49 : Int32) (7 : Int32)).1)).1 = (0 : Int32)) → ((((z_X8_go_4 M24) 6 8) = (0 : Int32) → ((((z_X8_go_4 M24) 6 6) = (0 : Int32) → ((((z_X8_go_4 M24) 6 2) ≤ ((z_X8_go_4 M24) 6 5) → NL_X8_go_24 M isDone n24 (x24_2 + (1 : Int32)) (0 : Int32) (z_X8_go_5 M24)) ∧ (¬ (((z_X8_go_4 M24) 6 2) ≤ ((z_X8_go_4 M24) 6 5)) → ((n_X8_sign (z_X8_go_5 M24) (44 : Int32) (44 : Int32)) ∧ (((((r_X8_sign (z_X8_go_5 M24) (44 : Int32) (44 : Int32)).2) 6 6) = (0 : Int32) → NL_X8_go_24 M isDone n24 (x24_2 + (1 : Int32)) (1 : Int32) ((r_X8_sign (z_X8_go_5 M24) (44 : Int32) (44 : Int32)).2)) ∧ (¬ ((((r_X8_sign (z_X8_go_5 M24) (44 : Int32) (44 : Int32)).2) 6 6) = (0 : Int32)) → NL_X8_go_24 M isDone n24 (x24_2 + (1 : Int32)) (0 : Int32) ((r_X8_sign (z_X8_go_5 M24) (44 : Int32) (44 : Int32)).2))))))) ∧ (¬ (((z_X8_go_4 M24) 6 6) = (0 : Int32)) → NL_X8_go_24 M isDone n24 (x24_2 + (1 : Int32)) (0 : Int32) (z_X8_go_5 M24)))) ∧ (¬ (((z_X8_go_4 M24) 6 8) = (0 : Int32)) → ((((z_X8_go_4 M24) 6 6) = (0 : Int32) → NL_X8_go_24 M isDone n24 (x24_2 + (0 : Int32)) (0 : Int32) (z_X8_go_5 M24)) ∧ (¬ (((z_X8_go_4 M24) 6 6) = (0 : Int32)) → NL_X8_go_24 M isDone n24 (x24_2 + (0 : Int32)) (0 : Int32) (z_X8_go_5 M24))))))))) ∧ (¬ ((r_X8_payFault ((r_X8_number (z_X8_go_1 M24) (49 : Int32) (7 : Int32)).2) ((r_X8_number M24 (48 : Int32) (2 : Int32)).1) ((r_X8_number (z_X8_go_1 M24) (49 : Int32) (7 : Int32)).1)) = (0 : Int32)) → (((((r_X8_number (z_X8_go_1 M24) (49 : Int32) (7 : Int32)).2) 6 6) = (0 : Int32) → NL_X8_go_24 M isDone n24 (x24_2 + (0 : Int32)) (0 : Int32) (z_X8_go_3 M24)) ∧ (¬ ((((r_X8_number (z_X8_go_1 M24) (49 : Int32) (7 : Int32)).2) 6 6) = (0 : Int32)) → NL_X8_go_24 M isDone n24 (x24_2 + (0 : Int32)) (0 : Int32) (z_X8_go_3 M24)))))))))))))
def r_X8_go (M : jB) (isDone : Int32) : Int32 × jB := L_X8_go_24 M isDone 61 (0 : Int32) (1 : Int32) (z_X8_go_0 M)
def n_X8_go (M : jB) (isDone : Int32) : Prop := NL_X8_go_24 M isDone 61 (0 : Int32) (1 : Int32) (z_X8_go_0 M)
set_option maxRecDepth 100000 in
set_option maxHeartbeats 4000000 in
theorem c_X8_go (l : Launch) (D : va_G) (ca : Nat → ClassId) (g : Nat → Nat) (M : jB) (isDone : Int32) (hq : n_X8_go M isDone) : jM l D ca yX8_go cX8_go 8 (some .int) 3 72 0 0 [.ref (g 0), .int isDone] (mW ca g M) (jD (some (.int (r_X8_go M isDone).1)) (mW ca g ((r_X8_go M isDone).2))) := by
  refine jM_of [(0, .ref (g 0)), (1, .int isDone)] (by decide) (Nat.le_of_ble_eq_true rfl) rfl (fun X C E => ?_)
  rw [n_X8_go] at hq
  refine j_aload_n C dX8_go_0 rfl ?_
  refine j_iconst C dX8_go_1 (0 : Int32) (by decide) ?_
  refine j_put C f_X8_124 0 dX8_go_2 mW_0 (Nat.le_of_ble_eq_true rfl) rfl rfl ?_
  refine j_ws (ws' := (mW ca g (up2 M 6 5 (0 : Int32)))) fo_m_0_11 ?_
  refine j_aload_n C dX8_go_5 rfl ?_
  refine j_iconst C dX8_go_6 (0 : Int32) (by decide) ?_
  refine j_put C f_X8_130 0 dX8_go_7 mW_0 (Nat.le_of_ble_eq_true rfl) rfl rfl ?_
  refine j_ws (ws' := (mW ca g (up2 (up2 M 6 5 (0 : Int32)) 6 6 (0 : Int32)))) fo_m_0_12 ?_
  refine j_aload_n C dX8_go_10 rfl ?_
  refine j_iconst C dX8_go_11 (0 : Int32) (by decide) ?_
  refine j_put C f_X8_137 0 dX8_go_12 mW_0 (Nat.le_of_ble_eq_true rfl) rfl rfl ?_
  refine j_ws (ws' := (mW ca g (up2 (up2 (up2 M 6 5 (0 : Int32)) 6 6 (0 : Int32)) 6 8 (0 : Int32)))) fo_m_0_14 ?_
  refine j_aload_n C dX8_go_15 rfl ?_
  refine j_iconst C dX8_go_16 (0 : Int32) (by decide) ?_
  refine j_put C f_X8_140 0 dX8_go_17 mW_0 (Nat.le_of_ble_eq_true rfl) rfl rfl ?_
  refine j_ws (ws' := (mW ca g (z_X8_go_0 M))) fo_m_0_13 ?_
  refine j_iconst C dX8_go_20 (0 : Int32) (by decide) ?_
  refine j_istore_n C [(2, _), (0, _), (1, _)] dX8_go_21 (by decide) rfl ?_
  refine j_iconst C dX8_go_22 (1 : Int32) (by decide) ?_
  refine j_istore_n C [(3, _), (2, _), (0, _), (1, _)] dX8_go_23 (by decide) rfl ?_
  have K24 : ∀ (n24 : Nat) (x24_2 : Int32) (x24_3 : Int32) (M24 : jB), NL_X8_go_24 M isDone n24 x24_2 x24_3 M24 → r_X8_go M isDone = L_X8_go_24 M isDone n24 x24_2 x24_3 M24 → J l { frames := 3, cells := 0, slots := 0, locals := 72 } D 8 X 0 0 (mW ca g M24) [(0, .ref (g 0)), (1, .int isDone), (2, .int x24_2), (3, .int x24_3)] [] 24 := by
    intro n24
    induction n24 with
    | zero =>
      intro x24_2 x24_3 M24 hq
      rw [NL_X8_go_24] at hq
      exact hq.elim
    | succ n24 ih24 =>
      intro x24_2 x24_3 M24 hq hr24
      rw [NL_X8_go_24] at hq
      refine j_iload_n C dX8_go_24 rfl ?_
      refine j_if_eq (tgt := 189) C dX8_go_25 (by decide) (fun (h25 : x24_3 = (0 : Int32)) => ?_) (fun (h25 : ¬ (x24_3 = (0 : Int32))) => ?_)
      · have hq := hq.1 h25
        refine j_iload_n C dX8_go_189 rfl ?_
        have e9 : r_X8_go M isDone = (x24_2, M24) := by rw [hr24, L_X8_go_24, if_pos h25]
        exact j_iret E dX8_go_190 (jD_i e9 (mW ca g))
      · have hq := hq.2 h25
        refine j_aload_n C dX8_go_28 rfl ?_
        refine j_bipush C dX8_go_29 (48 : Int32) (by decide) ?_
        refine j_iconst C dX8_go_31 (2 : Int32) (by decide) ?_
        obtain ⟨hv, hq⟩ := hq
        refine j_callViW C g_X8_143 (c_X8_number l D ca g M24 (48 : Int32) (2 : Int32) hv) 0 mW_0 hcl_X8 ⟨Nat.le_of_ble_eq_true rfl, Nat.le_of_ble_eq_true rfl⟩ ⟨Nat.le_of_ble_eq_true rfl, Nat.le_of_ble_eq_true rfl⟩ rfl rfl (Nat.le_of_ble_eq_true rfl) dX8_go_32 fst_m ?_
        refine j_istore C [(4, _), (0, _), (1, _), (2, _), (3, _)] dX8_go_35 (by decide) rfl ?_
        refine j_aload_n C dX8_go_37 rfl ?_
        refine j_bipush C dX8_go_38 (61 : Int32) (by decide) ?_
        refine j_bipush C dX8_go_40 (61 : Int32) (by decide) ?_
        obtain ⟨hv, hq⟩ := hq
        refine j_callViW C g_X8_134 (c_X8_sign l D ca g ((r_X8_number M24 (48 : Int32) (2 : Int32)).2) (61 : Int32) (61 : Int32) hv) 0 mW_0 hcl_X8 ⟨Nat.le_of_ble_eq_true rfl, Nat.le_of_ble_eq_true rfl⟩ ⟨Nat.le_of_ble_eq_true rfl, Nat.le_of_ble_eq_true rfl⟩ rfl rfl (Nat.le_of_ble_eq_true rfl) dX8_go_42 fst_m ?_
        refine j_ws (ws' := (mW ca g (z_X8_go_1 M24))) (by rw [z_X8_go_1]) ?_
        refine j_istore C [(5, _), (4, _), (0, _), (1, _), (2, _), (3, _)] dX8_go_45 (by decide) rfl ?_
        refine j_aload_n C dX8_go_47 rfl ?_
        refine j_bipush C dX8_go_48 (49 : Int32) (by decide) ?_
        refine j_bipush C dX8_go_50 (7 : Int32) (by decide) ?_
        obtain ⟨hv, hq⟩ := hq
        refine j_callViW C g_X8_143 (c_X8_number l D ca g (z_X8_go_1 M24) (49 : Int32) (7 : Int32) hv) 0 mW_0 hcl_X8 ⟨Nat.le_of_ble_eq_true rfl, Nat.le_of_ble_eq_true rfl⟩ ⟨Nat.le_of_ble_eq_true rfl, Nat.le_of_ble_eq_true rfl⟩ rfl rfl (Nat.le_of_ble_eq_true rfl) dX8_go_52 fst_m ?_
        refine j_istore C [(6, _), (5, _), (4, _), (0, _), (1, _), (2, _), (3, _)] dX8_go_55 (by decide) rfl ?_
        refine j_aload_n C dX8_go_57 rfl ?_
        refine j_iload_n C dX8_go_58 rfl ?_
        refine j_if_eq (tgt := 73) C dX8_go_59 (by decide) (fun (h59 : isDone = (0 : Int32)) => ?_) (fun (h59 : ¬ (isDone = (0 : Int32))) => ?_)
        · have hq := hq.1 h59
          refine j_iconst C dX8_go_73 (0 : Int32) (by decide) ?_
          refine j_put C f_X8_137 0 dX8_go_74 mW_0 (Nat.le_of_ble_eq_true rfl) rfl rfl ?_
          refine j_ws (ws' := (mW ca g (z_X8_go_2 M24))) fo_m_0_14 ?_
          refine j_iload_n C dX8_go_77 rfl ?_
          refine j_if_eq (tgt := 113) C dX8_go_78 (by decide) (fun _ => ?_) (fun h => absurd h59 h)
          refine j_iload_n C dX8_go_113 rfl ?_
          refine j_aload_n C dX8_go_114 rfl ?_
          refine j_get C f_X8_137.F 0 dX8_go_115 mW_0 rfl ?_
          refine j_sti rd_35 ?_
          refine j_if_ne (tgt := 125) C dX8_go_118 (by decide) (fun h => absurd (by decide) h) (fun _ => ?_)
          refine j_iconst C dX8_go_121 (1 : Int32) (by decide) ?_
          refine j_goto (tgt := 126) C dX8_go_122 (by decide) ?_
          refine j_iadd C dX8_go_126 ?_
          refine j_istore_n C [(2, _), (6, _), (5, _), (4, _), (0, _), (1, _), (3, _)] dX8_go_127 (by decide) rfl ?_
          refine j_aload_n C dX8_go_128 rfl ?_
          refine j_get C f_X8_130.F 0 dX8_go_129 mW_0 rfl ?_
          refine j_sti rd_36 ?_
          refine j_if_ne (tgt := 157) C dX8_go_132 (by decide) (fun (h132 : ¬ ((((r_X8_number (z_X8_go_1 M24) (49 : Int32) (7 : Int32)).2) 6 6) = (0 : Int32))) => ?_) (fun (h132 : (((r_X8_number (z_X8_go_1 M24) (49 : Int32) (7 : Int32)).2) 6 6) = (0 : Int32)) => ?_)
          · have hq := hq.2 h132
            refine j_iconst C dX8_go_157 (0 : Int32) (by decide) ?_
            refine j_istore_n C [(3, _), (2, _), (6, _), (5, _), (4, _), (0, _), (1, _)] dX8_go_158 (by decide) rfl ?_
            refine j_iload_n C dX8_go_159 rfl ?_
            refine j_if_eq (tgt := 186) C dX8_go_160 (by decide) (fun _ => ?_) (fun h => absurd (by decide) h)
            refine j_goto (tgt := 24) C dX8_go_186 (by decide) ?_
            refine j_lv [(0, .ref (g 0)), (1, .int isDone), (2, .int (x24_2 + (1 : Int32))), (3, .int (0 : Int32))] rfl ?_
            exact ih24 (x24_2 + (1 : Int32)) (0 : Int32) (z_X8_go_2 M24)  hq (by rw [hr24, L_X8_go_24, if_neg h25, if_pos h59, if_neg h132])
          · have hq := hq.1 h132
            refine j_aload_n C dX8_go_135 rfl ?_
            refine j_get C f_X8_137.F 0 dX8_go_136 mW_0 rfl ?_
            refine j_sti rd_35 ?_
            refine j_if_ne (tgt := 157) C dX8_go_139 (by decide) (fun h => absurd (by decide) h) (fun _ => ?_)
            refine j_aload_n C dX8_go_142 rfl ?_
            refine j_get C f_X8_124.F 0 dX8_go_143 mW_0 rfl ?_
            refine j_sti rd_37 ?_
            refine j_aload_n C dX8_go_146 rfl ?_
            refine j_get C f_X8_127.F 0 dX8_go_147 mW_0 rfl ?_
            refine j_sti rd_38 ?_
            refine j_icmp_ge (tgt := 157) C dX8_go_150 (by decide) (fun (h150 : (((r_X8_number (z_X8_go_1 M24) (49 : Int32) (7 : Int32)).2) 6 2) ≤ (((r_X8_number (z_X8_go_1 M24) (49 : Int32) (7 : Int32)).2) 6 5)) => ?_) (fun (h150 : ¬ ((((r_X8_number (z_X8_go_1 M24) (49 : Int32) (7 : Int32)).2) 6 2) ≤ (((r_X8_number (z_X8_go_1 M24) (49 : Int32) (7 : Int32)).2) 6 5))) => ?_)
            · have hq := hq.1 h150
              refine j_iconst C dX8_go_157 (0 : Int32) (by decide) ?_
              refine j_istore_n C [(3, _), (2, _), (6, _), (5, _), (4, _), (0, _), (1, _)] dX8_go_158 (by decide) rfl ?_
              refine j_iload_n C dX8_go_159 rfl ?_
              refine j_if_eq (tgt := 186) C dX8_go_160 (by decide) (fun _ => ?_) (fun h => absurd (by decide) h)
              refine j_goto (tgt := 24) C dX8_go_186 (by decide) ?_
              refine j_lv [(0, .ref (g 0)), (1, .int isDone), (2, .int (x24_2 + (1 : Int32))), (3, .int (0 : Int32))] rfl ?_
              exact ih24 (x24_2 + (1 : Int32)) (0 : Int32) (z_X8_go_2 M24)  hq (by rw [hr24, L_X8_go_24, if_neg h25, if_pos h59, if_pos h132, if_pos h150])
            · have hq := hq.2 h150
              refine j_iconst C dX8_go_153 (1 : Int32) (by decide) ?_
              refine j_goto (tgt := 158) C dX8_go_154 (by decide) ?_
              refine j_istore_n C [(3, _), (2, _), (6, _), (5, _), (4, _), (0, _), (1, _)] dX8_go_158 (by decide) rfl ?_
              refine j_iload_n C dX8_go_159 rfl ?_
              refine j_if_eq (tgt := 186) C dX8_go_160 (by decide) (fun h => absurd h (by decide)) (fun _ => ?_)
              refine j_aload_n C dX8_go_163 rfl ?_
              refine j_bipush C dX8_go_164 (44 : Int32) (by decide) ?_
              refine j_bipush C dX8_go_166 (44 : Int32) (by decide) ?_
              obtain ⟨hv, hq⟩ := hq
              refine j_callViW C g_X8_134 (c_X8_sign l D ca g (z_X8_go_2 M24) (44 : Int32) (44 : Int32) hv) 0 mW_0 hcl_X8 ⟨Nat.le_of_ble_eq_true rfl, Nat.le_of_ble_eq_true rfl⟩ ⟨Nat.le_of_ble_eq_true rfl, Nat.le_of_ble_eq_true rfl⟩ rfl rfl (Nat.le_of_ble_eq_true rfl) dX8_go_168 fst_m ?_
              refine j_istore C [(7, _), (3, _), (2, _), (6, _), (5, _), (4, _), (0, _), (1, _)] dX8_go_171 (by decide) rfl ?_
              refine j_aload_n C dX8_go_173 rfl ?_
              refine j_get C f_X8_130.F 0 dX8_go_174 mW_0 rfl ?_
              refine j_if_ne (tgt := 184) C dX8_go_177 (by decide) (fun (h177 : ¬ ((((r_X8_sign (z_X8_go_2 M24) (44 : Int32) (44 : Int32)).2) 6 6) = (0 : Int32))) => ?_) (fun (h177 : (((r_X8_sign (z_X8_go_2 M24) (44 : Int32) (44 : Int32)).2) 6 6) = (0 : Int32)) => ?_)
              · have hq := hq.2 h177
                refine j_iconst C dX8_go_184 (0 : Int32) (by decide) ?_
                refine j_istore_n C [(3, _), (7, _), (2, _), (6, _), (5, _), (4, _), (0, _), (1, _)] dX8_go_185 (by decide) rfl ?_
                refine j_goto (tgt := 24) C dX8_go_186 (by decide) ?_
                refine j_lv [(0, .ref (g 0)), (1, .int isDone), (2, .int (x24_2 + (1 : Int32))), (3, .int (0 : Int32))] rfl ?_
                exact ih24 (x24_2 + (1 : Int32)) (0 : Int32) ((r_X8_sign (z_X8_go_2 M24) (44 : Int32) (44 : Int32)).2)  hq (by rw [hr24, L_X8_go_24, if_neg h25, if_pos h59, if_pos h132, if_neg h150, if_neg h177])
              · have hq := hq.1 h177
                refine j_iconst C dX8_go_180 (1 : Int32) (by decide) ?_
                refine j_goto (tgt := 185) C dX8_go_181 (by decide) ?_
                refine j_istore_n C [(3, _), (7, _), (2, _), (6, _), (5, _), (4, _), (0, _), (1, _)] dX8_go_185 (by decide) rfl ?_
                refine j_goto (tgt := 24) C dX8_go_186 (by decide) ?_
                refine j_lv [(0, .ref (g 0)), (1, .int isDone), (2, .int (x24_2 + (1 : Int32))), (3, .int (1 : Int32))] rfl ?_
                exact ih24 (x24_2 + (1 : Int32)) (1 : Int32) ((r_X8_sign (z_X8_go_2 M24) (44 : Int32) (44 : Int32)).2)  hq (by rw [hr24, L_X8_go_24, if_neg h25, if_pos h59, if_pos h132, if_neg h150, if_pos h177])
        · have hq := hq.2 h59
          refine j_aload_n C dX8_go_62 rfl ?_
          refine j_iload C dX8_go_63 rfl ?_
          refine j_iload C dX8_go_65 rfl ?_
          obtain ⟨hv, hq⟩ := hq
          refine j_callViRW C g_X8_111 (c_X8_payFault l D ca g ((r_X8_number (z_X8_go_1 M24) (49 : Int32) (7 : Int32)).2) ((r_X8_number M24 (48 : Int32) (2 : Int32)).1) ((r_X8_number (z_X8_go_1 M24) (49 : Int32) (7 : Int32)).1) hv) 0 mW_0 hcl_X8 ⟨Nat.le_of_ble_eq_true rfl, Nat.le_of_ble_eq_true rfl⟩ ⟨Nat.le_of_ble_eq_true rfl, Nat.le_of_ble_eq_true rfl⟩ rfl rfl (Nat.le_of_ble_eq_true rfl) dX8_go_67 ?_
          refine j_goto (tgt := 74) C dX8_go_70 (by decide) ?_
          refine j_put C f_X8_137 0 dX8_go_74 mW_0 (Nat.le_of_ble_eq_true rfl) rfl rfl ?_
          refine j_ws (ws' := (mW ca g (z_X8_go_3 M24))) fo_m_0_14 ?_
          refine j_iload_n C dX8_go_77 rfl ?_
          refine j_if_eq (tgt := 113) C dX8_go_78 (by decide) (fun h => absurd h h59) (fun _ => ?_)
          refine j_aload_n C dX8_go_81 rfl ?_
          refine j_get C f_X8_137.F 0 dX8_go_82 mW_0 rfl ?_
          refine j_sti rd_35 ?_
          refine j_if_ne (tgt := 113) C dX8_go_85 (by decide) (fun (h85 : ¬ ((r_X8_payFault ((r_X8_number (z_X8_go_1 M24) (49 : Int32) (7 : Int32)).2) ((r_X8_number M24 (48 : Int32) (2 : Int32)).1) ((r_X8_number (z_X8_go_1 M24) (49 : Int32) (7 : Int32)).1)) = (0 : Int32))) => ?_) (fun (h85 : (r_X8_payFault ((r_X8_number (z_X8_go_1 M24) (49 : Int32) (7 : Int32)).2) ((r_X8_number M24 (48 : Int32) (2 : Int32)).1) ((r_X8_number (z_X8_go_1 M24) (49 : Int32) (7 : Int32)).1)) = (0 : Int32)) => ?_)
          · have hq := hq.2 h85
            refine j_iload_n C dX8_go_113 rfl ?_
            refine j_aload_n C dX8_go_114 rfl ?_
            refine j_get C f_X8_137.F 0 dX8_go_115 mW_0 rfl ?_
            refine j_sti rd_35 ?_
            refine j_if_ne (tgt := 125) C dX8_go_118 (by decide) (fun _ => ?_) (fun h => absurd h h85)
            refine j_iconst C dX8_go_125 (0 : Int32) (by decide) ?_
            refine j_iadd C dX8_go_126 ?_
            refine j_istore_n C [(2, _), (6, _), (5, _), (4, _), (0, _), (1, _), (3, _)] dX8_go_127 (by decide) rfl ?_
            refine j_aload_n C dX8_go_128 rfl ?_
            refine j_get C f_X8_130.F 0 dX8_go_129 mW_0 rfl ?_
            refine j_sti rd_36 ?_
            refine j_if_ne (tgt := 157) C dX8_go_132 (by decide) (fun (h132 : ¬ ((((r_X8_number (z_X8_go_1 M24) (49 : Int32) (7 : Int32)).2) 6 6) = (0 : Int32))) => ?_) (fun (h132 : (((r_X8_number (z_X8_go_1 M24) (49 : Int32) (7 : Int32)).2) 6 6) = (0 : Int32)) => ?_)
            · have hq := hq.2 h132
              refine j_iconst C dX8_go_157 (0 : Int32) (by decide) ?_
              refine j_istore_n C [(3, _), (2, _), (6, _), (5, _), (4, _), (0, _), (1, _)] dX8_go_158 (by decide) rfl ?_
              refine j_iload_n C dX8_go_159 rfl ?_
              refine j_if_eq (tgt := 186) C dX8_go_160 (by decide) (fun _ => ?_) (fun h => absurd (by decide) h)
              refine j_goto (tgt := 24) C dX8_go_186 (by decide) ?_
              refine j_lv [(0, .ref (g 0)), (1, .int isDone), (2, .int (x24_2 + (0 : Int32))), (3, .int (0 : Int32))] rfl ?_
              exact ih24 (x24_2 + (0 : Int32)) (0 : Int32) (z_X8_go_3 M24)  hq (by rw [hr24, L_X8_go_24, if_neg h25, if_neg h59, if_neg h85, if_neg h132])
            · have hq := hq.1 h132
              refine j_aload_n C dX8_go_135 rfl ?_
              refine j_get C f_X8_137.F 0 dX8_go_136 mW_0 rfl ?_
              refine j_sti rd_35 ?_
              refine j_if_ne (tgt := 157) C dX8_go_139 (by decide) (fun _ => ?_) (fun h => absurd h h85)
              refine j_iconst C dX8_go_157 (0 : Int32) (by decide) ?_
              refine j_istore_n C [(3, _), (2, _), (6, _), (5, _), (4, _), (0, _), (1, _)] dX8_go_158 (by decide) rfl ?_
              refine j_iload_n C dX8_go_159 rfl ?_
              refine j_if_eq (tgt := 186) C dX8_go_160 (by decide) (fun _ => ?_) (fun h => absurd (by decide) h)
              refine j_goto (tgt := 24) C dX8_go_186 (by decide) ?_
              refine j_lv [(0, .ref (g 0)), (1, .int isDone), (2, .int (x24_2 + (0 : Int32))), (3, .int (0 : Int32))] rfl ?_
              exact ih24 (x24_2 + (0 : Int32)) (0 : Int32) (z_X8_go_3 M24)  hq (by rw [hr24, L_X8_go_24, if_neg h25, if_neg h59, if_neg h85, if_pos h132])
          · have hq := hq.1 h85
            refine j_aload_n C dX8_go_88 rfl ?_
            refine j_dup C dX8_go_89 rfl ?_
            refine j_get C f_X8_140.F 0 dX8_go_90 mW_0 rfl ?_
            refine j_sti rd_39 ?_
            refine j_aload_n C dX8_go_93 rfl ?_
            refine j_iload C dX8_go_94 rfl ?_
            refine j_iload C dX8_go_96 rfl ?_
            obtain ⟨hv, hq⟩ := hq
            refine j_callViW C g_X8_114 (c_X8_pays l D ca g (z_X8_go_3 M24) ((r_X8_number M24 (48 : Int32) (2 : Int32)).1) ((r_X8_number (z_X8_go_1 M24) (49 : Int32) (7 : Int32)).1) hv) 0 mW_0 hcl_X8 ⟨Nat.le_of_ble_eq_true rfl, Nat.le_of_ble_eq_true rfl⟩ ⟨Nat.le_of_ble_eq_true rfl, Nat.le_of_ble_eq_true rfl⟩ rfl rfl (Nat.le_of_ble_eq_true rfl) dX8_go_98 fst_m ?_
            refine j_ws (ws' := (mW ca g (z_X8_go_4 M24))) (by rw [z_X8_go_4]) ?_
            refine j_if_ne (tgt := 108) C dX8_go_101 (by decide) (fun (h101 : ¬ ((r_X8_pays (z_X8_go_3 M24) ((r_X8_number M24 (48 : Int32) (2 : Int32)).1) ((r_X8_number (z_X8_go_1 M24) (49 : Int32) (7 : Int32)).1)).1 = (0 : Int32))) => ?_) (fun (h101 : (r_X8_pays (z_X8_go_3 M24) ((r_X8_number M24 (48 : Int32) (2 : Int32)).1) ((r_X8_number (z_X8_go_1 M24) (49 : Int32) (7 : Int32)).1)).1 = (0 : Int32)) => ?_)
            · have hq := hq.2 h101
              refine j_iconst C dX8_go_108 (0 : Int32) (by decide) ?_
              refine j_iadd C dX8_go_109 ?_
              refine j_put C f_X8_140 0 dX8_go_110 mW_0 (Nat.le_of_ble_eq_true rfl) rfl rfl ?_
              refine j_ws (ws' := (mW ca g (z_X8_go_5 M24))) fo_m_0_13 ?_
              refine j_iload_n C dX8_go_113 rfl ?_
              refine j_aload_n C dX8_go_114 rfl ?_
              refine j_get C f_X8_137.F 0 dX8_go_115 mW_0 rfl ?_
              refine j_sti rd_40 ?_
              refine j_if_ne (tgt := 125) C dX8_go_118 (by decide) (fun (h118 : ¬ (((z_X8_go_4 M24) 6 8) = (0 : Int32))) => ?_) (fun (h118 : ((z_X8_go_4 M24) 6 8) = (0 : Int32)) => ?_)
              · have hq := hq.2 h118
                refine j_iconst C dX8_go_125 (0 : Int32) (by decide) ?_
                refine j_iadd C dX8_go_126 ?_
                refine j_istore_n C [(2, _), (6, _), (5, _), (4, _), (0, _), (1, _), (3, _)] dX8_go_127 (by decide) rfl ?_
                refine j_aload_n C dX8_go_128 rfl ?_
                refine j_get C f_X8_130.F 0 dX8_go_129 mW_0 rfl ?_
                refine j_sti rd_41 ?_
                refine j_if_ne (tgt := 157) C dX8_go_132 (by decide) (fun (h132 : ¬ (((z_X8_go_4 M24) 6 6) = (0 : Int32))) => ?_) (fun (h132 : ((z_X8_go_4 M24) 6 6) = (0 : Int32)) => ?_)
                · have hq := hq.2 h132
                  refine j_iconst C dX8_go_157 (0 : Int32) (by decide) ?_
                  refine j_istore_n C [(3, _), (2, _), (6, _), (5, _), (4, _), (0, _), (1, _)] dX8_go_158 (by decide) rfl ?_
                  refine j_iload_n C dX8_go_159 rfl ?_
                  refine j_if_eq (tgt := 186) C dX8_go_160 (by decide) (fun _ => ?_) (fun h => absurd (by decide) h)
                  refine j_goto (tgt := 24) C dX8_go_186 (by decide) ?_
                  refine j_lv [(0, .ref (g 0)), (1, .int isDone), (2, .int (x24_2 + (0 : Int32))), (3, .int (0 : Int32))] rfl ?_
                  exact ih24 (x24_2 + (0 : Int32)) (0 : Int32) (z_X8_go_5 M24)  hq (by rw [hr24, L_X8_go_24, if_neg h25, if_neg h59, if_pos h85, if_neg h101, if_neg h118, if_neg h132])
                · have hq := hq.1 h132
                  refine j_aload_n C dX8_go_135 rfl ?_
                  refine j_get C f_X8_137.F 0 dX8_go_136 mW_0 rfl ?_
                  refine j_sti rd_40 ?_
                  refine j_if_ne (tgt := 157) C dX8_go_139 (by decide) (fun _ => ?_) (fun h => absurd h h118)
                  refine j_iconst C dX8_go_157 (0 : Int32) (by decide) ?_
                  refine j_istore_n C [(3, _), (2, _), (6, _), (5, _), (4, _), (0, _), (1, _)] dX8_go_158 (by decide) rfl ?_
                  refine j_iload_n C dX8_go_159 rfl ?_
                  refine j_if_eq (tgt := 186) C dX8_go_160 (by decide) (fun _ => ?_) (fun h => absurd (by decide) h)
                  refine j_goto (tgt := 24) C dX8_go_186 (by decide) ?_
                  refine j_lv [(0, .ref (g 0)), (1, .int isDone), (2, .int (x24_2 + (0 : Int32))), (3, .int (0 : Int32))] rfl ?_
                  exact ih24 (x24_2 + (0 : Int32)) (0 : Int32) (z_X8_go_5 M24)  hq (by rw [hr24, L_X8_go_24, if_neg h25, if_neg h59, if_pos h85, if_neg h101, if_neg h118, if_pos h132])
              · have hq := hq.1 h118
                refine j_iconst C dX8_go_121 (1 : Int32) (by decide) ?_
                refine j_goto (tgt := 126) C dX8_go_122 (by decide) ?_
                refine j_iadd C dX8_go_126 ?_
                refine j_istore_n C [(2, _), (6, _), (5, _), (4, _), (0, _), (1, _), (3, _)] dX8_go_127 (by decide) rfl ?_
                refine j_aload_n C dX8_go_128 rfl ?_
                refine j_get C f_X8_130.F 0 dX8_go_129 mW_0 rfl ?_
                refine j_sti rd_41 ?_
                refine j_if_ne (tgt := 157) C dX8_go_132 (by decide) (fun (h132 : ¬ (((z_X8_go_4 M24) 6 6) = (0 : Int32))) => ?_) (fun (h132 : ((z_X8_go_4 M24) 6 6) = (0 : Int32)) => ?_)
                · have hq := hq.2 h132
                  refine j_iconst C dX8_go_157 (0 : Int32) (by decide) ?_
                  refine j_istore_n C [(3, _), (2, _), (6, _), (5, _), (4, _), (0, _), (1, _)] dX8_go_158 (by decide) rfl ?_
                  refine j_iload_n C dX8_go_159 rfl ?_
                  refine j_if_eq (tgt := 186) C dX8_go_160 (by decide) (fun _ => ?_) (fun h => absurd (by decide) h)
                  refine j_goto (tgt := 24) C dX8_go_186 (by decide) ?_
                  refine j_lv [(0, .ref (g 0)), (1, .int isDone), (2, .int (x24_2 + (1 : Int32))), (3, .int (0 : Int32))] rfl ?_
                  exact ih24 (x24_2 + (1 : Int32)) (0 : Int32) (z_X8_go_5 M24)  hq (by rw [hr24, L_X8_go_24, if_neg h25, if_neg h59, if_pos h85, if_neg h101, if_pos h118, if_neg h132])
                · have hq := hq.1 h132
                  refine j_aload_n C dX8_go_135 rfl ?_
                  refine j_get C f_X8_137.F 0 dX8_go_136 mW_0 rfl ?_
                  refine j_sti rd_40 ?_
                  refine j_if_ne (tgt := 157) C dX8_go_139 (by decide) (fun h => absurd h118 h) (fun _ => ?_)
                  refine j_aload_n C dX8_go_142 rfl ?_
                  refine j_get C f_X8_124.F 0 dX8_go_143 mW_0 rfl ?_
                  refine j_sti rd_42 ?_
                  refine j_aload_n C dX8_go_146 rfl ?_
                  refine j_get C f_X8_127.F 0 dX8_go_147 mW_0 rfl ?_
                  refine j_sti rd_43 ?_
                  refine j_icmp_ge (tgt := 157) C dX8_go_150 (by decide) (fun (h150 : ((z_X8_go_4 M24) 6 2) ≤ ((z_X8_go_4 M24) 6 5)) => ?_) (fun (h150 : ¬ (((z_X8_go_4 M24) 6 2) ≤ ((z_X8_go_4 M24) 6 5))) => ?_)
                  · have hq := hq.1 h150
                    refine j_iconst C dX8_go_157 (0 : Int32) (by decide) ?_
                    refine j_istore_n C [(3, _), (2, _), (6, _), (5, _), (4, _), (0, _), (1, _)] dX8_go_158 (by decide) rfl ?_
                    refine j_iload_n C dX8_go_159 rfl ?_
                    refine j_if_eq (tgt := 186) C dX8_go_160 (by decide) (fun _ => ?_) (fun h => absurd (by decide) h)
                    refine j_goto (tgt := 24) C dX8_go_186 (by decide) ?_
                    refine j_lv [(0, .ref (g 0)), (1, .int isDone), (2, .int (x24_2 + (1 : Int32))), (3, .int (0 : Int32))] rfl ?_
                    exact ih24 (x24_2 + (1 : Int32)) (0 : Int32) (z_X8_go_5 M24)  hq (by rw [hr24, L_X8_go_24, if_neg h25, if_neg h59, if_pos h85, if_neg h101, if_pos h118, if_pos h132, if_pos h150])
                  · have hq := hq.2 h150
                    refine j_iconst C dX8_go_153 (1 : Int32) (by decide) ?_
                    refine j_goto (tgt := 158) C dX8_go_154 (by decide) ?_
                    refine j_istore_n C [(3, _), (2, _), (6, _), (5, _), (4, _), (0, _), (1, _)] dX8_go_158 (by decide) rfl ?_
                    refine j_iload_n C dX8_go_159 rfl ?_
                    refine j_if_eq (tgt := 186) C dX8_go_160 (by decide) (fun h => absurd h (by decide)) (fun _ => ?_)
                    refine j_aload_n C dX8_go_163 rfl ?_
                    refine j_bipush C dX8_go_164 (44 : Int32) (by decide) ?_
                    refine j_bipush C dX8_go_166 (44 : Int32) (by decide) ?_
                    obtain ⟨hv, hq⟩ := hq
                    refine j_callViW C g_X8_134 (c_X8_sign l D ca g (z_X8_go_5 M24) (44 : Int32) (44 : Int32) hv) 0 mW_0 hcl_X8 ⟨Nat.le_of_ble_eq_true rfl, Nat.le_of_ble_eq_true rfl⟩ ⟨Nat.le_of_ble_eq_true rfl, Nat.le_of_ble_eq_true rfl⟩ rfl rfl (Nat.le_of_ble_eq_true rfl) dX8_go_168 fst_m ?_
                    refine j_istore C [(7, _), (3, _), (2, _), (6, _), (5, _), (4, _), (0, _), (1, _)] dX8_go_171 (by decide) rfl ?_
                    refine j_aload_n C dX8_go_173 rfl ?_
                    refine j_get C f_X8_130.F 0 dX8_go_174 mW_0 rfl ?_
                    refine j_if_ne (tgt := 184) C dX8_go_177 (by decide) (fun (h177 : ¬ ((((r_X8_sign (z_X8_go_5 M24) (44 : Int32) (44 : Int32)).2) 6 6) = (0 : Int32))) => ?_) (fun (h177 : (((r_X8_sign (z_X8_go_5 M24) (44 : Int32) (44 : Int32)).2) 6 6) = (0 : Int32)) => ?_)
                    · have hq := hq.2 h177
                      refine j_iconst C dX8_go_184 (0 : Int32) (by decide) ?_
                      refine j_istore_n C [(3, _), (7, _), (2, _), (6, _), (5, _), (4, _), (0, _), (1, _)] dX8_go_185 (by decide) rfl ?_
                      refine j_goto (tgt := 24) C dX8_go_186 (by decide) ?_
                      refine j_lv [(0, .ref (g 0)), (1, .int isDone), (2, .int (x24_2 + (1 : Int32))), (3, .int (0 : Int32))] rfl ?_
                      exact ih24 (x24_2 + (1 : Int32)) (0 : Int32) ((r_X8_sign (z_X8_go_5 M24) (44 : Int32) (44 : Int32)).2)  hq (by rw [hr24, L_X8_go_24, if_neg h25, if_neg h59, if_pos h85, if_neg h101, if_pos h118, if_pos h132, if_neg h150, if_neg h177])
                    · have hq := hq.1 h177
                      refine j_iconst C dX8_go_180 (1 : Int32) (by decide) ?_
                      refine j_goto (tgt := 185) C dX8_go_181 (by decide) ?_
                      refine j_istore_n C [(3, _), (7, _), (2, _), (6, _), (5, _), (4, _), (0, _), (1, _)] dX8_go_185 (by decide) rfl ?_
                      refine j_goto (tgt := 24) C dX8_go_186 (by decide) ?_
                      refine j_lv [(0, .ref (g 0)), (1, .int isDone), (2, .int (x24_2 + (1 : Int32))), (3, .int (1 : Int32))] rfl ?_
                      exact ih24 (x24_2 + (1 : Int32)) (1 : Int32) ((r_X8_sign (z_X8_go_5 M24) (44 : Int32) (44 : Int32)).2)  hq (by rw [hr24, L_X8_go_24, if_neg h25, if_neg h59, if_pos h85, if_neg h101, if_pos h118, if_pos h132, if_neg h150, if_pos h177])
            · have hq := hq.1 h101
              refine j_iconst C dX8_go_104 (1 : Int32) (by decide) ?_
              refine j_goto (tgt := 109) C dX8_go_105 (by decide) ?_
              refine j_iadd C dX8_go_109 ?_
              refine j_put C f_X8_140 0 dX8_go_110 mW_0 (Nat.le_of_ble_eq_true rfl) rfl rfl ?_
              refine j_ws (ws' := (mW ca g (z_X8_go_6 M24))) fo_m_0_13 ?_
              refine j_iload_n C dX8_go_113 rfl ?_
              refine j_aload_n C dX8_go_114 rfl ?_
              refine j_get C f_X8_137.F 0 dX8_go_115 mW_0 rfl ?_
              refine j_sti rd_40 ?_
              refine j_if_ne (tgt := 125) C dX8_go_118 (by decide) (fun (h118 : ¬ (((z_X8_go_4 M24) 6 8) = (0 : Int32))) => ?_) (fun (h118 : ((z_X8_go_4 M24) 6 8) = (0 : Int32)) => ?_)
              · have hq := hq.2 h118
                refine j_iconst C dX8_go_125 (0 : Int32) (by decide) ?_
                refine j_iadd C dX8_go_126 ?_
                refine j_istore_n C [(2, _), (6, _), (5, _), (4, _), (0, _), (1, _), (3, _)] dX8_go_127 (by decide) rfl ?_
                refine j_aload_n C dX8_go_128 rfl ?_
                refine j_get C f_X8_130.F 0 dX8_go_129 mW_0 rfl ?_
                refine j_sti rd_41 ?_
                refine j_if_ne (tgt := 157) C dX8_go_132 (by decide) (fun (h132 : ¬ (((z_X8_go_4 M24) 6 6) = (0 : Int32))) => ?_) (fun (h132 : ((z_X8_go_4 M24) 6 6) = (0 : Int32)) => ?_)
                · have hq := hq.2 h132
                  refine j_iconst C dX8_go_157 (0 : Int32) (by decide) ?_
                  refine j_istore_n C [(3, _), (2, _), (6, _), (5, _), (4, _), (0, _), (1, _)] dX8_go_158 (by decide) rfl ?_
                  refine j_iload_n C dX8_go_159 rfl ?_
                  refine j_if_eq (tgt := 186) C dX8_go_160 (by decide) (fun _ => ?_) (fun h => absurd (by decide) h)
                  refine j_goto (tgt := 24) C dX8_go_186 (by decide) ?_
                  refine j_lv [(0, .ref (g 0)), (1, .int isDone), (2, .int (x24_2 + (0 : Int32))), (3, .int (0 : Int32))] rfl ?_
                  exact ih24 (x24_2 + (0 : Int32)) (0 : Int32) (z_X8_go_6 M24)  hq (by rw [hr24, L_X8_go_24, if_neg h25, if_neg h59, if_pos h85, if_pos h101, if_neg h118, if_neg h132])
                · have hq := hq.1 h132
                  refine j_aload_n C dX8_go_135 rfl ?_
                  refine j_get C f_X8_137.F 0 dX8_go_136 mW_0 rfl ?_
                  refine j_sti rd_40 ?_
                  refine j_if_ne (tgt := 157) C dX8_go_139 (by decide) (fun _ => ?_) (fun h => absurd h h118)
                  refine j_iconst C dX8_go_157 (0 : Int32) (by decide) ?_
                  refine j_istore_n C [(3, _), (2, _), (6, _), (5, _), (4, _), (0, _), (1, _)] dX8_go_158 (by decide) rfl ?_
                  refine j_iload_n C dX8_go_159 rfl ?_
                  refine j_if_eq (tgt := 186) C dX8_go_160 (by decide) (fun _ => ?_) (fun h => absurd (by decide) h)
                  refine j_goto (tgt := 24) C dX8_go_186 (by decide) ?_
                  refine j_lv [(0, .ref (g 0)), (1, .int isDone), (2, .int (x24_2 + (0 : Int32))), (3, .int (0 : Int32))] rfl ?_
                  exact ih24 (x24_2 + (0 : Int32)) (0 : Int32) (z_X8_go_6 M24)  hq (by rw [hr24, L_X8_go_24, if_neg h25, if_neg h59, if_pos h85, if_pos h101, if_neg h118, if_pos h132])
              · have hq := hq.1 h118
                refine j_iconst C dX8_go_121 (1 : Int32) (by decide) ?_
                refine j_goto (tgt := 126) C dX8_go_122 (by decide) ?_
                refine j_iadd C dX8_go_126 ?_
                refine j_istore_n C [(2, _), (6, _), (5, _), (4, _), (0, _), (1, _), (3, _)] dX8_go_127 (by decide) rfl ?_
                refine j_aload_n C dX8_go_128 rfl ?_
                refine j_get C f_X8_130.F 0 dX8_go_129 mW_0 rfl ?_
                refine j_sti rd_41 ?_
                refine j_if_ne (tgt := 157) C dX8_go_132 (by decide) (fun (h132 : ¬ (((z_X8_go_4 M24) 6 6) = (0 : Int32))) => ?_) (fun (h132 : ((z_X8_go_4 M24) 6 6) = (0 : Int32)) => ?_)
                · have hq := hq.2 h132
                  refine j_iconst C dX8_go_157 (0 : Int32) (by decide) ?_
                  refine j_istore_n C [(3, _), (2, _), (6, _), (5, _), (4, _), (0, _), (1, _)] dX8_go_158 (by decide) rfl ?_
                  refine j_iload_n C dX8_go_159 rfl ?_
                  refine j_if_eq (tgt := 186) C dX8_go_160 (by decide) (fun _ => ?_) (fun h => absurd (by decide) h)
                  refine j_goto (tgt := 24) C dX8_go_186 (by decide) ?_
                  refine j_lv [(0, .ref (g 0)), (1, .int isDone), (2, .int (x24_2 + (1 : Int32))), (3, .int (0 : Int32))] rfl ?_
                  exact ih24 (x24_2 + (1 : Int32)) (0 : Int32) (z_X8_go_6 M24)  hq (by rw [hr24, L_X8_go_24, if_neg h25, if_neg h59, if_pos h85, if_pos h101, if_pos h118, if_neg h132])
                · have hq := hq.1 h132
                  refine j_aload_n C dX8_go_135 rfl ?_
                  refine j_get C f_X8_137.F 0 dX8_go_136 mW_0 rfl ?_
                  refine j_sti rd_40 ?_
                  refine j_if_ne (tgt := 157) C dX8_go_139 (by decide) (fun h => absurd h118 h) (fun _ => ?_)
                  refine j_aload_n C dX8_go_142 rfl ?_
                  refine j_get C f_X8_124.F 0 dX8_go_143 mW_0 rfl ?_
                  refine j_sti rd_42 ?_
                  refine j_aload_n C dX8_go_146 rfl ?_
                  refine j_get C f_X8_127.F 0 dX8_go_147 mW_0 rfl ?_
                  refine j_sti rd_43 ?_
                  refine j_icmp_ge (tgt := 157) C dX8_go_150 (by decide) (fun (h150 : ((z_X8_go_4 M24) 6 2) ≤ ((z_X8_go_4 M24) 6 5)) => ?_) (fun (h150 : ¬ (((z_X8_go_4 M24) 6 2) ≤ ((z_X8_go_4 M24) 6 5))) => ?_)
                  · have hq := hq.1 h150
                    refine j_iconst C dX8_go_157 (0 : Int32) (by decide) ?_
                    refine j_istore_n C [(3, _), (2, _), (6, _), (5, _), (4, _), (0, _), (1, _)] dX8_go_158 (by decide) rfl ?_
                    refine j_iload_n C dX8_go_159 rfl ?_
                    refine j_if_eq (tgt := 186) C dX8_go_160 (by decide) (fun _ => ?_) (fun h => absurd (by decide) h)
                    refine j_goto (tgt := 24) C dX8_go_186 (by decide) ?_
                    refine j_lv [(0, .ref (g 0)), (1, .int isDone), (2, .int (x24_2 + (1 : Int32))), (3, .int (0 : Int32))] rfl ?_
                    exact ih24 (x24_2 + (1 : Int32)) (0 : Int32) (z_X8_go_6 M24)  hq (by rw [hr24, L_X8_go_24, if_neg h25, if_neg h59, if_pos h85, if_pos h101, if_pos h118, if_pos h132, if_pos h150])
                  · have hq := hq.2 h150
                    refine j_iconst C dX8_go_153 (1 : Int32) (by decide) ?_
                    refine j_goto (tgt := 158) C dX8_go_154 (by decide) ?_
                    refine j_istore_n C [(3, _), (2, _), (6, _), (5, _), (4, _), (0, _), (1, _)] dX8_go_158 (by decide) rfl ?_
                    refine j_iload_n C dX8_go_159 rfl ?_
                    refine j_if_eq (tgt := 186) C dX8_go_160 (by decide) (fun h => absurd h (by decide)) (fun _ => ?_)
                    refine j_aload_n C dX8_go_163 rfl ?_
                    refine j_bipush C dX8_go_164 (44 : Int32) (by decide) ?_
                    refine j_bipush C dX8_go_166 (44 : Int32) (by decide) ?_
                    obtain ⟨hv, hq⟩ := hq
                    refine j_callViW C g_X8_134 (c_X8_sign l D ca g (z_X8_go_6 M24) (44 : Int32) (44 : Int32) hv) 0 mW_0 hcl_X8 ⟨Nat.le_of_ble_eq_true rfl, Nat.le_of_ble_eq_true rfl⟩ ⟨Nat.le_of_ble_eq_true rfl, Nat.le_of_ble_eq_true rfl⟩ rfl rfl (Nat.le_of_ble_eq_true rfl) dX8_go_168 fst_m ?_
                    refine j_istore C [(7, _), (3, _), (2, _), (6, _), (5, _), (4, _), (0, _), (1, _)] dX8_go_171 (by decide) rfl ?_
                    refine j_aload_n C dX8_go_173 rfl ?_
                    refine j_get C f_X8_130.F 0 dX8_go_174 mW_0 rfl ?_
                    refine j_if_ne (tgt := 184) C dX8_go_177 (by decide) (fun (h177 : ¬ ((((r_X8_sign (z_X8_go_6 M24) (44 : Int32) (44 : Int32)).2) 6 6) = (0 : Int32))) => ?_) (fun (h177 : (((r_X8_sign (z_X8_go_6 M24) (44 : Int32) (44 : Int32)).2) 6 6) = (0 : Int32)) => ?_)
                    · have hq := hq.2 h177
                      refine j_iconst C dX8_go_184 (0 : Int32) (by decide) ?_
                      refine j_istore_n C [(3, _), (7, _), (2, _), (6, _), (5, _), (4, _), (0, _), (1, _)] dX8_go_185 (by decide) rfl ?_
                      refine j_goto (tgt := 24) C dX8_go_186 (by decide) ?_
                      refine j_lv [(0, .ref (g 0)), (1, .int isDone), (2, .int (x24_2 + (1 : Int32))), (3, .int (0 : Int32))] rfl ?_
                      exact ih24 (x24_2 + (1 : Int32)) (0 : Int32) ((r_X8_sign (z_X8_go_6 M24) (44 : Int32) (44 : Int32)).2)  hq (by rw [hr24, L_X8_go_24, if_neg h25, if_neg h59, if_pos h85, if_pos h101, if_pos h118, if_pos h132, if_neg h150, if_neg h177])
                    · have hq := hq.1 h177
                      refine j_iconst C dX8_go_180 (1 : Int32) (by decide) ?_
                      refine j_goto (tgt := 185) C dX8_go_181 (by decide) ?_
                      refine j_istore_n C [(3, _), (7, _), (2, _), (6, _), (5, _), (4, _), (0, _), (1, _)] dX8_go_185 (by decide) rfl ?_
                      refine j_goto (tgt := 24) C dX8_go_186 (by decide) ?_
                      refine j_lv [(0, .ref (g 0)), (1, .int isDone), (2, .int (x24_2 + (1 : Int32))), (3, .int (1 : Int32))] rfl ?_
                      exact ih24 (x24_2 + (1 : Int32)) (1 : Int32) ((r_X8_sign (z_X8_go_6 M24) (44 : Int32) (44 : Int32)).2)  hq (by rw [hr24, L_X8_go_24, if_neg h25, if_neg h59, if_pos h85, if_pos h101, if_pos h118, if_pos h132, if_neg h150, if_pos h177])
  refine j_lv [(0, .ref (g 0)), (1, .int isDone), (2, .int (0 : Int32)), (3, .int (1 : Int32))] rfl ?_
  exact K24 61 (0 : Int32) (1 : Int32) (z_X8_go_0 M)  hq (by rw [r_X8_go])
set_option maxRecDepth 100000 in
set_option maxHeartbeats 4000000 in
theorem fo_m_0_8 {ca : Nat → ClassId} {g : Nat → Nat} {M : jB} {v : Int32} : (mW ca g M).set 0 (g 0, .inr (8, [.ref (g 1), .ref (g 2), .ref (g 3), .int (M 6 0), .ref (g 4), .int (M 6 1), .ref (g 5), .int (M 6 2), .int (M 6 3), .int (M 6 4), .ref (g 6), .int (M 6 5), .int (M 6 6), .int (M 6 7), .int (M 6 8)].set 8 (.int v))) = mW ca g (up2 M 6 3 v) := rfl
set_option maxRecDepth 100000 in
set_option maxHeartbeats 4000000 in
theorem rd_44 {S : jB} {v0 : Int32} : (up2 S 6 3 v0) 6 8 = S 6 8 := rfl
set_option maxRecDepth 100000 in
set_option maxHeartbeats 4000000 in
theorem fo_m_0_9 {ca : Nat → ClassId} {g : Nat → Nat} {M : jB} {v : Int32} : (mW ca g M).set 0 (g 0, .inr (8, [.ref (g 1), .ref (g 2), .ref (g 3), .int (M 6 0), .ref (g 4), .int (M 6 1), .ref (g 5), .int (M 6 2), .int (M 6 3), .int (M 6 4), .ref (g 6), .int (M 6 5), .int (M 6 6), .int (M 6 7), .int (M 6 8)].set 9 (.int v))) = mW ca g (up2 M 6 4 v) := rfl

def z_X8_readPayments_0 (M23 : jB) : jB := (up2 (r_X8_swap ((r_X8_go M23 (1 : Int32)).2)) 6 3 ((r_X8_go M23 (1 : Int32)).1))
def z_X8_readPayments_1 (M23 : jB) : jB := (up2 (z_X8_readPayments_0 M23) 6 4 ((r_X8_swap ((r_X8_go M23 (1 : Int32)).2)) 6 8))
def L_X8_readPayments_23 (M : jB) : Nat → Int32 → jB → Int32 × jB
  | 0, _, _ => (0, M)
  | n23 + 1, x23_2, M23 => (if (204 : Int32) ≤ x23_2 then (if (0 : Int32) ≤ ((r_X8_swap ((r_X8_go M23 (1 : Int32)).2)) 6 8) then (((r_X8_swap (r_X8_know (r_X8_swap ((r_X8_go M23 (1 : Int32)).2)))) 6 7), (r_X8_swap (r_X8_know (r_X8_swap ((r_X8_go M23 (1 : Int32)).2))))) else ((-4 : Int32), (z_X8_readPayments_1 M23))) else L_X8_readPayments_23 M n23 (x23_2 + (1 : Int32)) (up2 M23 1 (x23_2).toNatClampNeg (M23 0 x23_2.toNatClampNeg)))
def NL_X8_readPayments_23 (M : jB) : Nat → Int32 → jB → Prop
  | 0, _, _ => True
  | n23 + 1, x23_2, M23 => (((204 : Int32) ≤ x23_2 → ((n_X8_go M23 (1 : Int32)) ∧ (((0 : Int32) ≤ ((r_X8_swap ((r_X8_go M23 (1 : Int32)).2)) 6 8) → ((n_X8_know (r_X8_swap ((r_X8_go M23 (1 : Int32)).2))) ∧ True)) ∧ (¬ ((0 : Int32) ≤ ((r_X8_swap ((r_X8_go M23 (1 : Int32)).2)) 6 8)) → True)))) ∧ (¬ ((204 : Int32) ≤ x23_2) → NL_X8_readPayments_23 M n23 (x23_2 + (1 : Int32)) (up2 M23 1 (x23_2).toNatClampNeg (M23 0 x23_2.toNatClampNeg))))
def r_X8_readPayments (M : jB) : Int32 × jB := (if (((r_X8_go M (0 : Int32)).2) 6 6) = (0 : Int32) then L_X8_readPayments_23 M 205 (0 : Int32) ((r_X8_go M (0 : Int32)).2) else (((-100 : Int32) - (((r_X8_go M (0 : Int32)).2) 6 5)), (r_X8_go M (0 : Int32)).2))
def n_X8_readPayments (M : jB) : Prop := ((n_X8_go M (0 : Int32)) ∧ (((((r_X8_go M (0 : Int32)).2) 6 6) = (0 : Int32) → NL_X8_readPayments_23 M 205 (0 : Int32) ((r_X8_go M (0 : Int32)).2)) ∧ (¬ ((((r_X8_go M (0 : Int32)).2) 6 6) = (0 : Int32)) → True)))
set_option maxRecDepth 100000 in
set_option maxHeartbeats 4000000 in
theorem c_X8_readPayments (l : Launch) (D : va_G) (ca : Nat → ClassId) (g : Nat → Nat) (M : jB) (hq : n_X8_readPayments M) : jM l D ca yX8_readPayments cX8_readPayments 3 (some .int) 4 99 0 0 [.ref (g 0)] (mW ca g M) (jD (some (.int (r_X8_readPayments M).1)) (mW ca g ((r_X8_readPayments M).2))) := by
  refine jM_of [(0, .ref (g 0))] (by decide) (Nat.le_of_ble_eq_true rfl) rfl (fun X C E => ?_)
  rw [n_X8_readPayments] at hq
  refine j_aload_n C dX8_readPayments_0 rfl ?_
  refine j_iconst C dX8_readPayments_1 (0 : Int32) (by decide) ?_
  obtain ⟨hv, hq⟩ := hq
  refine j_callViW C g_X8_146 (c_X8_go l D ca g M (0 : Int32) hv) 0 mW_0 hcl_X8 ⟨Nat.le_of_ble_eq_true rfl, Nat.le_of_ble_eq_true rfl⟩ ⟨Nat.le_of_ble_eq_true rfl, Nat.le_of_ble_eq_true rfl⟩ rfl rfl (Nat.le_of_ble_eq_true rfl) dX8_readPayments_2 fst_m ?_
  refine j_istore_n C [(1, _), (0, _)] dX8_readPayments_5 (by decide) rfl ?_
  refine j_aload_n C dX8_readPayments_6 rfl ?_
  refine j_get C f_X8_130.F 0 dX8_readPayments_7 mW_0 rfl ?_
  refine j_if_eq (tgt := 21) C dX8_readPayments_10 (by decide) (fun (h10 : (((r_X8_go M (0 : Int32)).2) 6 6) = (0 : Int32)) => ?_) (fun (h10 : ¬ ((((r_X8_go M (0 : Int32)).2) 6 6) = (0 : Int32))) => ?_)
  · have hq := hq.1 h10
    refine j_iconst C dX8_readPayments_21 (0 : Int32) (by decide) ?_
    refine j_istore_n C [(2, _), (1, _), (0, _)] dX8_readPayments_22 (by decide) rfl ?_
    have K23 : ∀ (n23 : Nat) (x23_2 : Int32) (M23 : jB), ((204 : Int32).toInt - x23_2.toInt).toNat < n23 → ((0 : Int32) ≤ x23_2) → NL_X8_readPayments_23 M n23 x23_2 M23 → r_X8_readPayments M = L_X8_readPayments_23 M n23 x23_2 M23 → J l { frames := 4, cells := 0, slots := 0, locals := 99 } D 3 X 0 0 (mW ca g M23) [(0, .ref (g 0)), (1, .int ((r_X8_go M (0 : Int32)).1)), (2, .int x23_2)] [] 23 := by
      intro n23
      induction n23 with
      | zero =>
        intro x23_2 M23 hm23
        exact absurd hm23 (Nat.not_lt_zero _)
      | succ n23 ih23 =>
        intro x23_2 M23 hm23 hp23 hq hr23
        rw [NL_X8_readPayments_23] at hq
        refine j_iload_n C dX8_readPayments_23 rfl ?_
        refine j_sipush C dX8_readPayments_24 (204 : Int32) (by decide) ?_
        refine j_icmp_ge (tgt := 48) C dX8_readPayments_27 (by decide) (fun (h27 : (204 : Int32) ≤ x23_2) => ?_) (fun (h27 : ¬ ((204 : Int32) ≤ x23_2)) => ?_)
        · have hq := hq.1 h27
          refine j_aload_n C dX8_readPayments_48 rfl ?_
          refine j_iconst C dX8_readPayments_49 (1 : Int32) (by decide) ?_
          obtain ⟨hv, hq⟩ := hq
          refine j_callViW C g_X8_146 (c_X8_go l D ca g M23 (1 : Int32) hv) 0 mW_0 hcl_X8 ⟨Nat.le_of_ble_eq_true rfl, Nat.le_of_ble_eq_true rfl⟩ ⟨Nat.le_of_ble_eq_true rfl, Nat.le_of_ble_eq_true rfl⟩ rfl rfl (Nat.le_of_ble_eq_true rfl) dX8_readPayments_50 fst_m ?_
          refine j_istore_n C [(1, _), (0, _), (2, _)] dX8_readPayments_53 (by decide) rfl ?_
          refine j_aload_n C dX8_readPayments_54 rfl ?_
          refine j_callVvW C g_X8_150 (c_X8_swap l D ca g ((r_X8_go M23 (1 : Int32)).2)) 0 mW_0 hcl_X8 ⟨Nat.le_of_ble_eq_true rfl, Nat.le_of_ble_eq_true rfl⟩ ⟨Nat.le_of_ble_eq_true rfl, Nat.le_of_ble_eq_true rfl⟩ rfl rfl (Nat.le_of_ble_eq_true rfl) dX8_readPayments_55 fst_m ?_
          refine j_aload_n C dX8_readPayments_58 rfl ?_
          refine j_get C f_X8_137.F 0 dX8_readPayments_59 mW_0 rfl ?_
          refine j_if_ge (tgt := 81) C dX8_readPayments_62 (by decide) (fun (h62 : (0 : Int32) ≤ ((r_X8_swap ((r_X8_go M23 (1 : Int32)).2)) 6 8)) => ?_) (fun (h62 : ¬ ((0 : Int32) ≤ ((r_X8_swap ((r_X8_go M23 (1 : Int32)).2)) 6 8))) => ?_)
          · have hq := hq.1 h62
            refine j_aload_n C dX8_readPayments_81 rfl ?_
            obtain ⟨hv, hq⟩ := hq
            refine j_callVvW C g_X8_81 (c_X8_know l D ca g (r_X8_swap ((r_X8_go M23 (1 : Int32)).2)) hv) 0 mW_0 hcl_X8 ⟨Nat.le_of_ble_eq_true rfl, Nat.le_of_ble_eq_true rfl⟩ ⟨Nat.le_of_ble_eq_true rfl, Nat.le_of_ble_eq_true rfl⟩ rfl rfl (Nat.le_of_ble_eq_true rfl) dX8_readPayments_82 fst_m ?_
            refine j_aload_n C dX8_readPayments_85 rfl ?_
            refine j_callVvW C g_X8_150 (c_X8_swap l D ca g (r_X8_know (r_X8_swap ((r_X8_go M23 (1 : Int32)).2)))) 0 mW_0 hcl_X8 ⟨Nat.le_of_ble_eq_true rfl, Nat.le_of_ble_eq_true rfl⟩ ⟨Nat.le_of_ble_eq_true rfl, Nat.le_of_ble_eq_true rfl⟩ rfl rfl (Nat.le_of_ble_eq_true rfl) dX8_readPayments_86 fst_m ?_
            refine j_aload_n C dX8_readPayments_89 rfl ?_
            refine j_get C f_X8_140.F 0 dX8_readPayments_90 mW_0 rfl ?_
            have e9 : r_X8_readPayments M = (((r_X8_swap (r_X8_know (r_X8_swap ((r_X8_go M23 (1 : Int32)).2)))) 6 7), (r_X8_swap (r_X8_know (r_X8_swap ((r_X8_go M23 (1 : Int32)).2))))) := by rw [hr23, L_X8_readPayments_23, if_pos h27, if_pos h62]
            exact j_iret E dX8_readPayments_93 (jD_i e9 (mW ca g))
          · have hq := hq.2 h62
            refine j_aload_n C dX8_readPayments_65 rfl ?_
            refine j_iload_n C dX8_readPayments_66 rfl ?_
            refine j_put C f_X8_25 0 dX8_readPayments_67 mW_0 (Nat.le_of_ble_eq_true rfl) rfl rfl ?_
            refine j_ws (ws' := (mW ca g (z_X8_readPayments_0 M23))) fo_m_0_8 ?_
            refine j_aload_n C dX8_readPayments_70 rfl ?_
            refine j_aload_n C dX8_readPayments_71 rfl ?_
            refine j_get C f_X8_137.F 0 dX8_readPayments_72 mW_0 rfl ?_
            refine j_sti rd_44 ?_
            refine j_put C f_X8_29 0 dX8_readPayments_75 mW_0 (Nat.le_of_ble_eq_true rfl) rfl rfl ?_
            refine j_ws (ws' := (mW ca g (z_X8_readPayments_1 M23))) fo_m_0_9 ?_
            refine j_bipush C dX8_readPayments_78 (-4 : Int32) (by decide) ?_
            have e9 : r_X8_readPayments M = ((-4 : Int32), (z_X8_readPayments_1 M23)) := by rw [hr23, L_X8_readPayments_23, if_pos h27, if_neg h62]
            exact j_iret E dX8_readPayments_80 (jD_i e9 (mW ca g))
        · have hq := hq.2 h27
          refine j_aload_n C dX8_readPayments_30 rfl ?_
          refine j_get C f_X8_13.F 0 dX8_readPayments_31 mW_0 rfl ?_
          refine j_iload_n C dX8_readPayments_34 rfl ?_
          refine j_aload_n C dX8_readPayments_35 rfl ?_
          refine j_get C f_X8_7.F 0 dX8_readPayments_36 mW_0 rfl ?_
          refine j_iload_n C dX8_readPayments_39 rfl ?_
          refine j_iald C 1 dX8_readPayments_40 mW_1 (vin_b 204 rfl hp23 h27 (by decide)) ?_
          refine j_iast C 2 dX8_readPayments_41 mW_2 (vin_b 204 rfl hp23 h27 (by decide)) ?_
          refine j_ws (ws' := (mW ca g (up2 M23 1 (x23_2).toNatClampNeg (M23 0 x23_2.toNatClampNeg)))) fa_m_2 ?_
          refine j_iinc C [(2, _), (0, _), (1, _)] (v := (x23_2 + (1 : Int32))) dX8_readPayments_42 rfl (iinc_1 _) (by decide) rfl ?_
          refine j_goto (tgt := 23) C dX8_readPayments_45 (by decide) ?_
          refine j_lv [(0, .ref (g 0)), (1, .int ((r_X8_go M (0 : Int32)).1)), (2, .int (x23_2 + (1 : Int32)))] rfl ?_
          exact ih23 (x23_2 + (1 : Int32)) (up2 M23 1 (x23_2).toNatClampNeg (M23 0 x23_2.toNatClampNeg)) (jms h27 hm23) (i_pos' h27 hp23) hq (by rw [hr23, L_X8_readPayments_23, if_neg h27])
    refine j_lv [(0, .ref (g 0)), (1, .int ((r_X8_go M (0 : Int32)).1)), (2, .int (0 : Int32))] rfl ?_
    exact K23 205 (0 : Int32) ((r_X8_go M (0 : Int32)).2) (by decide) (by decide) hq (by rw [r_X8_readPayments, if_pos h10])
  · have hq := hq.2 h10
    refine j_bipush C dX8_readPayments_13 (-100 : Int32) (by decide) ?_
    refine j_aload_n C dX8_readPayments_15 rfl ?_
    refine j_get C f_X8_124.F 0 dX8_readPayments_16 mW_0 rfl ?_
    refine j_isub C dX8_readPayments_19 ?_
    have e9 : r_X8_readPayments M = (((-100 : Int32) - (((r_X8_go M (0 : Int32)).2) 6 5)), (r_X8_go M (0 : Int32)).2) := by rw [r_X8_readPayments, if_neg h10]
    exact j_iret E dX8_readPayments_20 (jD_i e9 (mW ca g))
