

def z_X8_giveUp_0 (M : jB) (i : Int32) : jB := (up2 (r_X8_know M) 0 ((r_X8_of i (4 : Int32))).toNatClampNeg (3 : Int32))
def z_X8_giveUp_1 (M : jB) (i : Int32) : jB := (up2 (z_X8_giveUp_0 M i) 0 ((r_X8_ofClient ((z_X8_giveUp_0 M i) 0 (r_X8_of i (1 : Int32)).toNatClampNeg) (1 : Int32))).toNatClampNeg (((z_X8_giveUp_0 M i) 0 (r_X8_ofClient ((z_X8_giveUp_0 M i) 0 (r_X8_of i (1 : Int32)).toNatClampNeg) (1 : Int32)).toNatClampNeg) + (1 : Int32)))
def z_X8_giveUp_2 (M : jB) (i : Int32) : jB := (r_X8_share (z_X8_giveUp_1 M i) (((r_X8_know M) 0 (r_X8_of i (6 : Int32)).toNatClampNeg) - ((r_X8_know M) 0 (r_X8_of i (5 : Int32)).toNatClampNeg)))
def r_X8_giveUp (M : jB) (i : Int32) : Int32 × jB := (if (r_X8_isInvoice M i) = (0 : Int32) then ((-1 : Int32), M) else (if (r_X8_mayGiveUp M i) = (0 : Int32) then ((-4 : Int32), M) else (if ((r_X8_know M) 0 (r_X8_of i (4 : Int32)).toNatClampNeg) = (1 : Int32) then (if (0 : Int32) < (((r_X8_know M) 0 (r_X8_of i (6 : Int32)).toNatClampNeg) - ((r_X8_know M) 0 (r_X8_of i (5 : Int32)).toNatClampNeg)) then ((((r_X8_know M) 0 (r_X8_of i (6 : Int32)).toNatClampNeg) - ((r_X8_know M) 0 (r_X8_of i (5 : Int32)).toNatClampNeg)), (z_X8_giveUp_2 M i)) else ((0 : Int32), (z_X8_giveUp_1 M i))) else ((0 : Int32), (z_X8_giveUp_1 M i)))))
def n_X8_giveUp (M : jB) (i : Int32) : Prop := ((M 0 9 ≤ 20) ∧ (((0 : Int32) ≤ M 0 9) ∧ (((r_X8_isInvoice M i) = (0 : Int32) → True) ∧ (¬ ((r_X8_isInvoice M i) = (0 : Int32)) → ((n_X8_mayGiveUp M i) ∧ (((r_X8_mayGiveUp M i) = (0 : Int32) → True) ∧ (¬ ((r_X8_mayGiveUp M i) = (0 : Int32)) → ((n_X8_know M) ∧ ((((r_X8_know M) 0 (r_X8_of i (4 : Int32)).toNatClampNeg) = (1 : Int32) → (vp_in (r_X8_ofClient ((z_X8_giveUp_0 M i) 0 (r_X8_of i (1 : Int32)).toNatClampNeg) (1 : Int32)) 204 ∧ (vp_in (r_X8_ofClient ((z_X8_giveUp_0 M i) 0 (r_X8_of i (1 : Int32)).toNatClampNeg) (1 : Int32)) 204 ∧ (((0 : Int32) < (((r_X8_know M) 0 (r_X8_of i (6 : Int32)).toNatClampNeg) - ((r_X8_know M) 0 (r_X8_of i (5 : Int32)).toNatClampNeg)) → ((n_X8_share (z_X8_giveUp_1 M i) (((r_X8_know M) 0 (r_X8_of i (6 : Int32)).toNatClampNeg) - ((r_X8_know M) 0 (r_X8_of i (5 : Int32)).toNatClampNeg))) ∧ True)) ∧ (¬ ((0 : Int32) < (((r_X8_know M) 0 (r_X8_of i (6 : Int32)).toNatClampNeg) - ((r_X8_know M) 0 (r_X8_of i (5 : Int32)).toNatClampNeg))) → True))))) ∧ (¬ (((r_X8_know M) 0 (r_X8_of i (4 : Int32)).toNatClampNeg) = (1 : Int32)) → (vp_in (r_X8_ofClient ((z_X8_giveUp_0 M i) 0 (r_X8_of i (1 : Int32)).toNatClampNeg) (1 : Int32)) 204 ∧ (vp_in (r_X8_ofClient ((z_X8_giveUp_0 M i) 0 (r_X8_of i (1 : Int32)).toNatClampNeg) (1 : Int32)) 204 ∧ True))))))))))))
set_option maxRecDepth 100000 in
set_option maxHeartbeats 4000000 in
theorem c_X8_giveUp (l : Launch) (D : va_G) (ca : Nat → ClassId) (g : Nat → Nat) (M : jB) (i : Int32) (hq : n_X8_giveUp M i) : jM l D ca yX8_giveUp cX8_giveUp 3 (some .int) 2 47 0 0 [.ref (g 0), .int i] (mW ca g M) (jD (some (.int (r_X8_giveUp M i).1)) (mW ca g ((r_X8_giveUp M i).2))) := by
  refine jM_of [(0, .ref (g 0)), (1, .int i)] (by decide) (Nat.le_of_ble_eq_true rfl) rfl (fun X C E => ?_)
  rw [n_X8_giveUp] at hq
  obtain ⟨hI, hq⟩ := hq
  obtain ⟨hi0, hq⟩ := hq
  refine j_aload_n C dX8_giveUp_0 rfl ?_
  refine j_iload_n C dX8_giveUp_1 rfl ?_
  refine j_callViRW C g_X8_105 (c_X8_isInvoice l D ca g M i) 0 mW_0 hcl_X8 ⟨Nat.le_of_ble_eq_true rfl, Nat.le_of_ble_eq_true rfl⟩ ⟨Nat.le_of_ble_eq_true rfl, Nat.le_of_ble_eq_true rfl⟩ rfl rfl (Nat.le_of_ble_eq_true rfl) dX8_giveUp_2 ?_
  refine j_if_ne (tgt := 10) C dX8_giveUp_5 (by decide) (fun (h5 : ¬ ((r_X8_isInvoice M i) = (0 : Int32))) => ?_) (fun (h5 : (r_X8_isInvoice M i) = (0 : Int32)) => ?_)
  · have hq := hq.2 h5
    refine j_aload_n C dX8_giveUp_10 rfl ?_
    refine j_iload_n C dX8_giveUp_11 rfl ?_
    obtain ⟨hv, hq⟩ := hq
    refine j_callViRW C g_X8_117 (c_X8_mayGiveUp l D ca g M i hv) 0 mW_0 hcl_X8 ⟨Nat.le_of_ble_eq_true rfl, Nat.le_of_ble_eq_true rfl⟩ ⟨Nat.le_of_ble_eq_true rfl, Nat.le_of_ble_eq_true rfl⟩ rfl rfl (Nat.le_of_ble_eq_true rfl) dX8_giveUp_12 ?_
    refine j_if_ne (tgt := 21) C dX8_giveUp_15 (by decide) (fun (h15 : ¬ ((r_X8_mayGiveUp M i) = (0 : Int32))) => ?_) (fun (h15 : (r_X8_mayGiveUp M i) = (0 : Int32)) => ?_)
    · have hq := hq.2 h15
      refine j_aload_n C dX8_giveUp_21 rfl ?_
      obtain ⟨hv, hq⟩ := hq
      refine j_callVvW C g_X8_81 (c_X8_know l D ca g M hv) 0 mW_0 hcl_X8 ⟨Nat.le_of_ble_eq_true rfl, Nat.le_of_ble_eq_true rfl⟩ ⟨Nat.le_of_ble_eq_true rfl, Nat.le_of_ble_eq_true rfl⟩ rfl rfl (Nat.le_of_ble_eq_true rfl) dX8_giveUp_22 fst_m ?_
      refine j_aload_n C dX8_giveUp_25 rfl ?_
      refine j_get C f_X8_7.F 0 dX8_giveUp_26 mW_0 rfl ?_
      refine j_iload_n C dX8_giveUp_29 rfl ?_
      refine j_iconst C dX8_giveUp_30 (4 : Int32) (by decide) ?_
      refine j_callSiR C g_X8_59 (c_X8_of l D ca i (4 : Int32)) ⟨Nat.le_of_ble_eq_true rfl, Nat.le_of_ble_eq_true rfl⟩ ⟨Nat.le_of_ble_eq_true rfl, Nat.le_of_ble_eq_true rfl⟩ [] rfl rfl rfl rfl (Nat.le_of_ble_eq_true rfl) dX8_giveUp_31 ?_
      refine j_iald C 1 dX8_giveUp_34 mW_1 (vin_of (isI h5 hI hi0) (vin_c rfl)) ?_
      refine j_iconst C dX8_giveUp_35 (1 : Int32) (by decide) ?_
      refine j_icmp_ne (tgt := 64) C dX8_giveUp_36 (by decide) (fun (h36 : ¬ (((r_X8_know M) 0 (r_X8_of i (4 : Int32)).toNatClampNeg) = (1 : Int32))) => ?_) (fun (h36 : ((r_X8_know M) 0 (r_X8_of i (4 : Int32)).toNatClampNeg) = (1 : Int32)) => ?_)
      · have hq := hq.2 h36
        refine j_iconst C dX8_giveUp_64 (0 : Int32) (by decide) ?_
        refine j_istore_n C [(2, _), (0, _), (1, _)] dX8_giveUp_65 (by decide) rfl ?_
        refine j_aload_n C dX8_giveUp_66 rfl ?_
        refine j_get C f_X8_7.F 0 dX8_giveUp_67 mW_0 rfl ?_
        refine j_iload_n C dX8_giveUp_70 rfl ?_
        refine j_iconst C dX8_giveUp_71 (4 : Int32) (by decide) ?_
        refine j_callSiR C g_X8_59 (c_X8_of l D ca i (4 : Int32)) ⟨Nat.le_of_ble_eq_true rfl, Nat.le_of_ble_eq_true rfl⟩ ⟨Nat.le_of_ble_eq_true rfl, Nat.le_of_ble_eq_true rfl⟩ [] rfl rfl rfl rfl (Nat.le_of_ble_eq_true rfl) dX8_giveUp_72 ?_
        refine j_iconst C dX8_giveUp_75 (3 : Int32) (by decide) ?_
        refine j_iast C 1 dX8_giveUp_76 mW_1 (vin_of (isI h5 hI hi0) (vin_c rfl)) ?_
        refine j_ws (ws' := (mW ca g (z_X8_giveUp_0 M i))) fa_m_1 ?_
        refine j_aload_n C dX8_giveUp_77 rfl ?_
        refine j_get C f_X8_7.F 0 dX8_giveUp_78 mW_0 rfl ?_
        refine j_aload_n C dX8_giveUp_81 rfl ?_
        refine j_get C f_X8_7.F 0 dX8_giveUp_82 mW_0 rfl ?_
        refine j_iload_n C dX8_giveUp_85 rfl ?_
        refine j_iconst C dX8_giveUp_86 (1 : Int32) (by decide) ?_
        refine j_callSiR C g_X8_59 (c_X8_of l D ca i (1 : Int32)) ⟨Nat.le_of_ble_eq_true rfl, Nat.le_of_ble_eq_true rfl⟩ ⟨Nat.le_of_ble_eq_true rfl, Nat.le_of_ble_eq_true rfl⟩ [] rfl rfl rfl rfl (Nat.le_of_ble_eq_true rfl) dX8_giveUp_87 ?_
        refine j_iald C 1 dX8_giveUp_90 mW_1 (vin_of (isI h5 hI hi0) (vin_c rfl)) ?_
        refine j_iconst C dX8_giveUp_91 (1 : Int32) (by decide) ?_
        refine j_callSiR C g_X8_55 (c_X8_ofClient l D ca ((z_X8_giveUp_0 M i) 0 (r_X8_of i (1 : Int32)).toNatClampNeg) (1 : Int32)) ⟨Nat.le_of_ble_eq_true rfl, Nat.le_of_ble_eq_true rfl⟩ ⟨Nat.le_of_ble_eq_true rfl, Nat.le_of_ble_eq_true rfl⟩ [] rfl rfl rfl rfl (Nat.le_of_ble_eq_true rfl) dX8_giveUp_92 ?_
        refine j_dup2 C dX8_giveUp_95 rfl rfl ?_
        obtain ⟨hv, hq⟩ := hq
        refine j_iald C 1 dX8_giveUp_96 mW_1 hv ?_
        refine j_iconst C dX8_giveUp_97 (1 : Int32) (by decide) ?_
        refine j_iadd C dX8_giveUp_98 ?_
        obtain ⟨hv, hq⟩ := hq
        refine j_iast C 1 dX8_giveUp_99 mW_1 hv ?_
        refine j_ws (ws' := (mW ca g (z_X8_giveUp_1 M i))) fa_m_1 ?_
        refine j_iload_n C dX8_giveUp_100 rfl ?_
        refine j_if_gt (tgt := 106) C dX8_giveUp_101 (by decide) (fun h => absurd h (by decide)) (fun _ => ?_)
        refine j_iconst C dX8_giveUp_104 (0 : Int32) (by decide) ?_
        have e9 : r_X8_giveUp M i = ((0 : Int32), (z_X8_giveUp_1 M i)) := by rw [r_X8_giveUp, if_neg h5, if_neg h15, if_neg h36]
        exact j_iret E dX8_giveUp_105 (jD_i e9 (mW ca g))
      · have hq := hq.1 h36
        refine j_aload_n C dX8_giveUp_39 rfl ?_
        refine j_get C f_X8_7.F 0 dX8_giveUp_40 mW_0 rfl ?_
        refine j_iload_n C dX8_giveUp_43 rfl ?_
        refine j_bipush C dX8_giveUp_44 (6 : Int32) (by decide) ?_
        refine j_callSiR C g_X8_59 (c_X8_of l D ca i (6 : Int32)) ⟨Nat.le_of_ble_eq_true rfl, Nat.le_of_ble_eq_true rfl⟩ ⟨Nat.le_of_ble_eq_true rfl, Nat.le_of_ble_eq_true rfl⟩ [] rfl rfl rfl rfl (Nat.le_of_ble_eq_true rfl) dX8_giveUp_46 ?_
        refine j_iald C 1 dX8_giveUp_49 mW_1 (vin_of (isI h5 hI hi0) (vin_c rfl)) ?_
        refine j_aload_n C dX8_giveUp_50 rfl ?_
        refine j_get C f_X8_7.F 0 dX8_giveUp_51 mW_0 rfl ?_
        refine j_iload_n C dX8_giveUp_54 rfl ?_
        refine j_iconst C dX8_giveUp_55 (5 : Int32) (by decide) ?_
        refine j_callSiR C g_X8_59 (c_X8_of l D ca i (5 : Int32)) ⟨Nat.le_of_ble_eq_true rfl, Nat.le_of_ble_eq_true rfl⟩ ⟨Nat.le_of_ble_eq_true rfl, Nat.le_of_ble_eq_true rfl⟩ [] rfl rfl rfl rfl (Nat.le_of_ble_eq_true rfl) dX8_giveUp_56 ?_
        refine j_iald C 1 dX8_giveUp_59 mW_1 (vin_of (isI h5 hI hi0) (vin_c rfl)) ?_
        refine j_isub C dX8_giveUp_60 ?_
        refine j_goto (tgt := 65) C dX8_giveUp_61 (by decide) ?_
        refine j_istore_n C [(2, _), (0, _), (1, _)] dX8_giveUp_65 (by decide) rfl ?_
        refine j_aload_n C dX8_giveUp_66 rfl ?_
        refine j_get C f_X8_7.F 0 dX8_giveUp_67 mW_0 rfl ?_
        refine j_iload_n C dX8_giveUp_70 rfl ?_
        refine j_iconst C dX8_giveUp_71 (4 : Int32) (by decide) ?_
        refine j_callSiR C g_X8_59 (c_X8_of l D ca i (4 : Int32)) ⟨Nat.le_of_ble_eq_true rfl, Nat.le_of_ble_eq_true rfl⟩ ⟨Nat.le_of_ble_eq_true rfl, Nat.le_of_ble_eq_true rfl⟩ [] rfl rfl rfl rfl (Nat.le_of_ble_eq_true rfl) dX8_giveUp_72 ?_
        refine j_iconst C dX8_giveUp_75 (3 : Int32) (by decide) ?_
        refine j_iast C 1 dX8_giveUp_76 mW_1 (vin_of (isI h5 hI hi0) (vin_c rfl)) ?_
        refine j_ws (ws' := (mW ca g (z_X8_giveUp_0 M i))) fa_m_1 ?_
        refine j_aload_n C dX8_giveUp_77 rfl ?_
        refine j_get C f_X8_7.F 0 dX8_giveUp_78 mW_0 rfl ?_
        refine j_aload_n C dX8_giveUp_81 rfl ?_
        refine j_get C f_X8_7.F 0 dX8_giveUp_82 mW_0 rfl ?_
        refine j_iload_n C dX8_giveUp_85 rfl ?_
        refine j_iconst C dX8_giveUp_86 (1 : Int32) (by decide) ?_
        refine j_callSiR C g_X8_59 (c_X8_of l D ca i (1 : Int32)) ⟨Nat.le_of_ble_eq_true rfl, Nat.le_of_ble_eq_true rfl⟩ ⟨Nat.le_of_ble_eq_true rfl, Nat.le_of_ble_eq_true rfl⟩ [] rfl rfl rfl rfl (Nat.le_of_ble_eq_true rfl) dX8_giveUp_87 ?_
        refine j_iald C 1 dX8_giveUp_90 mW_1 (vin_of (isI h5 hI hi0) (vin_c rfl)) ?_
        refine j_iconst C dX8_giveUp_91 (1 : Int32) (by decide) ?_
        refine j_callSiR C g_X8_55 (c_X8_ofClient l D ca ((z_X8_giveUp_0 M i) 0 (r_X8_of i (1 : Int32)).toNatClampNeg) (1 : Int32)) ⟨Nat.le_of_ble_eq_true rfl, Nat.le_of_ble_eq_true rfl⟩ ⟨Nat.le_of_ble_eq_true rfl, Nat.le_of_ble_eq_true rfl⟩ [] rfl rfl rfl rfl (Nat.le_of_ble_eq_true rfl) dX8_giveUp_92 ?_
        refine j_dup2 C dX8_giveUp_95 rfl rfl ?_
        obtain ⟨hv, hq⟩ := hq
        refine j_iald C 1 dX8_giveUp_96 mW_1 hv ?_
        refine j_iconst C dX8_giveUp_97 (1 : Int32) (by decide) ?_
        refine j_iadd C dX8_giveUp_98 ?_
        obtain ⟨hv, hq⟩ := hq
        refine j_iast C 1 dX8_giveUp_99 mW_1 hv ?_
        refine j_ws (ws' := (mW ca g (z_X8_giveUp_1 M i))) fa_m_1 ?_
        refine j_iload_n C dX8_giveUp_100 rfl ?_
        refine j_if_gt (tgt := 106) C dX8_giveUp_101 (by decide) (fun (h101 : (0 : Int32) < (((r_X8_know M) 0 (r_X8_of i (6 : Int32)).toNatClampNeg) - ((r_X8_know M) 0 (r_X8_of i (5 : Int32)).toNatClampNeg))) => ?_) (fun (h101 : ¬ ((0 : Int32) < (((r_X8_know M) 0 (r_X8_of i (6 : Int32)).toNatClampNeg) - ((r_X8_know M) 0 (r_X8_of i (5 : Int32)).toNatClampNeg)))) => ?_)
        · have hq := hq.1 h101
          refine j_aload_n C dX8_giveUp_106 rfl ?_
          refine j_iload_n C dX8_giveUp_107 rfl ?_
          obtain ⟨hv, hq⟩ := hq
          refine j_callVvW C g_X8_120 (c_X8_share l D ca g (z_X8_giveUp_1 M i) (((r_X8_know M) 0 (r_X8_of i (6 : Int32)).toNatClampNeg) - ((r_X8_know M) 0 (r_X8_of i (5 : Int32)).toNatClampNeg)) hv) 0 mW_0 hcl_X8 ⟨Nat.le_of_ble_eq_true rfl, Nat.le_of_ble_eq_true rfl⟩ ⟨Nat.le_of_ble_eq_true rfl, Nat.le_of_ble_eq_true rfl⟩ rfl rfl (Nat.le_of_ble_eq_true rfl) dX8_giveUp_108 fst_m ?_
          refine j_ws (ws' := (mW ca g (z_X8_giveUp_2 M i))) (by rw [z_X8_giveUp_2]) ?_
          refine j_iload_n C dX8_giveUp_111 rfl ?_
          have e9 : r_X8_giveUp M i = ((((r_X8_know M) 0 (r_X8_of i (6 : Int32)).toNatClampNeg) - ((r_X8_know M) 0 (r_X8_of i (5 : Int32)).toNatClampNeg)), (z_X8_giveUp_2 M i)) := by rw [r_X8_giveUp, if_neg h5, if_neg h15, if_pos h36, if_pos h101]
          exact j_iret E dX8_giveUp_112 (jD_i e9 (mW ca g))
        · have hq := hq.2 h101
          refine j_iconst C dX8_giveUp_104 (0 : Int32) (by decide) ?_
          have e9 : r_X8_giveUp M i = ((0 : Int32), (z_X8_giveUp_1 M i)) := by rw [r_X8_giveUp, if_neg h5, if_neg h15, if_pos h36, if_neg h101]
          exact j_iret E dX8_giveUp_105 (jD_i e9 (mW ca g))
    · have hq := hq.1 h15
      refine j_bipush C dX8_giveUp_18 (-4 : Int32) (by decide) ?_
      have e9 : r_X8_giveUp M i = ((-4 : Int32), M) := by rw [r_X8_giveUp, if_neg h5, if_pos h15]
      exact j_iret E dX8_giveUp_20 (jD_i e9 (mW ca g))
  · have hq := hq.1 h5
    refine j_iconst C dX8_giveUp_8 (-1 : Int32) (by decide) ?_
    have e9 : r_X8_giveUp M i = ((-1 : Int32), M) := by rw [r_X8_giveUp, if_pos h5]
    exact j_iret E dX8_giveUp_9 (jD_i e9 (mW ca g))
