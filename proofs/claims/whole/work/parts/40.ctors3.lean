/-- the new reference's rows -/
def mI : jB := fun r => cond (Nat.beq r 0) (fun k => match k with
  | 2 => 1063675494
  | 3 => 1000593162
  | 4 => 1036831949
  | 5 => 14
  | 6 => 20
  | 7 => 120
  | _ => 0) (cond (Nat.beq r 6) (fun k => match k with
  | 3 => -5
  | 4 => -5
  | _ => 0) (fun _ => 0))
theorem mIrow : ∀ j, j < 204 → upd (upd (upd (upd (upd (upd (fun _ => (0 : Int32)) (2 : Int32).toNatClampNeg 1063675494) (3 : Int32).toNatClampNeg 1000593162) (4 : Int32).toNatClampNeg 1036831949) (5 : Int32).toNatClampNeg 14) (6 : Int32).toNatClampNeg 20) (7 : Int32).toNatClampNeg 120 j = mI 0 j := by decide +kernel
set_option maxRecDepth 100000 in
set_option maxHeartbeats 16000000 in
theorem c_X8_init (l : Launch) (D : va_G) (ca : Nat → ClassId) (h0 : Nat) : jM l D ca yX8_init cX8_init 1 (none : Option FieldType) 1 12 6 1496 [.ref h0] [(h0, .inr (8, [.null, .null, .null, .int 0, .null, .int 0, .null, .int 0, .int 0, .int 0, .null, .int 0, .int 0, .int 0, .int 0]))] (fun v w1 => v = none ∧ ∃ g : Nat → Nat, g 0 = h0 ∧ w1 = mW ca g mI) := by
  refine jM_of [(0, .ref h0)] (by decide) (Nat.le_of_ble_eq_true rfl) rfl (fun X C E => ?_)
  refine j_aload_n C dX8_init_0 rfl ?_
  refine j_objInit C q_621 q_16 q_17 dX8_init_1 (Nat.le_of_ble_eq_true rfl) (Nat.le_of_ble_eq_true rfl) ?_
  refine j_aload_n C dX8_init_4 rfl ?_
  refine j_sipush C dX8_init_5 (204 : Int32) (by decide) ?_
  refine j_newa_i C 204 q_52 (by decide) rfl (Nat.le_of_ble_eq_true rfl) (Nat.le_of_ble_eq_true rfl) (Nat.le_of_ble_eq_true rfl) dX8_init_8 (fun q1 => ?_)
  refine j_putF C f_X8_7 0 dX8_init_10 rfl (Nat.le_of_ble_eq_true rfl) rfl rfl rfl hcl_X8 ?_
  refine j_ws (ws' := (h0, .inr (8, [.ref q1, .null, .null, .int 0, .null, .int 0, .null, .int 0, .int 0, .int 0, .null, .int 0, .int 0, .int 0, .int 0])) :: [(q1, .inl (ca 0, 204, .inl (fun _ => 0)))]) rfl ?_
  refine j_aload_n C dX8_init_13 rfl ?_
  refine j_sipush C dX8_init_14 (204 : Int32) (by decide) ?_
  refine j_newa_i C 204 q_52 (by decide) rfl (Nat.le_of_ble_eq_true rfl) (Nat.le_of_ble_eq_true rfl) (Nat.le_of_ble_eq_true rfl) dX8_init_17 (fun q2 => ?_)
  refine j_putF C f_X8_13 0 dX8_init_19 rfl (Nat.le_of_ble_eq_true rfl) rfl rfl rfl hcl_X8 ?_
  refine j_ws (ws' := (h0, .inr (8, [.ref q1, .ref q2, .null, .int 0, .null, .int 0, .null, .int 0, .int 0, .int 0, .null, .int 0, .int 0, .int 0, .int 0])) :: ([(q1, .inl (ca 0, 204, .inl (fun _ => 0)))] ++ [(q2, .inl (ca 0, 204, .inl (fun _ => 0)))])) rfl ?_
  refine j_aload_n C dX8_init_22 rfl ?_
  refine j_sipush C dX8_init_23 (816 : Int32) (by decide) ?_
  refine j_newa_i C 816 q_52 (by decide) rfl (Nat.le_of_ble_eq_true rfl) (Nat.le_of_ble_eq_true rfl) (Nat.le_of_ble_eq_true rfl) dX8_init_26 (fun q3 => ?_)
  refine j_putF C f_X8_16 0 dX8_init_28 rfl (Nat.le_of_ble_eq_true rfl) rfl rfl rfl hcl_X8 ?_
  refine j_ws (ws' := (h0, .inr (8, [.ref q1, .ref q2, .ref q3, .int 0, .null, .int 0, .null, .int 0, .int 0, .int 0, .null, .int 0, .int 0, .int 0, .int 0])) :: (([(q1, .inl (ca 0, 204, .inl (fun _ => 0)))] ++ [(q2, .inl (ca 0, 204, .inl (fun _ => 0)))]) ++ [(q3, .inl (ca 0, 816, .inl (fun _ => 0)))])) rfl ?_
  refine j_aload_n C dX8_init_31 rfl ?_
  refine j_sipush C dX8_init_32 (204 : Int32) (by decide) ?_
  refine j_newa_i C 204 q_52 (by decide) rfl (Nat.le_of_ble_eq_true rfl) (Nat.le_of_ble_eq_true rfl) (Nat.le_of_ble_eq_true rfl) dX8_init_35 (fun q4 => ?_)
  refine j_putF C f_X8_19 0 dX8_init_37 rfl (Nat.le_of_ble_eq_true rfl) rfl rfl rfl hcl_X8 ?_
  refine j_ws (ws' := (h0, .inr (8, [.ref q1, .ref q2, .ref q3, .int 0, .ref q4, .int 0, .null, .int 0, .int 0, .int 0, .null, .int 0, .int 0, .int 0, .int 0])) :: ((([(q1, .inl (ca 0, 204, .inl (fun _ => 0)))] ++ [(q2, .inl (ca 0, 204, .inl (fun _ => 0)))]) ++ [(q3, .inl (ca 0, 816, .inl (fun _ => 0)))]) ++ [(q4, .inl (ca 0, 204, .inl (fun _ => 0)))])) rfl ?_
  refine j_aload_n C dX8_init_40 rfl ?_
  refine j_bipush C dX8_init_41 (60 : Int32) (by decide) ?_
  refine j_newa_i C 60 q_52 (by decide) rfl (Nat.le_of_ble_eq_true rfl) (Nat.le_of_ble_eq_true rfl) (Nat.le_of_ble_eq_true rfl) dX8_init_43 (fun q5 => ?_)
  refine j_putF C f_X8_22 0 dX8_init_45 rfl (Nat.le_of_ble_eq_true rfl) rfl rfl rfl hcl_X8 ?_
  refine j_ws (ws' := (h0, .inr (8, [.ref q1, .ref q2, .ref q3, .int 0, .ref q4, .int 0, .ref q5, .int 0, .int 0, .int 0, .null, .int 0, .int 0, .int 0, .int 0])) :: (((([(q1, .inl (ca 0, 204, .inl (fun _ => 0)))] ++ [(q2, .inl (ca 0, 204, .inl (fun _ => 0)))]) ++ [(q3, .inl (ca 0, 816, .inl (fun _ => 0)))]) ++ [(q4, .inl (ca 0, 204, .inl (fun _ => 0)))]) ++ [(q5, .inl (ca 0, 60, .inl (fun _ => 0)))])) rfl ?_
  refine j_aload_n C dX8_init_48 rfl ?_
  refine j_bipush C dX8_init_49 (-5 : Int32) (by decide) ?_
  refine j_put C f_X8_25 0 dX8_init_51 rfl (Nat.le_of_ble_eq_true rfl) rfl rfl ?_
  refine j_ws (ws' := (h0, .inr (8, [.ref q1, .ref q2, .ref q3, .int 0, .ref q4, .int 0, .ref q5, .int 0, .int (-5 : Int32), .int 0, .null, .int 0, .int 0, .int 0, .int 0])) :: (((([(q1, .inl (ca 0, 204, .inl (fun _ => 0)))] ++ [(q2, .inl (ca 0, 204, .inl (fun _ => 0)))]) ++ [(q3, .inl (ca 0, 816, .inl (fun _ => 0)))]) ++ [(q4, .inl (ca 0, 204, .inl (fun _ => 0)))]) ++ [(q5, .inl (ca 0, 60, .inl (fun _ => 0)))])) rfl ?_
  refine j_aload_n C dX8_init_54 rfl ?_
  refine j_bipush C dX8_init_55 (-5 : Int32) (by decide) ?_
  refine j_put C f_X8_29 0 dX8_init_57 rfl (Nat.le_of_ble_eq_true rfl) rfl rfl ?_
  refine j_ws (ws' := (h0, .inr (8, [.ref q1, .ref q2, .ref q3, .int 0, .ref q4, .int 0, .ref q5, .int 0, .int (-5 : Int32), .int (-5 : Int32), .null, .int 0, .int 0, .int 0, .int 0])) :: (((([(q1, .inl (ca 0, 204, .inl (fun _ => 0)))] ++ [(q2, .inl (ca 0, 204, .inl (fun _ => 0)))]) ++ [(q3, .inl (ca 0, 816, .inl (fun _ => 0)))]) ++ [(q4, .inl (ca 0, 204, .inl (fun _ => 0)))]) ++ [(q5, .inl (ca 0, 60, .inl (fun _ => 0)))])) rfl ?_
  refine j_aload_n C dX8_init_60 rfl ?_
  refine j_bipush C dX8_init_61 (8 : Int32) (by decide) ?_
  refine j_newa_i C 8 q_52 (by decide) rfl (Nat.le_of_ble_eq_true rfl) (Nat.le_of_ble_eq_true rfl) (Nat.le_of_ble_eq_true rfl) dX8_init_63 (fun q6 => ?_)
  refine j_putF C f_X8_32 0 dX8_init_65 rfl (Nat.le_of_ble_eq_true rfl) rfl rfl rfl hcl_X8 ?_
  refine j_ws (ws' := (h0, .inr (8, [.ref q1, .ref q2, .ref q3, .int 0, .ref q4, .int 0, .ref q5, .int 0, .int (-5 : Int32), .int (-5 : Int32), .ref q6, .int 0, .int 0, .int 0, .int 0])) :: ((((([(q1, .inl (ca 0, 204, .inl (fun _ => 0)))] ++ [(q2, .inl (ca 0, 204, .inl (fun _ => 0)))]) ++ [(q3, .inl (ca 0, 816, .inl (fun _ => 0)))]) ++ [(q4, .inl (ca 0, 204, .inl (fun _ => 0)))]) ++ [(q5, .inl (ca 0, 60, .inl (fun _ => 0)))]) ++ [(q6, .inl (ca 0, 8, .inl (fun _ => 0)))])) rfl ?_
  refine j_aload_n C dX8_init_68 rfl ?_
  refine j_get C f_X8_7.F 0 dX8_init_69 rfl rfl ?_
  refine j_iconst C dX8_init_72 (2 : Int32) (by decide) ?_
  refine j_ldc C q_622 dX8_init_73 ?_
  refine j_iast C 1 dX8_init_75 rfl (vin_c rfl) ?_
  refine j_aload_n C dX8_init_76 rfl ?_
  refine j_get C f_X8_7.F 0 dX8_init_77 rfl rfl ?_
  refine j_iconst C dX8_init_80 (3 : Int32) (by decide) ?_
  refine j_ldc C q_623 dX8_init_81 ?_
  refine j_iast C 1 dX8_init_83 rfl (vin_c rfl) ?_
  refine j_aload_n C dX8_init_84 rfl ?_
  refine j_get C f_X8_7.F 0 dX8_init_85 rfl rfl ?_
  refine j_iconst C dX8_init_88 (4 : Int32) (by decide) ?_
  refine j_ldc C q_624 dX8_init_89 ?_
  refine j_iast C 1 dX8_init_91 rfl (vin_c rfl) ?_
  refine j_aload_n C dX8_init_92 rfl ?_
  refine j_get C f_X8_7.F 0 dX8_init_93 rfl rfl ?_
  refine j_iconst C dX8_init_96 (5 : Int32) (by decide) ?_
  refine j_bipush C dX8_init_97 (14 : Int32) (by decide) ?_
  refine j_iast C 1 dX8_init_99 rfl (vin_c rfl) ?_
  refine j_aload_n C dX8_init_100 rfl ?_
  refine j_get C f_X8_7.F 0 dX8_init_101 rfl rfl ?_
  refine j_bipush C dX8_init_104 (6 : Int32) (by decide) ?_
  refine j_bipush C dX8_init_106 (20 : Int32) (by decide) ?_
  refine j_iast C 1 dX8_init_108 rfl (vin_c rfl) ?_
  refine j_aload_n C dX8_init_109 rfl ?_
  refine j_get C f_X8_7.F 0 dX8_init_110 rfl rfl ?_
  refine j_bipush C dX8_init_113 (7 : Int32) (by decide) ?_
  refine j_bipush C dX8_init_115 (120 : Int32) (by decide) ?_
  refine j_iast C 1 dX8_init_117 rfl (vin_c rfl) ?_
  refine j_ext 1 (mI 0) rfl mIrow ?_
  exact j_vret E dX8_init_118 ⟨rfl, (gl [h0, q1, q2, q3, q4, q5, q6]), rfl, rfl⟩
