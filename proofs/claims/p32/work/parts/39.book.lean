theorem rIrow : ∀ j, j < 3 → vf_upd (vf_upd (vf_upd (fun _ => (0 : UInt32)) (0 : Int32).toNatClampNeg 1063675494) (1 : Int32).toNatClampNeg 1000593162) (2 : Int32).toNatClampNeg 1036831949 j = (bI 15 j).toUInt32 := by decide +kernel
theorem nIrow : ∀ j, j < 3 → upd (upd (upd (fun _ => (0 : Int32)) (0 : Int32).toNatClampNeg 14) (1 : Int32).toNatClampNeg 20) (2 : Int32).toNatClampNeg 120 j = bI 14 j := by decide +kernel
set_option maxRecDepth 100000 in
set_option maxHeartbeats 16000000 in
theorem c_X0_init (l : Launch) (D : va_G) (ca : Nat → ClassId) (h0 : Nat) : jM l D ca yX0_init cX0_init 1 (none : Option FieldType) 2 32 19 212 [.ref h0] [(h0, .inr (0, [.null, .null, .null, .null, .null, .int 0, .int 0, .int 0, .int 0, .int 0, .int 0]))] (fun v w1 => v = none ∧ ∃ g : Nat → Nat, g 0 = h0 ∧ w1 = bkW ca g bI) := by
  refine jM_of [(0, .ref h0)] (by decide) (Nat.le_of_ble_eq_true rfl) rfl (fun X C E => ?_)
  refine j_aload_n C dX0_init_0 rfl ?_
  refine j_objInit C q_22 q_15 q_16 dX0_init_1 (Nat.le_of_ble_eq_true rfl) (Nat.le_of_ble_eq_true rfl) ?_
  refine j_aload_n C dX0_init_4 rfl ?_
  refine j_new (ci := 4) C [.null, .null, .null, .null, .int 0] tyX4 tyX4_ok lay_X4 q_23 q_24 q_3 rfl dv_X4 (Nat.le_of_ble_eq_true rfl) (Nat.le_of_ble_eq_true rfl) dX0_init_5 (fun q1 => ?_)
  refine j_dup C dX0_init_8 rfl ?_
  refine j_callIN (As := []) C g_X0_11 (c_X4_init l D ca q1) ⟨Nat.le_of_ble_eq_true rfl, Nat.le_of_ble_eq_true rfl⟩ ⟨Nat.le_of_ble_eq_true rfl, Nat.le_of_ble_eq_true rfl⟩ rfl (Nat.le_of_ble_eq_true rfl) dX0_init_9 (fun v w1 hp => ?_)
  obtain ⟨rfl, g2, rfl, rfl⟩ := hp
  refine j_putF C f_X0_12 0 dX0_init_12 rfl (Nat.le_of_ble_eq_true rfl) rfl rfl rfl hcl_X0 ?_
  refine j_ws (ws' := (h0, .inr (0, [.ref (g2 1), .null, .null, .null, .null, .int 0, .int 0, .int 0, .int 0, .int 0, .int 0])) :: mbW ca g2 B0) rfl ?_
  refine j_aload_n C dX0_init_15 rfl ?_
  refine j_new (ci := 1) C [.null, .null, .null] tyX1 tyX1_ok lay_X1 q_52 q_53 q_4 rfl dv_X1 (Nat.le_of_ble_eq_true rfl) (Nat.le_of_ble_eq_true rfl) dX0_init_16 (fun q3 => ?_)
  refine j_dup C dX0_init_19 rfl ?_
  refine j_callIN (As := []) C g_X0_20 (c_X1_init l D ca q3) ⟨Nat.le_of_ble_eq_true rfl, Nat.le_of_ble_eq_true rfl⟩ ⟨Nat.le_of_ble_eq_true rfl, Nat.le_of_ble_eq_true rfl⟩ rfl (Nat.le_of_ble_eq_true rfl) dX0_init_20 (fun v w1 hp => ?_)
  obtain ⟨rfl, g4, rfl, rfl⟩ := hp
  refine j_putF C f_X0_21 0 dX0_init_23 rfl (Nat.le_of_ble_eq_true rfl) rfl rfl rfl hcl_X0 ?_
  refine j_ws (ws' := (h0, .inr (0, [.ref (g2 1), .ref (g4 2), .null, .null, .null, .int 0, .int 0, .int 0, .int 0, .int 0, .int 0])) :: (mbW ca g2 B0 ++ clW ca g4 B0)) rfl ?_
  refine j_aload_n C dX0_init_26 rfl ?_
  refine j_new (ci := 3) C [.null, .null, .null, .null, .null, .null, .null, .int 0] tyX3 tyX3_ok lay_X3 q_71 q_72 q_5 rfl dv_X3 (Nat.le_of_ble_eq_true rfl) (Nat.le_of_ble_eq_true rfl) dX0_init_27 (fun q5 => ?_)
  refine j_dup C dX0_init_30 rfl ?_
  refine j_callIN (As := []) C g_X0_27 (c_X3_init l D ca q5) ⟨Nat.le_of_ble_eq_true rfl, Nat.le_of_ble_eq_true rfl⟩ ⟨Nat.le_of_ble_eq_true rfl, Nat.le_of_ble_eq_true rfl⟩ rfl (Nat.le_of_ble_eq_true rfl) dX0_init_31 (fun v w1 hp => ?_)
  obtain ⟨rfl, g6, rfl, rfl⟩ := hp
  refine j_putF C f_X0_28 0 dX0_init_34 rfl (Nat.le_of_ble_eq_true rfl) rfl rfl rfl hcl_X0 ?_
  refine j_ws (ws' := (h0, .inr (0, [.ref (g2 1), .ref (g4 2), .ref (g6 3), .null, .null, .int 0, .int 0, .int 0, .int 0, .int 0, .int 0])) :: ((mbW ca g2 B0 ++ clW ca g4 B0) ++ ivW ca g6 B0)) rfl ?_
  refine j_aload_n C dX0_init_37 rfl ?_
  refine j_iconst C dX0_init_38 (3 : Int32) (by decide) ?_
  refine j_newa_f C 3 q_165 (by decide) rfl (Nat.le_of_ble_eq_true rfl) (Nat.le_of_ble_eq_true rfl) (Nat.le_of_ble_eq_true rfl) dX0_init_39 (fun q7 => ?_)
  refine j_putF C f_X0_32 0 dX0_init_41 rfl (Nat.le_of_ble_eq_true rfl) rfl rfl rfl hcl_X0 ?_
  refine j_ws (ws' := (h0, .inr (0, [.ref (g2 1), .ref (g4 2), .ref (g6 3), .ref q7, .null, .int 0, .int 0, .int 0, .int 0, .int 0, .int 0])) :: (((mbW ca g2 B0 ++ clW ca g4 B0) ++ ivW ca g6 B0) ++ [(q7, .inl (ca 1, 3, .inr (.inr (.inl (fun _ => 0)))))])) rfl ?_
  refine j_aload_n C dX0_init_44 rfl ?_
  refine j_iconst C dX0_init_45 (3 : Int32) (by decide) ?_
  refine j_newa_i C 3 q_51 (by decide) rfl (Nat.le_of_ble_eq_true rfl) (Nat.le_of_ble_eq_true rfl) (Nat.le_of_ble_eq_true rfl) dX0_init_46 (fun q8 => ?_)
  refine j_putF C f_X0_36 0 dX0_init_48 rfl (Nat.le_of_ble_eq_true rfl) rfl rfl rfl hcl_X0 ?_
  refine j_ws (ws' := (h0, .inr (0, [.ref (g2 1), .ref (g4 2), .ref (g6 3), .ref q7, .ref q8, .int 0, .int 0, .int 0, .int 0, .int 0, .int 0])) :: ((((mbW ca g2 B0 ++ clW ca g4 B0) ++ ivW ca g6 B0) ++ [(q7, .inl (ca 1, 3, .inr (.inr (.inl (fun _ => 0)))))]) ++ [(q8, .inl (ca 0, 3, .inl (fun _ => 0)))])) rfl ?_
  refine j_aload_n C dX0_init_51 rfl ?_
  refine j_get C f_X0_32.F 0 dX0_init_52 rfl rfl ?_
  refine j_iconst C dX0_init_55 (0 : Int32) (by decide) ?_
  refine j_ldcf C q_117 dX0_init_56 ?_
  refine j_fast C 18 dX0_init_58 rfl (vin_c rfl) ?_
  refine j_aload_n C dX0_init_59 rfl ?_
  refine j_get C f_X0_32.F 0 dX0_init_60 rfl rfl ?_
  refine j_iconst C dX0_init_63 (1 : Int32) (by decide) ?_
  refine j_ldcf C q_118 dX0_init_64 ?_
  refine j_fast C 18 dX0_init_66 rfl (vin_c rfl) ?_
  refine j_aload_n C dX0_init_67 rfl ?_
  refine j_get C f_X0_32.F 0 dX0_init_68 rfl rfl ?_
  refine j_iconst C dX0_init_71 (2 : Int32) (by decide) ?_
  refine j_ldcf C q_119 dX0_init_72 ?_
  refine j_fast C 18 dX0_init_74 rfl (vin_c rfl) ?_
  refine j_aload_n C dX0_init_75 rfl ?_
  refine j_get C f_X0_36.F 0 dX0_init_76 rfl rfl ?_
  refine j_iconst C dX0_init_79 (0 : Int32) (by decide) ?_
  refine j_bipush C dX0_init_80 (14 : Int32) (by decide) ?_
  refine j_iast C 19 dX0_init_82 rfl (vin_c rfl) ?_
  refine j_aload_n C dX0_init_83 rfl ?_
  refine j_get C f_X0_36.F 0 dX0_init_84 rfl rfl ?_
  refine j_iconst C dX0_init_87 (1 : Int32) (by decide) ?_
  refine j_bipush C dX0_init_88 (20 : Int32) (by decide) ?_
  refine j_iast C 19 dX0_init_90 rfl (vin_c rfl) ?_
  refine j_aload_n C dX0_init_91 rfl ?_
  refine j_get C f_X0_36.F 0 dX0_init_92 rfl rfl ?_
  refine j_iconst C dX0_init_95 (2 : Int32) (by decide) ?_
  refine j_bipush C dX0_init_96 (120 : Int32) (by decide) ?_
  refine j_iast C 19 dX0_init_98 rfl (vin_c rfl) ?_
  refine j_extF 18 (fun k => (bI 15 k).toUInt32) rfl rIrow ?_
  refine j_ext 19 (bI 14) rfl nIrow ?_
  refine j_perm (bkW ca (gl [h0, (g2 1), (g4 2), (g6 3), q7, q8, (g2 6), (g2 7), (g2 8), (g2 9), (g4 10), (g4 11), (g4 12), (g6 13), (g6 14), (g6 15), (g6 16), (g6 17), (g6 18), (g6 19)]) bI) [0, 1, 6, 10, 18, 19, 2, 3, 4, 5, 7, 8, 9, 11, 12, 13, 14, 15, 16, 17] rfl rfl ?_
  exact j_vret E dX0_init_99 ⟨rfl, (gl [h0, (g2 1), (g4 2), (g6 3), q7, q8, (g2 6), (g2 7), (g2 8), (g2 9), (g4 10), (g4 11), (g4 12), (g6 13), (g6 14), (g6 15), (g6 16), (g6 17), (g6 18), (g6 19)]), rfl, rfl⟩
