/-- a new history: its cell, its row, its four Books -/
def hsW (ca : Nat → ClassId) (g : Nat → Nat) : va_W := [(g 1, .inr (2, [.ref (g 2), .int 0, .int 0])), (g 2, .inl (ca 3, 4, .inr (.inr (.inr (.inr (fun k => some (g (70 + 20 * k))))))))] ++ (bkW ca (fun j => g (70 + j)) bI ++ (bkW ca (fun j => g (90 + j)) bI ++ (bkW ca (fun j => g (110 + j)) bI ++ bkW ca (fun j => g (130 + j)) bI)))
def glH (h0 q : Nat) (g1 g2 g3 g4 : Nat → Nat) : Nat → Nat := fun j => cond (Nat.ble 130 j) (g4 (j - 130)) (cond (Nat.ble 110 j) (g3 (j - 110)) (cond (Nat.ble 90 j) (g2 (j - 90)) (cond (Nat.ble 70 j) (g1 (j - 70)) (cond (Nat.beq j 2) q h0))))
theorem glH_row (h0 q : Nat) (g1 g2 g3 g4 : Nat → Nat) : ∀ j, j < 4 → (va_up (va_up (va_up (va_up (fun _ => none) (0 : Int32).toNatClampNeg (some (g1 0))) ((0 : Int32) + (1 : Int32)).toNatClampNeg (some (g2 0))) (((0 : Int32) + (1 : Int32)) + (1 : Int32)).toNatClampNeg (some (g3 0))) ((((0 : Int32) + (1 : Int32)) + (1 : Int32)) + (1 : Int32)).toNatClampNeg (some (g4 0))) j = some (glH h0 q g1 g2 g3 g4 (70 + 20 * j)) := by
  intro j hj
  match j, hj with
  | 0, _ => rfl
  | 1, _ => rfl
  | 2, _ => rfl
  | 3, _ => rfl
set_option maxRecDepth 100000 in
set_option maxHeartbeats 16000000 in
theorem c_X2_init (l : Launch) (D : va_G) (ca : Nat → ClassId) (h0 : Nat) : jM l D ca yX2_init cX2_init 2 (none : Option FieldType) 3 52 81 896 [.ref h0] [(h0, .inr (2, [.null, .int 0, .int 0]))] (fun v w1 => v = none ∧ ∃ g : Nat → Nat, g 1 = h0 ∧ w1 = hsW ca g) := by
  refine jM_of [(0, .ref h0)] (by decide) (Nat.le_of_ble_eq_true rfl) rfl (fun X C E => ?_)
  refine j_aload_n C dX2_init_0 rfl ?_
  refine j_objInit C q_171 q_15 q_16 dX2_init_1 (Nat.le_of_ble_eq_true rfl) (Nat.le_of_ble_eq_true rfl) ?_
  refine j_aload_n C dX2_init_4 rfl ?_
  refine j_iconst C dX2_init_5 (4 : Int32) (by decide) ?_
  refine j_newq C 4 q_172 (by decide) rfl (Nat.le_of_ble_eq_true rfl) (Nat.le_of_ble_eq_true rfl) (Nat.le_of_ble_eq_true rfl) dX2_init_6 (fun q1 => ?_)
  refine j_putF C f_X2_11 0 dX2_init_9 rfl (Nat.le_of_ble_eq_true rfl) rfl rfl rfl hcl_X2 ?_
  refine j_ws (ws' := (h0, .inr (2, [.ref q1, .int 0, .int 0])) :: [(q1, .inl (ca 3, 4, .inr (.inr (.inr (.inr (fun _ => none))))))]) rfl ?_
  refine j_iconst C dX2_init_12 (0 : Int32) (by decide) ?_
  refine j_istore_n C [(1, _), (0, _)] dX2_init_13 (by decide) rfl ?_
  refine j_iload_n C dX2_init_14 rfl ?_
  refine j_iconst C dX2_init_15 (4 : Int32) (by decide) ?_
  refine j_icmp_ge (tgt := 38) C dX2_init_16 (by decide) (fun h => absurd h (by decide)) (fun _ => ?_)
  refine j_aload_n C dX2_init_19 rfl ?_
  refine j_get C f_X2_11.F 0 dX2_init_20 rfl rfl ?_
  refine j_iload_n C dX2_init_23 rfl ?_
  refine j_new (ci := 0) C [.null, .null, .null, .null, .null, .int 0, .int 0, .int 0, .int 0, .int 0, .int 0] tyX0 tyX0_ok lay_X0 q_172 q_18 q_2 rfl dv_X0 (Nat.le_of_ble_eq_true rfl) (Nat.le_of_ble_eq_true rfl) dX2_init_24 (fun q2 => ?_)
  refine j_dup C dX2_init_27 rfl ?_
  refine j_callI (As := []) C g_X2_17 (c_X0_init l D ca q2) ⟨Nat.le_of_ble_eq_true rfl, Nat.le_of_ble_eq_true rfl⟩ ⟨Nat.le_of_ble_eq_true rfl, Nat.le_of_ble_eq_true rfl⟩ rfl (Nat.le_of_ble_eq_true rfl) dX2_init_28 (fun v w1 hp => ?_)
  obtain ⟨rfl, g3, rfl, rfl⟩ := hp
  refine j_aast C 1 2 dX2_init_31 rfl rfl (vin_c rfl) ?_
  refine j_ws (ws' := (h0, .inr (2, [.ref q1, .int 0, .int 0])) :: ([(q1, .inl (ca 3, 4, .inr (.inr (.inr (.inr (va_up (fun _ => none) (0 : Int32).toNatClampNeg (some (g3 0))))))))] ++ bkW ca g3 bI)) rfl ?_
  refine j_iinc C [(1, _), (0, _)] (v := ((0 : Int32) + (1 : Int32))) dX2_init_32 rfl (iinc_1 _) (by decide) rfl ?_
  refine j_goto (tgt := 14) C dX2_init_35 (by decide) ?_
  refine j_iload_n C dX2_init_14 rfl ?_
  refine j_iconst C dX2_init_15 (4 : Int32) (by decide) ?_
  refine j_icmp_ge (tgt := 38) C dX2_init_16 (by decide) (fun h => absurd h (by decide)) (fun _ => ?_)
  refine j_aload_n C dX2_init_19 rfl ?_
  refine j_get C f_X2_11.F 0 dX2_init_20 rfl rfl ?_
  refine j_iload_n C dX2_init_23 rfl ?_
  refine j_new (ci := 0) C [.null, .null, .null, .null, .null, .int 0, .int 0, .int 0, .int 0, .int 0, .int 0] tyX0 tyX0_ok lay_X0 q_172 q_18 q_2 rfl dv_X0 (Nat.le_of_ble_eq_true rfl) (Nat.le_of_ble_eq_true rfl) dX2_init_24 (fun q4 => ?_)
  refine j_dup C dX2_init_27 rfl ?_
  refine j_callI (As := []) C g_X2_17 (c_X0_init l D ca q4) ⟨Nat.le_of_ble_eq_true rfl, Nat.le_of_ble_eq_true rfl⟩ ⟨Nat.le_of_ble_eq_true rfl, Nat.le_of_ble_eq_true rfl⟩ rfl (Nat.le_of_ble_eq_true rfl) dX2_init_28 (fun v w1 hp => ?_)
  obtain ⟨rfl, g5, rfl, rfl⟩ := hp
  refine j_aast C 1 22 dX2_init_31 rfl rfl (vin_c rfl) ?_
  refine j_ws (ws' := (h0, .inr (2, [.ref q1, .int 0, .int 0])) :: (([(q1, .inl (ca 3, 4, .inr (.inr (.inr (.inr (va_up (va_up (fun _ => none) (0 : Int32).toNatClampNeg (some (g3 0))) ((0 : Int32) + (1 : Int32)).toNatClampNeg (some (g5 0))))))))] ++ bkW ca g3 bI) ++ bkW ca g5 bI)) rfl ?_
  refine j_iinc C [(1, _), (0, _)] (v := (((0 : Int32) + (1 : Int32)) + (1 : Int32))) dX2_init_32 rfl (iinc_1 _) (by decide) rfl ?_
  refine j_goto (tgt := 14) C dX2_init_35 (by decide) ?_
  refine j_iload_n C dX2_init_14 rfl ?_
  refine j_iconst C dX2_init_15 (4 : Int32) (by decide) ?_
  refine j_icmp_ge (tgt := 38) C dX2_init_16 (by decide) (fun h => absurd h (by decide)) (fun _ => ?_)
  refine j_aload_n C dX2_init_19 rfl ?_
  refine j_get C f_X2_11.F 0 dX2_init_20 rfl rfl ?_
  refine j_iload_n C dX2_init_23 rfl ?_
  refine j_new (ci := 0) C [.null, .null, .null, .null, .null, .int 0, .int 0, .int 0, .int 0, .int 0, .int 0] tyX0 tyX0_ok lay_X0 q_172 q_18 q_2 rfl dv_X0 (Nat.le_of_ble_eq_true rfl) (Nat.le_of_ble_eq_true rfl) dX2_init_24 (fun q6 => ?_)
  refine j_dup C dX2_init_27 rfl ?_
  refine j_callI (As := []) C g_X2_17 (c_X0_init l D ca q6) ⟨Nat.le_of_ble_eq_true rfl, Nat.le_of_ble_eq_true rfl⟩ ⟨Nat.le_of_ble_eq_true rfl, Nat.le_of_ble_eq_true rfl⟩ rfl (Nat.le_of_ble_eq_true rfl) dX2_init_28 (fun v w1 hp => ?_)
  obtain ⟨rfl, g7, rfl, rfl⟩ := hp
  refine j_aast C 1 42 dX2_init_31 rfl rfl (vin_c rfl) ?_
  refine j_ws (ws' := (h0, .inr (2, [.ref q1, .int 0, .int 0])) :: ((([(q1, .inl (ca 3, 4, .inr (.inr (.inr (.inr (va_up (va_up (va_up (fun _ => none) (0 : Int32).toNatClampNeg (some (g3 0))) ((0 : Int32) + (1 : Int32)).toNatClampNeg (some (g5 0))) (((0 : Int32) + (1 : Int32)) + (1 : Int32)).toNatClampNeg (some (g7 0))))))))] ++ bkW ca g3 bI) ++ bkW ca g5 bI) ++ bkW ca g7 bI)) rfl ?_
  refine j_iinc C [(1, _), (0, _)] (v := ((((0 : Int32) + (1 : Int32)) + (1 : Int32)) + (1 : Int32))) dX2_init_32 rfl (iinc_1 _) (by decide) rfl ?_
  refine j_goto (tgt := 14) C dX2_init_35 (by decide) ?_
  refine j_iload_n C dX2_init_14 rfl ?_
  refine j_iconst C dX2_init_15 (4 : Int32) (by decide) ?_
  refine j_icmp_ge (tgt := 38) C dX2_init_16 (by decide) (fun h => absurd h (by decide)) (fun _ => ?_)
  refine j_aload_n C dX2_init_19 rfl ?_
  refine j_get C f_X2_11.F 0 dX2_init_20 rfl rfl ?_
  refine j_iload_n C dX2_init_23 rfl ?_
  refine j_new (ci := 0) C [.null, .null, .null, .null, .null, .int 0, .int 0, .int 0, .int 0, .int 0, .int 0] tyX0 tyX0_ok lay_X0 q_172 q_18 q_2 rfl dv_X0 (Nat.le_of_ble_eq_true rfl) (Nat.le_of_ble_eq_true rfl) dX2_init_24 (fun q8 => ?_)
  refine j_dup C dX2_init_27 rfl ?_
  refine j_callI (As := []) C g_X2_17 (c_X0_init l D ca q8) ⟨Nat.le_of_ble_eq_true rfl, Nat.le_of_ble_eq_true rfl⟩ ⟨Nat.le_of_ble_eq_true rfl, Nat.le_of_ble_eq_true rfl⟩ rfl (Nat.le_of_ble_eq_true rfl) dX2_init_28 (fun v w1 hp => ?_)
  obtain ⟨rfl, g9, rfl, rfl⟩ := hp
  refine j_aast C 1 62 dX2_init_31 rfl rfl (vin_c rfl) ?_
  refine j_ws (ws' := (h0, .inr (2, [.ref q1, .int 0, .int 0])) :: (((([(q1, .inl (ca 3, 4, .inr (.inr (.inr (.inr (va_up (va_up (va_up (va_up (fun _ => none) (0 : Int32).toNatClampNeg (some (g3 0))) ((0 : Int32) + (1 : Int32)).toNatClampNeg (some (g5 0))) (((0 : Int32) + (1 : Int32)) + (1 : Int32)).toNatClampNeg (some (g7 0))) ((((0 : Int32) + (1 : Int32)) + (1 : Int32)) + (1 : Int32)).toNatClampNeg (some (g9 0))))))))] ++ bkW ca g3 bI) ++ bkW ca g5 bI) ++ bkW ca g7 bI) ++ bkW ca g9 bI)) rfl ?_
  refine j_iinc C [(1, _), (0, _)] (v := (((((0 : Int32) + (1 : Int32)) + (1 : Int32)) + (1 : Int32)) + (1 : Int32))) dX2_init_32 rfl (iinc_1 _) (by decide) rfl ?_
  refine j_goto (tgt := 14) C dX2_init_35 (by decide) ?_
  refine j_iload_n C dX2_init_14 rfl ?_
  refine j_iconst C dX2_init_15 (4 : Int32) (by decide) ?_
  refine j_icmp_ge (tgt := 38) C dX2_init_16 (by decide) (fun _ => ?_) (fun h => absurd (by decide) h)
  refine j_extQ 1 (fun k => some ((glH h0 q1 g3 g5 g7 g9) (70 + 20 * k))) rfl (glH_row h0 q1 g3 g5 g7 g9) ?_
  exact j_vret E dX2_init_38 ⟨rfl, (glH h0 q1 g3 g5 g7 g9), rfl, rfl⟩
