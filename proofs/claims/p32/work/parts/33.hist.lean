set_option maxRecDepth 100000 in
set_option maxHeartbeats 4000000 in
theorem c_X2_stateAt (l : Launch) (D : va_G) (ca : Nat → ClassId) (g : Nat → Nat) (K : Nat → jB) (p : Int32) (q : Nat) (hq : q < 4) (hp : p = nI q) : jM l D ca yX2_stateAt cX2_stateAt 2 (Option.some (FieldType.object RX0)) 0 0 0 0 [.ref (g 1), .int p] (fW ca g K) (jD (some (.ref (g (70 + 20 * q)))) (fW ca g K)) := by
  subst hp
  refine jM_of [(0, .ref (g 1)), (1, .int (nI q))] (by decide) (Nat.le_of_ble_eq_true rfl) rfl (fun X C E => ?_)
  refine j_iload_n C dX2_stateAt_0 rfl ?_
  refine j_if_lt (tgt := 9) C dX2_stateAt_1 (by decide) (fun h => absurd h (nI_pos (by omega))) (fun _ => ?_)
  refine j_iload_n C dX2_stateAt_4 rfl ?_
  refine j_iconst C dX2_stateAt_5 (4 : Int32) (by decide) ?_
  refine j_icmp_lt (tgt := 13) C dX2_stateAt_6 (by decide) (fun _ => ?_) (fun h => absurd (nI_lt (b := 4) hq (by decide)) h)
  refine j_aload_n C dX2_stateAt_13 rfl ?_
  refine j_get C f_X2_11.F 1 dX2_stateAt_14 fW_1 rfl ?_
  refine j_iload_n C dX2_stateAt_17 rfl ?_
  refine j_aald C 2 dX2_stateAt_18 fW_2 (vp_in_nI hq (by decide)) ?_
  refine j_st (st' := [.ref (g (70 + 20 * q))]) (by rw [nI_clamp (show q < 2 ^ 31 by omega)]; rfl) ?_
  exact j_aret E rfl (Or.inr ⟨_, rfl⟩) dX2_stateAt_19 ⟨rfl, rfl⟩
set_option maxRecDepth 100000 in
set_option maxHeartbeats 4000000 in
theorem plc_f_0_3 {ca : Nat → ClassId} {g : Nat → Nat} {K : (Nat → jB)} : [10, 11, 12, 13, 14, 15, 16, 17, 18, 19, 20, 21, 22, 23, 24, 25, 26, 27, 28, 29, 70, 71, 72, 73, 74, 75, 76, 77, 78, 79, 80, 81, 82, 83, 84, 85, 86, 87, 88, 89].map (fun i => (fW ca g K)[i]?) = (bkW ca (fun j => g (10 + j)) (K 0) ++ bkW ca (fun j => g (70 + j)) (K 3)).map some := rfl
set_option maxRecDepth 100000 in
set_option maxHeartbeats 4000000 in
theorem fc_f_0_3 {ca : Nat → ClassId} {g : Nat → Nat} {K : (Nat → jB)} : jrep (fW ca g K) [10, 11, 12, 13, 14, 15, 16, 17, 18, 19, 20, 21, 22, 23, 24, 25, 26, 27, 28, 29, 70, 71, 72, 73, 74, 75, 76, 77, 78, 79, 80, 81, 82, 83, 84, 85, 86, 87, 88, 89] (bkW ca (fun j => g (10 + j)) (K 0) ++ bkW ca (fun j => g (70 + j)) (K 0)) = fW ca g (up1 K 3 (K 0)) := jrep_mg (by decide) rfl
set_option maxRecDepth 100000 in
set_option maxHeartbeats 4000000 in
theorem fst2 {ca : Nat → ClassId} {g h : Nat → Nat} {A B Cc : jB} : (bkW ca g B ++ bkW ca h A).map Prod.fst = (bkW ca g B ++ bkW ca h Cc).map Prod.fst := rfl
set_option maxRecDepth 100000 in
set_option maxHeartbeats 4000000 in
theorem fo_f_1_1 {ca : Nat → ClassId} {g : Nat → Nat} {K : (Nat → jB)} {v : Int32} : (fW ca g K).set 1 (g 1, .inr (2, [.ref (g 2), .int (K 7 5 2), .int (K 7 5 3)].set 1 (.int v))) = fW ca g (up3 K 7 5 2 v) := rfl
set_option maxRecDepth 100000 in
set_option maxHeartbeats 4000000 in
theorem rd_29 {S : (Nat → jB)} {v0 : Int32} : (up3 S 7 5 2 v0) 7 5 3 = S 7 5 3 := rfl
set_option maxRecDepth 100000 in
set_option maxHeartbeats 4000000 in
theorem fo_f_1_2 {ca : Nat → ClassId} {g : Nat → Nat} {K : (Nat → jB)} {v : Int32} : (fW ca g K).set 1 (g 1, .inr (2, [.ref (g 2), .int (K 7 5 2), .int (K 7 5 3)].set 2 (.int v))) = fW ca g (up3 K 7 5 3 v) := rfl

def z_X2_push_0_0_0 (K : (Nat → jB)) : (Nat → jB) := (up3 (up3 (up1 K 3 (K 0)) 7 5 2 (0 : Int32)) 7 5 3 (((up1 K 3 (K 0)) 7 5 3) + (1 : Int32)))
def z_X2_push_0_0_1 (K : (Nat → jB)) : (Nat → jB) := (up3 (up3 (up1 K 3 (K 0)) 7 5 2 (((up1 K 3 (K 0)) 7 5 2) + (1 : Int32))) 7 5 3 (((up1 K 3 (K 0)) 7 5 3) + (1 : Int32)))
def r_X2_push_0_0 (K : (Nat → jB)) : (Nat → jB) := (if (4 : Int32) ≤ (((up1 K 3 (K 0)) 7 5 2) + (1 : Int32)) then (if (4 : Int32) ≤ ((up1 K 3 (K 0)) 7 5 3) then (up3 (up1 K 3 (K 0)) 7 5 2 (0 : Int32)) else (z_X2_push_0_0_0 K)) else (if (4 : Int32) ≤ ((up1 K 3 (K 0)) 7 5 3) then (up3 (up1 K 3 (K 0)) 7 5 2 (((up1 K 3 (K 0)) 7 5 2) + (1 : Int32))) else (z_X2_push_0_0_1 K)))
def n_X2_push_0_0 (K : (Nat → jB)) : Prop := ((K 7 5 2 = (0 : Int32)) ∧ True)
set_option maxRecDepth 100000 in
set_option maxHeartbeats 4000000 in
theorem c_X2_push_0_0 (l : Launch) (D : va_G) (ca : Nat → ClassId) (g : Nat → Nat) (K : (Nat → jB)) (hq : n_X2_push_0_0 K) : jM l D ca yX2_push cX2_push 2 (none : Option FieldType) 4 86 0 0 [.ref (g 1), .ref (g 10)] (fW ca g K) (jD none (fW ca g (r_X2_push_0_0 K))) := by
  refine jM_of [(0, .ref (g 1)), (1, .ref (g 10))] (by decide) (Nat.le_of_ble_eq_true rfl) rfl (fun X C E => ?_)
  rw [n_X2_push_0_0] at hq
  obtain ⟨hk, hq⟩ := hq
  have hc : ¬ (4 : Int32) ≤ K 7 5 2 + (1 : Int32) := by rw [hk]; decide
  refine j_aload_n C dX2_push_0 rfl ?_
  refine j_aload_n C dX2_push_1 rfl ?_
  refine j_aload_n C dX2_push_2 rfl ?_
  refine j_get C f_X2_18.F 1 dX2_push_3 fW_1 rfl ?_
  refine j_callVaRW C g_X2_22 (c_X2_stateAt l D ca g K (K 7 5 2) 0 (by decide) (by first | rfl | exact hk | (rw [hk]; rfl))) 1 fW_1 hcl_X2 ⟨Nat.le_of_ble_eq_true rfl, Nat.le_of_ble_eq_true rfl⟩ ⟨Nat.le_of_ble_eq_true rfl, Nat.le_of_ble_eq_true rfl⟩ rfl rfl (Nat.le_of_ble_eq_true rfl) dX2_push_6 ?_
  refine j_callSv C g_X2_26 (c_X2_copy l D ca (fun j => g (10 + j)) (fun j => g (70 + j)) (K 0) (K 3)) ⟨Nat.le_of_ble_eq_true rfl, Nat.le_of_ble_eq_true rfl⟩ ⟨Nat.le_of_ble_eq_true rfl, Nat.le_of_ble_eq_true rfl⟩ [10, 11, 12, 13, 14, 15, 16, 17, 18, 19, 20, 21, 22, 23, 24, 25, 26, 27, 28, 29, 70, 71, 72, 73, 74, 75, 76, 77, 78, 79, 80, 81, 82, 83, 84, 85, 86, 87, 88, 89] plc_f_0_3 rfl rfl rfl (Nat.le_of_ble_eq_true rfl) dX2_push_9 fst2 ?_
  refine j_ws (ws' := (fW ca g (up1 K 3 (K 0)))) fc_f_0_3 ?_
  refine j_aload_n C dX2_push_12 rfl ?_
  refine j_aload_n C dX2_push_13 rfl ?_
  refine j_get C f_X2_18.F 1 dX2_push_14 fW_1 rfl ?_
  refine j_iconst C dX2_push_17 (1 : Int32) (by decide) ?_
  refine j_iadd C dX2_push_18 ?_
  refine j_iconst C dX2_push_19 (4 : Int32) (by decide) ?_
  refine j_icmp_ge (tgt := 32) C dX2_push_20 (by decide) (fun (h20 : (4 : Int32) ≤ (((up1 K 3 (K 0)) 7 5 2) + (1 : Int32))) => ?_) (fun (h20 : ¬ ((4 : Int32) ≤ (((up1 K 3 (K 0)) 7 5 2) + (1 : Int32)))) => ?_)
  · refine j_iconst C dX2_push_32 (0 : Int32) (by decide) ?_
    refine j_put C f_X2_18 1 dX2_push_33 fW_1 (Nat.le_of_ble_eq_true rfl) rfl rfl ?_
    refine j_ws (ws' := (fW ca g (up3 (up1 K 3 (K 0)) 7 5 2 (0 : Int32)))) fo_f_1_1 ?_
    refine j_aload_n C dX2_push_36 rfl ?_
    refine j_get C f_X2_30.F 1 dX2_push_37 fW_1 rfl ?_
    refine j_sti rd_29 ?_
    refine j_iconst C dX2_push_40 (4 : Int32) (by decide) ?_
    refine j_icmp_ge (tgt := 54) C dX2_push_41 (by decide) (fun (h41 : (4 : Int32) ≤ ((up1 K 3 (K 0)) 7 5 3)) => ?_) (fun (h41 : ¬ ((4 : Int32) ≤ ((up1 K 3 (K 0)) 7 5 3))) => ?_)
    · have e9 : r_X2_push_0_0 K = (up3 (up1 K 3 (K 0)) 7 5 2 (0 : Int32)) := by rw [r_X2_push_0_0, if_pos h20, if_pos h41]
      exact j_vret E dX2_push_54 (by rw [e9]; exact ⟨rfl, rfl⟩)
    · refine j_aload_n C dX2_push_44 rfl ?_
      refine j_dup C dX2_push_45 rfl ?_
      refine j_get C f_X2_30.F 1 dX2_push_46 fW_1 rfl ?_
      refine j_sti rd_29 ?_
      refine j_iconst C dX2_push_49 (1 : Int32) (by decide) ?_
      refine j_iadd C dX2_push_50 ?_
      refine j_put C f_X2_30 1 dX2_push_51 fW_1 (Nat.le_of_ble_eq_true rfl) rfl rfl ?_
      refine j_ws (ws' := (fW ca g (z_X2_push_0_0_0 K))) fo_f_1_2 ?_
      have e9 : r_X2_push_0_0 K = (z_X2_push_0_0_0 K) := by rw [r_X2_push_0_0, if_pos h20, if_neg h41]
      exact j_vret E dX2_push_54 (by rw [e9]; exact ⟨rfl, rfl⟩)
  · refine j_aload_n C dX2_push_23 rfl ?_
    refine j_get C f_X2_18.F 1 dX2_push_24 fW_1 rfl ?_
    refine j_iconst C dX2_push_27 (1 : Int32) (by decide) ?_
    refine j_iadd C dX2_push_28 ?_
    refine j_goto (tgt := 33) C dX2_push_29 (by decide) ?_
    refine j_put C f_X2_18 1 dX2_push_33 fW_1 (Nat.le_of_ble_eq_true rfl) rfl rfl ?_
    refine j_ws (ws' := (fW ca g (up3 (up1 K 3 (K 0)) 7 5 2 (((up1 K 3 (K 0)) 7 5 2) + (1 : Int32))))) fo_f_1_1 ?_
    refine j_aload_n C dX2_push_36 rfl ?_
    refine j_get C f_X2_30.F 1 dX2_push_37 fW_1 rfl ?_
    refine j_sti rd_29 ?_
    refine j_iconst C dX2_push_40 (4 : Int32) (by decide) ?_
    refine j_icmp_ge (tgt := 54) C dX2_push_41 (by decide) (fun (h41 : (4 : Int32) ≤ ((up1 K 3 (K 0)) 7 5 3)) => ?_) (fun (h41 : ¬ ((4 : Int32) ≤ ((up1 K 3 (K 0)) 7 5 3))) => ?_)
    · have e9 : r_X2_push_0_0 K = (up3 (up1 K 3 (K 0)) 7 5 2 (((up1 K 3 (K 0)) 7 5 2) + (1 : Int32))) := by rw [r_X2_push_0_0, if_neg h20, if_pos h41]
      exact j_vret E dX2_push_54 (by rw [e9]; exact ⟨rfl, rfl⟩)
    · refine j_aload_n C dX2_push_44 rfl ?_
      refine j_dup C dX2_push_45 rfl ?_
      refine j_get C f_X2_30.F 1 dX2_push_46 fW_1 rfl ?_
      refine j_sti rd_29 ?_
      refine j_iconst C dX2_push_49 (1 : Int32) (by decide) ?_
      refine j_iadd C dX2_push_50 ?_
      refine j_put C f_X2_30 1 dX2_push_51 fW_1 (Nat.le_of_ble_eq_true rfl) rfl rfl ?_
      refine j_ws (ws' := (fW ca g (z_X2_push_0_0_1 K))) fo_f_1_2 ?_
      have e9 : r_X2_push_0_0 K = (z_X2_push_0_0_1 K) := by rw [r_X2_push_0_0, if_neg h20, if_neg h41]
      exact j_vret E dX2_push_54 (by rw [e9]; exact ⟨rfl, rfl⟩)
set_option maxRecDepth 100000 in
set_option maxHeartbeats 4000000 in
theorem plc_f_0_4 {ca : Nat → ClassId} {g : Nat → Nat} {K : (Nat → jB)} : [10, 11, 12, 13, 14, 15, 16, 17, 18, 19, 20, 21, 22, 23, 24, 25, 26, 27, 28, 29, 90, 91, 92, 93, 94, 95, 96, 97, 98, 99, 100, 101, 102, 103, 104, 105, 106, 107, 108, 109].map (fun i => (fW ca g K)[i]?) = (bkW ca (fun j => g (10 + j)) (K 0) ++ bkW ca (fun j => g (90 + j)) (K 4)).map some := rfl
set_option maxRecDepth 100000 in
set_option maxHeartbeats 4000000 in
theorem fc_f_0_4 {ca : Nat → ClassId} {g : Nat → Nat} {K : (Nat → jB)} : jrep (fW ca g K) [10, 11, 12, 13, 14, 15, 16, 17, 18, 19, 20, 21, 22, 23, 24, 25, 26, 27, 28, 29, 90, 91, 92, 93, 94, 95, 96, 97, 98, 99, 100, 101, 102, 103, 104, 105, 106, 107, 108, 109] (bkW ca (fun j => g (10 + j)) (K 0) ++ bkW ca (fun j => g (90 + j)) (K 0)) = fW ca g (up1 K 4 (K 0)) := jrep_mg (by decide) rfl

def z_X2_push_0_1_0 (K : (Nat → jB)) : (Nat → jB) := (up3 (up3 (up1 K 4 (K 0)) 7 5 2 (0 : Int32)) 7 5 3 (((up1 K 4 (K 0)) 7 5 3) + (1 : Int32)))
def z_X2_push_0_1_1 (K : (Nat → jB)) : (Nat → jB) := (up3 (up3 (up1 K 4 (K 0)) 7 5 2 (((up1 K 4 (K 0)) 7 5 2) + (1 : Int32))) 7 5 3 (((up1 K 4 (K 0)) 7 5 3) + (1 : Int32)))
def r_X2_push_0_1 (K : (Nat → jB)) : (Nat → jB) := (if (4 : Int32) ≤ (((up1 K 4 (K 0)) 7 5 2) + (1 : Int32)) then (if (4 : Int32) ≤ ((up1 K 4 (K 0)) 7 5 3) then (up3 (up1 K 4 (K 0)) 7 5 2 (0 : Int32)) else (z_X2_push_0_1_0 K)) else (if (4 : Int32) ≤ ((up1 K 4 (K 0)) 7 5 3) then (up3 (up1 K 4 (K 0)) 7 5 2 (((up1 K 4 (K 0)) 7 5 2) + (1 : Int32))) else (z_X2_push_0_1_1 K)))
def n_X2_push_0_1 (K : (Nat → jB)) : Prop := ((K 7 5 2 = (1 : Int32)) ∧ True)
set_option maxRecDepth 100000 in
set_option maxHeartbeats 4000000 in
theorem c_X2_push_0_1 (l : Launch) (D : va_G) (ca : Nat → ClassId) (g : Nat → Nat) (K : (Nat → jB)) (hq : n_X2_push_0_1 K) : jM l D ca yX2_push cX2_push 2 (none : Option FieldType) 4 86 0 0 [.ref (g 1), .ref (g 10)] (fW ca g K) (jD none (fW ca g (r_X2_push_0_1 K))) := by
  refine jM_of [(0, .ref (g 1)), (1, .ref (g 10))] (by decide) (Nat.le_of_ble_eq_true rfl) rfl (fun X C E => ?_)
  rw [n_X2_push_0_1] at hq
  obtain ⟨hk, hq⟩ := hq
  have hc : ¬ (4 : Int32) ≤ K 7 5 2 + (1 : Int32) := by rw [hk]; decide
  refine j_aload_n C dX2_push_0 rfl ?_
  refine j_aload_n C dX2_push_1 rfl ?_
  refine j_aload_n C dX2_push_2 rfl ?_
  refine j_get C f_X2_18.F 1 dX2_push_3 fW_1 rfl ?_
  refine j_callVaRW C g_X2_22 (c_X2_stateAt l D ca g K (K 7 5 2) 1 (by decide) (by first | rfl | exact hk | (rw [hk]; rfl))) 1 fW_1 hcl_X2 ⟨Nat.le_of_ble_eq_true rfl, Nat.le_of_ble_eq_true rfl⟩ ⟨Nat.le_of_ble_eq_true rfl, Nat.le_of_ble_eq_true rfl⟩ rfl rfl (Nat.le_of_ble_eq_true rfl) dX2_push_6 ?_
  refine j_callSv C g_X2_26 (c_X2_copy l D ca (fun j => g (10 + j)) (fun j => g (90 + j)) (K 0) (K 4)) ⟨Nat.le_of_ble_eq_true rfl, Nat.le_of_ble_eq_true rfl⟩ ⟨Nat.le_of_ble_eq_true rfl, Nat.le_of_ble_eq_true rfl⟩ [10, 11, 12, 13, 14, 15, 16, 17, 18, 19, 20, 21, 22, 23, 24, 25, 26, 27, 28, 29, 90, 91, 92, 93, 94, 95, 96, 97, 98, 99, 100, 101, 102, 103, 104, 105, 106, 107, 108, 109] plc_f_0_4 rfl rfl rfl (Nat.le_of_ble_eq_true rfl) dX2_push_9 fst2 ?_
  refine j_ws (ws' := (fW ca g (up1 K 4 (K 0)))) fc_f_0_4 ?_
  refine j_aload_n C dX2_push_12 rfl ?_
  refine j_aload_n C dX2_push_13 rfl ?_
  refine j_get C f_X2_18.F 1 dX2_push_14 fW_1 rfl ?_
  refine j_iconst C dX2_push_17 (1 : Int32) (by decide) ?_
  refine j_iadd C dX2_push_18 ?_
  refine j_iconst C dX2_push_19 (4 : Int32) (by decide) ?_
  refine j_icmp_ge (tgt := 32) C dX2_push_20 (by decide) (fun (h20 : (4 : Int32) ≤ (((up1 K 4 (K 0)) 7 5 2) + (1 : Int32))) => ?_) (fun (h20 : ¬ ((4 : Int32) ≤ (((up1 K 4 (K 0)) 7 5 2) + (1 : Int32)))) => ?_)
  · refine j_iconst C dX2_push_32 (0 : Int32) (by decide) ?_
    refine j_put C f_X2_18 1 dX2_push_33 fW_1 (Nat.le_of_ble_eq_true rfl) rfl rfl ?_
    refine j_ws (ws' := (fW ca g (up3 (up1 K 4 (K 0)) 7 5 2 (0 : Int32)))) fo_f_1_1 ?_
    refine j_aload_n C dX2_push_36 rfl ?_
    refine j_get C f_X2_30.F 1 dX2_push_37 fW_1 rfl ?_
    refine j_sti rd_29 ?_
    refine j_iconst C dX2_push_40 (4 : Int32) (by decide) ?_
    refine j_icmp_ge (tgt := 54) C dX2_push_41 (by decide) (fun (h41 : (4 : Int32) ≤ ((up1 K 4 (K 0)) 7 5 3)) => ?_) (fun (h41 : ¬ ((4 : Int32) ≤ ((up1 K 4 (K 0)) 7 5 3))) => ?_)
    · have e9 : r_X2_push_0_1 K = (up3 (up1 K 4 (K 0)) 7 5 2 (0 : Int32)) := by rw [r_X2_push_0_1, if_pos h20, if_pos h41]
      exact j_vret E dX2_push_54 (by rw [e9]; exact ⟨rfl, rfl⟩)
    · refine j_aload_n C dX2_push_44 rfl ?_
      refine j_dup C dX2_push_45 rfl ?_
      refine j_get C f_X2_30.F 1 dX2_push_46 fW_1 rfl ?_
      refine j_sti rd_29 ?_
      refine j_iconst C dX2_push_49 (1 : Int32) (by decide) ?_
      refine j_iadd C dX2_push_50 ?_
      refine j_put C f_X2_30 1 dX2_push_51 fW_1 (Nat.le_of_ble_eq_true rfl) rfl rfl ?_
      refine j_ws (ws' := (fW ca g (z_X2_push_0_1_0 K))) fo_f_1_2 ?_
      have e9 : r_X2_push_0_1 K = (z_X2_push_0_1_0 K) := by rw [r_X2_push_0_1, if_pos h20, if_neg h41]
      exact j_vret E dX2_push_54 (by rw [e9]; exact ⟨rfl, rfl⟩)
  · refine j_aload_n C dX2_push_23 rfl ?_
    refine j_get C f_X2_18.F 1 dX2_push_24 fW_1 rfl ?_
    refine j_iconst C dX2_push_27 (1 : Int32) (by decide) ?_
    refine j_iadd C dX2_push_28 ?_
    refine j_goto (tgt := 33) C dX2_push_29 (by decide) ?_
    refine j_put C f_X2_18 1 dX2_push_33 fW_1 (Nat.le_of_ble_eq_true rfl) rfl rfl ?_
    refine j_ws (ws' := (fW ca g (up3 (up1 K 4 (K 0)) 7 5 2 (((up1 K 4 (K 0)) 7 5 2) + (1 : Int32))))) fo_f_1_1 ?_
    refine j_aload_n C dX2_push_36 rfl ?_
    refine j_get C f_X2_30.F 1 dX2_push_37 fW_1 rfl ?_
    refine j_sti rd_29 ?_
    refine j_iconst C dX2_push_40 (4 : Int32) (by decide) ?_
    refine j_icmp_ge (tgt := 54) C dX2_push_41 (by decide) (fun (h41 : (4 : Int32) ≤ ((up1 K 4 (K 0)) 7 5 3)) => ?_) (fun (h41 : ¬ ((4 : Int32) ≤ ((up1 K 4 (K 0)) 7 5 3))) => ?_)
    · have e9 : r_X2_push_0_1 K = (up3 (up1 K 4 (K 0)) 7 5 2 (((up1 K 4 (K 0)) 7 5 2) + (1 : Int32))) := by rw [r_X2_push_0_1, if_neg h20, if_pos h41]
      exact j_vret E dX2_push_54 (by rw [e9]; exact ⟨rfl, rfl⟩)
    · refine j_aload_n C dX2_push_44 rfl ?_
      refine j_dup C dX2_push_45 rfl ?_
      refine j_get C f_X2_30.F 1 dX2_push_46 fW_1 rfl ?_
      refine j_sti rd_29 ?_
      refine j_iconst C dX2_push_49 (1 : Int32) (by decide) ?_
      refine j_iadd C dX2_push_50 ?_
      refine j_put C f_X2_30 1 dX2_push_51 fW_1 (Nat.le_of_ble_eq_true rfl) rfl rfl ?_
      refine j_ws (ws' := (fW ca g (z_X2_push_0_1_1 K))) fo_f_1_2 ?_
      have e9 : r_X2_push_0_1 K = (z_X2_push_0_1_1 K) := by rw [r_X2_push_0_1, if_neg h20, if_neg h41]
      exact j_vret E dX2_push_54 (by rw [e9]; exact ⟨rfl, rfl⟩)
set_option maxRecDepth 100000 in
set_option maxHeartbeats 4000000 in
theorem plc_f_0_5 {ca : Nat → ClassId} {g : Nat → Nat} {K : (Nat → jB)} : [10, 11, 12, 13, 14, 15, 16, 17, 18, 19, 20, 21, 22, 23, 24, 25, 26, 27, 28, 29, 110, 111, 112, 113, 114, 115, 116, 117, 118, 119, 120, 121, 122, 123, 124, 125, 126, 127, 128, 129].map (fun i => (fW ca g K)[i]?) = (bkW ca (fun j => g (10 + j)) (K 0) ++ bkW ca (fun j => g (110 + j)) (K 5)).map some := rfl
set_option maxRecDepth 100000 in
set_option maxHeartbeats 4000000 in
theorem fc_f_0_5 {ca : Nat → ClassId} {g : Nat → Nat} {K : (Nat → jB)} : jrep (fW ca g K) [10, 11, 12, 13, 14, 15, 16, 17, 18, 19, 20, 21, 22, 23, 24, 25, 26, 27, 28, 29, 110, 111, 112, 113, 114, 115, 116, 117, 118, 119, 120, 121, 122, 123, 124, 125, 126, 127, 128, 129] (bkW ca (fun j => g (10 + j)) (K 0) ++ bkW ca (fun j => g (110 + j)) (K 0)) = fW ca g (up1 K 5 (K 0)) := jrep_mg (by decide) rfl

def z_X2_push_0_2_0 (K : (Nat → jB)) : (Nat → jB) := (up3 (up3 (up1 K 5 (K 0)) 7 5 2 (0 : Int32)) 7 5 3 (((up1 K 5 (K 0)) 7 5 3) + (1 : Int32)))
def z_X2_push_0_2_1 (K : (Nat → jB)) : (Nat → jB) := (up3 (up3 (up1 K 5 (K 0)) 7 5 2 (((up1 K 5 (K 0)) 7 5 2) + (1 : Int32))) 7 5 3 (((up1 K 5 (K 0)) 7 5 3) + (1 : Int32)))
def r_X2_push_0_2 (K : (Nat → jB)) : (Nat → jB) := (if (4 : Int32) ≤ (((up1 K 5 (K 0)) 7 5 2) + (1 : Int32)) then (if (4 : Int32) ≤ ((up1 K 5 (K 0)) 7 5 3) then (up3 (up1 K 5 (K 0)) 7 5 2 (0 : Int32)) else (z_X2_push_0_2_0 K)) else (if (4 : Int32) ≤ ((up1 K 5 (K 0)) 7 5 3) then (up3 (up1 K 5 (K 0)) 7 5 2 (((up1 K 5 (K 0)) 7 5 2) + (1 : Int32))) else (z_X2_push_0_2_1 K)))
def n_X2_push_0_2 (K : (Nat → jB)) : Prop := ((K 7 5 2 = (2 : Int32)) ∧ True)
set_option maxRecDepth 100000 in
set_option maxHeartbeats 4000000 in
theorem c_X2_push_0_2 (l : Launch) (D : va_G) (ca : Nat → ClassId) (g : Nat → Nat) (K : (Nat → jB)) (hq : n_X2_push_0_2 K) : jM l D ca yX2_push cX2_push 2 (none : Option FieldType) 4 86 0 0 [.ref (g 1), .ref (g 10)] (fW ca g K) (jD none (fW ca g (r_X2_push_0_2 K))) := by
  refine jM_of [(0, .ref (g 1)), (1, .ref (g 10))] (by decide) (Nat.le_of_ble_eq_true rfl) rfl (fun X C E => ?_)
  rw [n_X2_push_0_2] at hq
  obtain ⟨hk, hq⟩ := hq
  have hc : ¬ (4 : Int32) ≤ K 7 5 2 + (1 : Int32) := by rw [hk]; decide
  refine j_aload_n C dX2_push_0 rfl ?_
  refine j_aload_n C dX2_push_1 rfl ?_
  refine j_aload_n C dX2_push_2 rfl ?_
  refine j_get C f_X2_18.F 1 dX2_push_3 fW_1 rfl ?_
  refine j_callVaRW C g_X2_22 (c_X2_stateAt l D ca g K (K 7 5 2) 2 (by decide) (by first | rfl | exact hk | (rw [hk]; rfl))) 1 fW_1 hcl_X2 ⟨Nat.le_of_ble_eq_true rfl, Nat.le_of_ble_eq_true rfl⟩ ⟨Nat.le_of_ble_eq_true rfl, Nat.le_of_ble_eq_true rfl⟩ rfl rfl (Nat.le_of_ble_eq_true rfl) dX2_push_6 ?_
  refine j_callSv C g_X2_26 (c_X2_copy l D ca (fun j => g (10 + j)) (fun j => g (110 + j)) (K 0) (K 5)) ⟨Nat.le_of_ble_eq_true rfl, Nat.le_of_ble_eq_true rfl⟩ ⟨Nat.le_of_ble_eq_true rfl, Nat.le_of_ble_eq_true rfl⟩ [10, 11, 12, 13, 14, 15, 16, 17, 18, 19, 20, 21, 22, 23, 24, 25, 26, 27, 28, 29, 110, 111, 112, 113, 114, 115, 116, 117, 118, 119, 120, 121, 122, 123, 124, 125, 126, 127, 128, 129] plc_f_0_5 rfl rfl rfl (Nat.le_of_ble_eq_true rfl) dX2_push_9 fst2 ?_
  refine j_ws (ws' := (fW ca g (up1 K 5 (K 0)))) fc_f_0_5 ?_
  refine j_aload_n C dX2_push_12 rfl ?_
  refine j_aload_n C dX2_push_13 rfl ?_
  refine j_get C f_X2_18.F 1 dX2_push_14 fW_1 rfl ?_
  refine j_iconst C dX2_push_17 (1 : Int32) (by decide) ?_
  refine j_iadd C dX2_push_18 ?_
  refine j_iconst C dX2_push_19 (4 : Int32) (by decide) ?_
  refine j_icmp_ge (tgt := 32) C dX2_push_20 (by decide) (fun (h20 : (4 : Int32) ≤ (((up1 K 5 (K 0)) 7 5 2) + (1 : Int32))) => ?_) (fun (h20 : ¬ ((4 : Int32) ≤ (((up1 K 5 (K 0)) 7 5 2) + (1 : Int32)))) => ?_)
  · refine j_iconst C dX2_push_32 (0 : Int32) (by decide) ?_
    refine j_put C f_X2_18 1 dX2_push_33 fW_1 (Nat.le_of_ble_eq_true rfl) rfl rfl ?_
    refine j_ws (ws' := (fW ca g (up3 (up1 K 5 (K 0)) 7 5 2 (0 : Int32)))) fo_f_1_1 ?_
    refine j_aload_n C dX2_push_36 rfl ?_
    refine j_get C f_X2_30.F 1 dX2_push_37 fW_1 rfl ?_
    refine j_sti rd_29 ?_
    refine j_iconst C dX2_push_40 (4 : Int32) (by decide) ?_
    refine j_icmp_ge (tgt := 54) C dX2_push_41 (by decide) (fun (h41 : (4 : Int32) ≤ ((up1 K 5 (K 0)) 7 5 3)) => ?_) (fun (h41 : ¬ ((4 : Int32) ≤ ((up1 K 5 (K 0)) 7 5 3))) => ?_)
    · have e9 : r_X2_push_0_2 K = (up3 (up1 K 5 (K 0)) 7 5 2 (0 : Int32)) := by rw [r_X2_push_0_2, if_pos h20, if_pos h41]
      exact j_vret E dX2_push_54 (by rw [e9]; exact ⟨rfl, rfl⟩)
    · refine j_aload_n C dX2_push_44 rfl ?_
      refine j_dup C dX2_push_45 rfl ?_
      refine j_get C f_X2_30.F 1 dX2_push_46 fW_1 rfl ?_
      refine j_sti rd_29 ?_
      refine j_iconst C dX2_push_49 (1 : Int32) (by decide) ?_
      refine j_iadd C dX2_push_50 ?_
      refine j_put C f_X2_30 1 dX2_push_51 fW_1 (Nat.le_of_ble_eq_true rfl) rfl rfl ?_
      refine j_ws (ws' := (fW ca g (z_X2_push_0_2_0 K))) fo_f_1_2 ?_
      have e9 : r_X2_push_0_2 K = (z_X2_push_0_2_0 K) := by rw [r_X2_push_0_2, if_pos h20, if_neg h41]
      exact j_vret E dX2_push_54 (by rw [e9]; exact ⟨rfl, rfl⟩)
  · refine j_aload_n C dX2_push_23 rfl ?_
    refine j_get C f_X2_18.F 1 dX2_push_24 fW_1 rfl ?_
    refine j_iconst C dX2_push_27 (1 : Int32) (by decide) ?_
    refine j_iadd C dX2_push_28 ?_
    refine j_goto (tgt := 33) C dX2_push_29 (by decide) ?_
    refine j_put C f_X2_18 1 dX2_push_33 fW_1 (Nat.le_of_ble_eq_true rfl) rfl rfl ?_
    refine j_ws (ws' := (fW ca g (up3 (up1 K 5 (K 0)) 7 5 2 (((up1 K 5 (K 0)) 7 5 2) + (1 : Int32))))) fo_f_1_1 ?_
    refine j_aload_n C dX2_push_36 rfl ?_
    refine j_get C f_X2_30.F 1 dX2_push_37 fW_1 rfl ?_
    refine j_sti rd_29 ?_
    refine j_iconst C dX2_push_40 (4 : Int32) (by decide) ?_
    refine j_icmp_ge (tgt := 54) C dX2_push_41 (by decide) (fun (h41 : (4 : Int32) ≤ ((up1 K 5 (K 0)) 7 5 3)) => ?_) (fun (h41 : ¬ ((4 : Int32) ≤ ((up1 K 5 (K 0)) 7 5 3))) => ?_)
    · have e9 : r_X2_push_0_2 K = (up3 (up1 K 5 (K 0)) 7 5 2 (((up1 K 5 (K 0)) 7 5 2) + (1 : Int32))) := by rw [r_X2_push_0_2, if_neg h20, if_pos h41]
      exact j_vret E dX2_push_54 (by rw [e9]; exact ⟨rfl, rfl⟩)
    · refine j_aload_n C dX2_push_44 rfl ?_
      refine j_dup C dX2_push_45 rfl ?_
      refine j_get C f_X2_30.F 1 dX2_push_46 fW_1 rfl ?_
      refine j_sti rd_29 ?_
      refine j_iconst C dX2_push_49 (1 : Int32) (by decide) ?_
      refine j_iadd C dX2_push_50 ?_
      refine j_put C f_X2_30 1 dX2_push_51 fW_1 (Nat.le_of_ble_eq_true rfl) rfl rfl ?_
      refine j_ws (ws' := (fW ca g (z_X2_push_0_2_1 K))) fo_f_1_2 ?_
      have e9 : r_X2_push_0_2 K = (z_X2_push_0_2_1 K) := by rw [r_X2_push_0_2, if_neg h20, if_neg h41]
      exact j_vret E dX2_push_54 (by rw [e9]; exact ⟨rfl, rfl⟩)
set_option maxRecDepth 100000 in
set_option maxHeartbeats 4000000 in
theorem plc_f_0_6 {ca : Nat → ClassId} {g : Nat → Nat} {K : (Nat → jB)} : [10, 11, 12, 13, 14, 15, 16, 17, 18, 19, 20, 21, 22, 23, 24, 25, 26, 27, 28, 29, 130, 131, 132, 133, 134, 135, 136, 137, 138, 139, 140, 141, 142, 143, 144, 145, 146, 147, 148, 149].map (fun i => (fW ca g K)[i]?) = (bkW ca (fun j => g (10 + j)) (K 0) ++ bkW ca (fun j => g (130 + j)) (K 6)).map some := rfl
set_option maxRecDepth 100000 in
set_option maxHeartbeats 4000000 in
theorem fc_f_0_6 {ca : Nat → ClassId} {g : Nat → Nat} {K : (Nat → jB)} : jrep (fW ca g K) [10, 11, 12, 13, 14, 15, 16, 17, 18, 19, 20, 21, 22, 23, 24, 25, 26, 27, 28, 29, 130, 131, 132, 133, 134, 135, 136, 137, 138, 139, 140, 141, 142, 143, 144, 145, 146, 147, 148, 149] (bkW ca (fun j => g (10 + j)) (K 0) ++ bkW ca (fun j => g (130 + j)) (K 0)) = fW ca g (up1 K 6 (K 0)) := jrep_mg (by decide) rfl

def z_X2_push_0_3_0 (K : (Nat → jB)) : (Nat → jB) := (up3 (up3 (up1 K 6 (K 0)) 7 5 2 (0 : Int32)) 7 5 3 (((up1 K 6 (K 0)) 7 5 3) + (1 : Int32)))
def z_X2_push_0_3_1 (K : (Nat → jB)) : (Nat → jB) := (up3 (up3 (up1 K 6 (K 0)) 7 5 2 (((up1 K 6 (K 0)) 7 5 2) + (1 : Int32))) 7 5 3 (((up1 K 6 (K 0)) 7 5 3) + (1 : Int32)))
def r_X2_push_0_3 (K : (Nat → jB)) : (Nat → jB) := (if (4 : Int32) ≤ (((up1 K 6 (K 0)) 7 5 2) + (1 : Int32)) then (if (4 : Int32) ≤ ((up1 K 6 (K 0)) 7 5 3) then (up3 (up1 K 6 (K 0)) 7 5 2 (0 : Int32)) else (z_X2_push_0_3_0 K)) else (if (4 : Int32) ≤ ((up1 K 6 (K 0)) 7 5 3) then (up3 (up1 K 6 (K 0)) 7 5 2 (((up1 K 6 (K 0)) 7 5 2) + (1 : Int32))) else (z_X2_push_0_3_1 K)))
def n_X2_push_0_3 (K : (Nat → jB)) : Prop := ((K 7 5 2 = (3 : Int32)) ∧ True)
set_option maxRecDepth 100000 in
set_option maxHeartbeats 4000000 in
theorem c_X2_push_0_3 (l : Launch) (D : va_G) (ca : Nat → ClassId) (g : Nat → Nat) (K : (Nat → jB)) (hq : n_X2_push_0_3 K) : jM l D ca yX2_push cX2_push 2 (none : Option FieldType) 4 86 0 0 [.ref (g 1), .ref (g 10)] (fW ca g K) (jD none (fW ca g (r_X2_push_0_3 K))) := by
  refine jM_of [(0, .ref (g 1)), (1, .ref (g 10))] (by decide) (Nat.le_of_ble_eq_true rfl) rfl (fun X C E => ?_)
  rw [n_X2_push_0_3] at hq
  obtain ⟨hk, hq⟩ := hq
  have hc : (4 : Int32) ≤ K 7 5 2 + (1 : Int32) := by rw [hk]; decide
  refine j_aload_n C dX2_push_0 rfl ?_
  refine j_aload_n C dX2_push_1 rfl ?_
  refine j_aload_n C dX2_push_2 rfl ?_
  refine j_get C f_X2_18.F 1 dX2_push_3 fW_1 rfl ?_
  refine j_callVaRW C g_X2_22 (c_X2_stateAt l D ca g K (K 7 5 2) 3 (by decide) (by first | rfl | exact hk | (rw [hk]; rfl))) 1 fW_1 hcl_X2 ⟨Nat.le_of_ble_eq_true rfl, Nat.le_of_ble_eq_true rfl⟩ ⟨Nat.le_of_ble_eq_true rfl, Nat.le_of_ble_eq_true rfl⟩ rfl rfl (Nat.le_of_ble_eq_true rfl) dX2_push_6 ?_
  refine j_callSv C g_X2_26 (c_X2_copy l D ca (fun j => g (10 + j)) (fun j => g (130 + j)) (K 0) (K 6)) ⟨Nat.le_of_ble_eq_true rfl, Nat.le_of_ble_eq_true rfl⟩ ⟨Nat.le_of_ble_eq_true rfl, Nat.le_of_ble_eq_true rfl⟩ [10, 11, 12, 13, 14, 15, 16, 17, 18, 19, 20, 21, 22, 23, 24, 25, 26, 27, 28, 29, 130, 131, 132, 133, 134, 135, 136, 137, 138, 139, 140, 141, 142, 143, 144, 145, 146, 147, 148, 149] plc_f_0_6 rfl rfl rfl (Nat.le_of_ble_eq_true rfl) dX2_push_9 fst2 ?_
  refine j_ws (ws' := (fW ca g (up1 K 6 (K 0)))) fc_f_0_6 ?_
  refine j_aload_n C dX2_push_12 rfl ?_
  refine j_aload_n C dX2_push_13 rfl ?_
  refine j_get C f_X2_18.F 1 dX2_push_14 fW_1 rfl ?_
  refine j_iconst C dX2_push_17 (1 : Int32) (by decide) ?_
  refine j_iadd C dX2_push_18 ?_
  refine j_iconst C dX2_push_19 (4 : Int32) (by decide) ?_
  refine j_icmp_ge (tgt := 32) C dX2_push_20 (by decide) (fun (h20 : (4 : Int32) ≤ (((up1 K 6 (K 0)) 7 5 2) + (1 : Int32))) => ?_) (fun (h20 : ¬ ((4 : Int32) ≤ (((up1 K 6 (K 0)) 7 5 2) + (1 : Int32)))) => ?_)
  · refine j_iconst C dX2_push_32 (0 : Int32) (by decide) ?_
    refine j_put C f_X2_18 1 dX2_push_33 fW_1 (Nat.le_of_ble_eq_true rfl) rfl rfl ?_
    refine j_ws (ws' := (fW ca g (up3 (up1 K 6 (K 0)) 7 5 2 (0 : Int32)))) fo_f_1_1 ?_
    refine j_aload_n C dX2_push_36 rfl ?_
    refine j_get C f_X2_30.F 1 dX2_push_37 fW_1 rfl ?_
    refine j_sti rd_29 ?_
    refine j_iconst C dX2_push_40 (4 : Int32) (by decide) ?_
    refine j_icmp_ge (tgt := 54) C dX2_push_41 (by decide) (fun (h41 : (4 : Int32) ≤ ((up1 K 6 (K 0)) 7 5 3)) => ?_) (fun (h41 : ¬ ((4 : Int32) ≤ ((up1 K 6 (K 0)) 7 5 3))) => ?_)
    · have e9 : r_X2_push_0_3 K = (up3 (up1 K 6 (K 0)) 7 5 2 (0 : Int32)) := by rw [r_X2_push_0_3, if_pos h20, if_pos h41]
      exact j_vret E dX2_push_54 (by rw [e9]; exact ⟨rfl, rfl⟩)
    · refine j_aload_n C dX2_push_44 rfl ?_
      refine j_dup C dX2_push_45 rfl ?_
      refine j_get C f_X2_30.F 1 dX2_push_46 fW_1 rfl ?_
      refine j_sti rd_29 ?_
      refine j_iconst C dX2_push_49 (1 : Int32) (by decide) ?_
      refine j_iadd C dX2_push_50 ?_
      refine j_put C f_X2_30 1 dX2_push_51 fW_1 (Nat.le_of_ble_eq_true rfl) rfl rfl ?_
      refine j_ws (ws' := (fW ca g (z_X2_push_0_3_0 K))) fo_f_1_2 ?_
      have e9 : r_X2_push_0_3 K = (z_X2_push_0_3_0 K) := by rw [r_X2_push_0_3, if_pos h20, if_neg h41]
      exact j_vret E dX2_push_54 (by rw [e9]; exact ⟨rfl, rfl⟩)
  · refine j_aload_n C dX2_push_23 rfl ?_
    refine j_get C f_X2_18.F 1 dX2_push_24 fW_1 rfl ?_
    refine j_iconst C dX2_push_27 (1 : Int32) (by decide) ?_
    refine j_iadd C dX2_push_28 ?_
    refine j_goto (tgt := 33) C dX2_push_29 (by decide) ?_
    refine j_put C f_X2_18 1 dX2_push_33 fW_1 (Nat.le_of_ble_eq_true rfl) rfl rfl ?_
    refine j_ws (ws' := (fW ca g (up3 (up1 K 6 (K 0)) 7 5 2 (((up1 K 6 (K 0)) 7 5 2) + (1 : Int32))))) fo_f_1_1 ?_
    refine j_aload_n C dX2_push_36 rfl ?_
    refine j_get C f_X2_30.F 1 dX2_push_37 fW_1 rfl ?_
    refine j_sti rd_29 ?_
    refine j_iconst C dX2_push_40 (4 : Int32) (by decide) ?_
    refine j_icmp_ge (tgt := 54) C dX2_push_41 (by decide) (fun (h41 : (4 : Int32) ≤ ((up1 K 6 (K 0)) 7 5 3)) => ?_) (fun (h41 : ¬ ((4 : Int32) ≤ ((up1 K 6 (K 0)) 7 5 3))) => ?_)
    · have e9 : r_X2_push_0_3 K = (up3 (up1 K 6 (K 0)) 7 5 2 (((up1 K 6 (K 0)) 7 5 2) + (1 : Int32))) := by rw [r_X2_push_0_3, if_neg h20, if_pos h41]
      exact j_vret E dX2_push_54 (by rw [e9]; exact ⟨rfl, rfl⟩)
    · refine j_aload_n C dX2_push_44 rfl ?_
      refine j_dup C dX2_push_45 rfl ?_
      refine j_get C f_X2_30.F 1 dX2_push_46 fW_1 rfl ?_
      refine j_sti rd_29 ?_
      refine j_iconst C dX2_push_49 (1 : Int32) (by decide) ?_
      refine j_iadd C dX2_push_50 ?_
      refine j_put C f_X2_30 1 dX2_push_51 fW_1 (Nat.le_of_ble_eq_true rfl) rfl rfl ?_
      refine j_ws (ws' := (fW ca g (z_X2_push_0_3_1 K))) fo_f_1_2 ?_
      have e9 : r_X2_push_0_3 K = (z_X2_push_0_3_1 K) := by rw [r_X2_push_0_3, if_neg h20, if_neg h41]
      exact j_vret E dX2_push_54 (by rw [e9]; exact ⟨rfl, rfl⟩)
set_option maxRecDepth 100000 in
set_option maxHeartbeats 4000000 in
theorem rd_30 {S : (Nat → jB)} {v1 : Int32} {v0 : Int32} : (up3 (up3 S 7 5 2 v1) 7 5 3 v0) 7 5 2 = v1 := rfl
set_option maxRecDepth 100000 in
set_option maxHeartbeats 4000000 in
theorem plc_f_6_0 {ca : Nat → ClassId} {g : Nat → Nat} {K : (Nat → jB)} : [10, 11, 12, 13, 14, 15, 16, 17, 18, 19, 20, 21, 22, 23, 24, 25, 26, 27, 28, 29, 130, 131, 132, 133, 134, 135, 136, 137, 138, 139, 140, 141, 142, 143, 144, 145, 146, 147, 148, 149].map (fun i => (fW ca g K)[i]?) = (bkW ca (fun j => g (10 + j)) (K 0) ++ bkW ca (fun j => g (130 + j)) (K 6)).map some := rfl
set_option maxRecDepth 100000 in
set_option maxHeartbeats 4000000 in
theorem fc_f_6_0 {ca : Nat → ClassId} {g : Nat → Nat} {K : (Nat → jB)} : jrep (fW ca g K) [10, 11, 12, 13, 14, 15, 16, 17, 18, 19, 20, 21, 22, 23, 24, 25, 26, 27, 28, 29, 130, 131, 132, 133, 134, 135, 136, 137, 138, 139, 140, 141, 142, 143, 144, 145, 146, 147, 148, 149] (bkW ca (fun j => g (10 + j)) (K 6) ++ bkW ca (fun j => g (130 + j)) (K 6)) = fW ca g (up1 K 0 (K 6)) := jrep_mg (by decide) rfl
set_option maxRecDepth 100000 in
set_option maxHeartbeats 4000000 in
theorem fst2_s {ca : Nat → ClassId} {g h : Nat → Nat} {A B Cc : jB} : (bkW ca h A ++ bkW ca g B).map Prod.fst = (bkW ca h Cc ++ bkW ca g B).map Prod.fst := rfl

def z_X2_popInto_0_0_0 (K : (Nat → jB)) : (Nat → jB) := (up1 (up3 (up3 K 7 5 2 (3 : Int32)) 7 5 3 ((K 7 5 3) - (1 : Int32))) 0 ((up3 (up3 K 7 5 2 (3 : Int32)) 7 5 3 ((K 7 5 3) - (1 : Int32))) 6))
def r_X2_popInto_0_0 (K : (Nat → jB)) : (Nat → jB) := (if (K 7 5 3) = (0 : Int32) then K else (z_X2_popInto_0_0_0 K))
def n_X2_popInto_0_0 (K : (Nat → jB)) : Prop := ((K 7 5 2 = (0 : Int32)) ∧ True)
set_option maxRecDepth 100000 in
set_option maxHeartbeats 4000000 in
theorem c_X2_popInto_0_0 (l : Launch) (D : va_G) (ca : Nat → ClassId) (g : Nat → Nat) (K : (Nat → jB)) (hq : n_X2_popInto_0_0 K) : jM l D ca yX2_popInto cX2_popInto 2 (none : Option FieldType) 4 86 0 0 [.ref (g 1), .ref (g 10)] (fW ca g K) (jD none (fW ca g (r_X2_popInto_0_0 K))) := by
  refine jM_of [(0, .ref (g 1)), (1, .ref (g 10))] (by decide) (Nat.le_of_ble_eq_true rfl) rfl (fun X C E => ?_)
  rw [n_X2_popInto_0_0] at hq
  obtain ⟨hk, hq⟩ := hq
  have hc : K 7 5 2 ≤ (0 : Int32) := by rw [hk]; decide
  refine j_aload_n C dX2_popInto_0 rfl ?_
  refine j_get C f_X2_30.F 1 dX2_popInto_1 fW_1 rfl ?_
  refine j_if_ne (tgt := 8) C dX2_popInto_4 (by decide) (fun (h4 : ¬ ((K 7 5 3) = (0 : Int32))) => ?_) (fun (h4 : (K 7 5 3) = (0 : Int32)) => ?_)
  · refine j_aload_n C dX2_popInto_8 rfl ?_
    refine j_aload_n C dX2_popInto_9 rfl ?_
    refine j_get C f_X2_18.F 1 dX2_popInto_10 fW_1 rfl ?_
    refine j_if_le (tgt := 25) C dX2_popInto_13 (by decide) (fun _ => ?_) (fun h => absurd hc h)
    refine j_iconst C dX2_popInto_25 (3 : Int32) (by decide) ?_
    refine j_put C f_X2_18 1 dX2_popInto_26 fW_1 (Nat.le_of_ble_eq_true rfl) rfl rfl ?_
    refine j_ws (ws' := (fW ca g (up3 K 7 5 2 (3 : Int32)))) fo_f_1_1 ?_
    refine j_aload_n C dX2_popInto_29 rfl ?_
    refine j_dup C dX2_popInto_30 rfl ?_
    refine j_get C f_X2_30.F 1 dX2_popInto_31 fW_1 rfl ?_
    refine j_sti rd_29 ?_
    refine j_iconst C dX2_popInto_34 (1 : Int32) (by decide) ?_
    refine j_isub C dX2_popInto_35 ?_
    refine j_put C f_X2_30 1 dX2_popInto_36 fW_1 (Nat.le_of_ble_eq_true rfl) rfl rfl ?_
    refine j_ws (ws' := (fW ca g (up3 (up3 K 7 5 2 (3 : Int32)) 7 5 3 ((K 7 5 3) - (1 : Int32))))) fo_f_1_2 ?_
    refine j_aload_n C dX2_popInto_39 rfl ?_
    refine j_aload_n C dX2_popInto_40 rfl ?_
    refine j_get C f_X2_18.F 1 dX2_popInto_41 fW_1 rfl ?_
    refine j_sti rd_30 ?_
    refine j_callVaRW C g_X2_22 (c_X2_stateAt l D ca g (up3 (up3 K 7 5 2 (3 : Int32)) 7 5 3 ((K 7 5 3) - (1 : Int32))) (3 : Int32) 3 (by decide) (by first | rfl | exact hk | (rw [hk]; rfl))) 1 fW_1 hcl_X2 ⟨Nat.le_of_ble_eq_true rfl, Nat.le_of_ble_eq_true rfl⟩ ⟨Nat.le_of_ble_eq_true rfl, Nat.le_of_ble_eq_true rfl⟩ rfl rfl (Nat.le_of_ble_eq_true rfl) dX2_popInto_44 ?_
    refine j_aload_n C dX2_popInto_47 rfl ?_
    refine j_callSv C g_X2_26 (c_X2_copy_s l D ca (fun j => g (130 + j)) (fun j => g (10 + j)) ((up3 (up3 K 7 5 2 (3 : Int32)) 7 5 3 ((K 7 5 3) - (1 : Int32))) 6) ((up3 (up3 K 7 5 2 (3 : Int32)) 7 5 3 ((K 7 5 3) - (1 : Int32))) 0)) ⟨Nat.le_of_ble_eq_true rfl, Nat.le_of_ble_eq_true rfl⟩ ⟨Nat.le_of_ble_eq_true rfl, Nat.le_of_ble_eq_true rfl⟩ [10, 11, 12, 13, 14, 15, 16, 17, 18, 19, 20, 21, 22, 23, 24, 25, 26, 27, 28, 29, 130, 131, 132, 133, 134, 135, 136, 137, 138, 139, 140, 141, 142, 143, 144, 145, 146, 147, 148, 149] plc_f_6_0 rfl rfl rfl (Nat.le_of_ble_eq_true rfl) dX2_popInto_48 fst2_s ?_
    refine j_ws (ws' := (fW ca g (z_X2_popInto_0_0_0 K))) fc_f_6_0 ?_
    have e9 : r_X2_popInto_0_0 K = (z_X2_popInto_0_0_0 K) := by rw [r_X2_popInto_0_0, if_neg h4]
    exact j_vret E dX2_popInto_51 (by rw [e9]; exact ⟨rfl, rfl⟩)
  · have e9 : r_X2_popInto_0_0 K = K := by rw [r_X2_popInto_0_0, if_pos h4]
    exact j_vret E dX2_popInto_7 (by rw [e9]; exact ⟨rfl, rfl⟩)
set_option maxRecDepth 100000 in
set_option maxHeartbeats 4000000 in
theorem plc_f_3_0 {ca : Nat → ClassId} {g : Nat → Nat} {K : (Nat → jB)} : [10, 11, 12, 13, 14, 15, 16, 17, 18, 19, 20, 21, 22, 23, 24, 25, 26, 27, 28, 29, 70, 71, 72, 73, 74, 75, 76, 77, 78, 79, 80, 81, 82, 83, 84, 85, 86, 87, 88, 89].map (fun i => (fW ca g K)[i]?) = (bkW ca (fun j => g (10 + j)) (K 0) ++ bkW ca (fun j => g (70 + j)) (K 3)).map some := rfl
set_option maxRecDepth 100000 in
set_option maxHeartbeats 4000000 in
theorem fc_f_3_0 {ca : Nat → ClassId} {g : Nat → Nat} {K : (Nat → jB)} : jrep (fW ca g K) [10, 11, 12, 13, 14, 15, 16, 17, 18, 19, 20, 21, 22, 23, 24, 25, 26, 27, 28, 29, 70, 71, 72, 73, 74, 75, 76, 77, 78, 79, 80, 81, 82, 83, 84, 85, 86, 87, 88, 89] (bkW ca (fun j => g (10 + j)) (K 3) ++ bkW ca (fun j => g (70 + j)) (K 3)) = fW ca g (up1 K 0 (K 3)) := jrep_mg (by decide) rfl

def z_X2_popInto_0_1_0 (K : (Nat → jB)) : (Nat → jB) := (up3 (up3 K 7 5 2 ((K 7 5 2) - (1 : Int32))) 7 5 3 ((K 7 5 3) - (1 : Int32)))
def r_X2_popInto_0_1 (K : (Nat → jB)) : (Nat → jB) := (if (K 7 5 3) = (0 : Int32) then K else (up1 (z_X2_popInto_0_1_0 K) 0 ((z_X2_popInto_0_1_0 K) 3)))
def n_X2_popInto_0_1 (K : (Nat → jB)) : Prop := ((K 7 5 2 = (1 : Int32)) ∧ True)
set_option maxRecDepth 100000 in
set_option maxHeartbeats 4000000 in
theorem c_X2_popInto_0_1 (l : Launch) (D : va_G) (ca : Nat → ClassId) (g : Nat → Nat) (K : (Nat → jB)) (hq : n_X2_popInto_0_1 K) : jM l D ca yX2_popInto cX2_popInto 2 (none : Option FieldType) 4 86 0 0 [.ref (g 1), .ref (g 10)] (fW ca g K) (jD none (fW ca g (r_X2_popInto_0_1 K))) := by
  refine jM_of [(0, .ref (g 1)), (1, .ref (g 10))] (by decide) (Nat.le_of_ble_eq_true rfl) rfl (fun X C E => ?_)
  rw [n_X2_popInto_0_1] at hq
  obtain ⟨hk, hq⟩ := hq
  have hc : ¬ K 7 5 2 ≤ (0 : Int32) := by rw [hk]; decide
  refine j_aload_n C dX2_popInto_0 rfl ?_
  refine j_get C f_X2_30.F 1 dX2_popInto_1 fW_1 rfl ?_
  refine j_if_ne (tgt := 8) C dX2_popInto_4 (by decide) (fun (h4 : ¬ ((K 7 5 3) = (0 : Int32))) => ?_) (fun (h4 : (K 7 5 3) = (0 : Int32)) => ?_)
  · refine j_aload_n C dX2_popInto_8 rfl ?_
    refine j_aload_n C dX2_popInto_9 rfl ?_
    refine j_get C f_X2_18.F 1 dX2_popInto_10 fW_1 rfl ?_
    refine j_if_le (tgt := 25) C dX2_popInto_13 (by decide) (fun h => absurd h hc) (fun _ => ?_)
    refine j_aload_n C dX2_popInto_16 rfl ?_
    refine j_get C f_X2_18.F 1 dX2_popInto_17 fW_1 rfl ?_
    refine j_iconst C dX2_popInto_20 (1 : Int32) (by decide) ?_
    refine j_isub C dX2_popInto_21 ?_
    refine j_goto (tgt := 26) C dX2_popInto_22 (by decide) ?_
    refine j_put C f_X2_18 1 dX2_popInto_26 fW_1 (Nat.le_of_ble_eq_true rfl) rfl rfl ?_
    refine j_ws (ws' := (fW ca g (up3 K 7 5 2 ((K 7 5 2) - (1 : Int32))))) fo_f_1_1 ?_
    refine j_aload_n C dX2_popInto_29 rfl ?_
    refine j_dup C dX2_popInto_30 rfl ?_
    refine j_get C f_X2_30.F 1 dX2_popInto_31 fW_1 rfl ?_
    refine j_sti rd_29 ?_
    refine j_iconst C dX2_popInto_34 (1 : Int32) (by decide) ?_
    refine j_isub C dX2_popInto_35 ?_
    refine j_put C f_X2_30 1 dX2_popInto_36 fW_1 (Nat.le_of_ble_eq_true rfl) rfl rfl ?_
    refine j_ws (ws' := (fW ca g (z_X2_popInto_0_1_0 K))) fo_f_1_2 ?_
    refine j_aload_n C dX2_popInto_39 rfl ?_
    refine j_aload_n C dX2_popInto_40 rfl ?_
    refine j_get C f_X2_18.F 1 dX2_popInto_41 fW_1 rfl ?_
    refine j_sti rd_30 ?_
    refine j_callVaRW C g_X2_22 (c_X2_stateAt l D ca g (z_X2_popInto_0_1_0 K) ((K 7 5 2) - (1 : Int32)) 0 (by decide) (by first | rfl | exact hk | (rw [hk]; rfl))) 1 fW_1 hcl_X2 ⟨Nat.le_of_ble_eq_true rfl, Nat.le_of_ble_eq_true rfl⟩ ⟨Nat.le_of_ble_eq_true rfl, Nat.le_of_ble_eq_true rfl⟩ rfl rfl (Nat.le_of_ble_eq_true rfl) dX2_popInto_44 ?_
    refine j_aload_n C dX2_popInto_47 rfl ?_
    refine j_callSv C g_X2_26 (c_X2_copy_s l D ca (fun j => g (70 + j)) (fun j => g (10 + j)) ((z_X2_popInto_0_1_0 K) 3) ((z_X2_popInto_0_1_0 K) 0)) ⟨Nat.le_of_ble_eq_true rfl, Nat.le_of_ble_eq_true rfl⟩ ⟨Nat.le_of_ble_eq_true rfl, Nat.le_of_ble_eq_true rfl⟩ [10, 11, 12, 13, 14, 15, 16, 17, 18, 19, 20, 21, 22, 23, 24, 25, 26, 27, 28, 29, 70, 71, 72, 73, 74, 75, 76, 77, 78, 79, 80, 81, 82, 83, 84, 85, 86, 87, 88, 89] plc_f_3_0 rfl rfl rfl (Nat.le_of_ble_eq_true rfl) dX2_popInto_48 fst2_s ?_
    refine j_ws (ws' := (fW ca g (up1 (z_X2_popInto_0_1_0 K) 0 ((z_X2_popInto_0_1_0 K) 3)))) fc_f_3_0 ?_
    have e9 : r_X2_popInto_0_1 K = (up1 (z_X2_popInto_0_1_0 K) 0 ((z_X2_popInto_0_1_0 K) 3)) := by rw [r_X2_popInto_0_1, if_neg h4]
    exact j_vret E dX2_popInto_51 (by rw [e9]; exact ⟨rfl, rfl⟩)
  · have e9 : r_X2_popInto_0_1 K = K := by rw [r_X2_popInto_0_1, if_pos h4]
    exact j_vret E dX2_popInto_7 (by rw [e9]; exact ⟨rfl, rfl⟩)
set_option maxRecDepth 100000 in
set_option maxHeartbeats 4000000 in
theorem plc_f_4_0 {ca : Nat → ClassId} {g : Nat → Nat} {K : (Nat → jB)} : [10, 11, 12, 13, 14, 15, 16, 17, 18, 19, 20, 21, 22, 23, 24, 25, 26, 27, 28, 29, 90, 91, 92, 93, 94, 95, 96, 97, 98, 99, 100, 101, 102, 103, 104, 105, 106, 107, 108, 109].map (fun i => (fW ca g K)[i]?) = (bkW ca (fun j => g (10 + j)) (K 0) ++ bkW ca (fun j => g (90 + j)) (K 4)).map some := rfl
set_option maxRecDepth 100000 in
set_option maxHeartbeats 4000000 in
theorem fc_f_4_0 {ca : Nat → ClassId} {g : Nat → Nat} {K : (Nat → jB)} : jrep (fW ca g K) [10, 11, 12, 13, 14, 15, 16, 17, 18, 19, 20, 21, 22, 23, 24, 25, 26, 27, 28, 29, 90, 91, 92, 93, 94, 95, 96, 97, 98, 99, 100, 101, 102, 103, 104, 105, 106, 107, 108, 109] (bkW ca (fun j => g (10 + j)) (K 4) ++ bkW ca (fun j => g (90 + j)) (K 4)) = fW ca g (up1 K 0 (K 4)) := jrep_mg (by decide) rfl

def z_X2_popInto_0_2_0 (K : (Nat → jB)) : (Nat → jB) := (up3 (up3 K 7 5 2 ((K 7 5 2) - (1 : Int32))) 7 5 3 ((K 7 5 3) - (1 : Int32)))
def r_X2_popInto_0_2 (K : (Nat → jB)) : (Nat → jB) := (if (K 7 5 3) = (0 : Int32) then K else (up1 (z_X2_popInto_0_2_0 K) 0 ((z_X2_popInto_0_2_0 K) 4)))
def n_X2_popInto_0_2 (K : (Nat → jB)) : Prop := ((K 7 5 2 = (2 : Int32)) ∧ True)
set_option maxRecDepth 100000 in
set_option maxHeartbeats 4000000 in
theorem c_X2_popInto_0_2 (l : Launch) (D : va_G) (ca : Nat → ClassId) (g : Nat → Nat) (K : (Nat → jB)) (hq : n_X2_popInto_0_2 K) : jM l D ca yX2_popInto cX2_popInto 2 (none : Option FieldType) 4 86 0 0 [.ref (g 1), .ref (g 10)] (fW ca g K) (jD none (fW ca g (r_X2_popInto_0_2 K))) := by
  refine jM_of [(0, .ref (g 1)), (1, .ref (g 10))] (by decide) (Nat.le_of_ble_eq_true rfl) rfl (fun X C E => ?_)
  rw [n_X2_popInto_0_2] at hq
  obtain ⟨hk, hq⟩ := hq
  have hc : ¬ K 7 5 2 ≤ (0 : Int32) := by rw [hk]; decide
  refine j_aload_n C dX2_popInto_0 rfl ?_
  refine j_get C f_X2_30.F 1 dX2_popInto_1 fW_1 rfl ?_
  refine j_if_ne (tgt := 8) C dX2_popInto_4 (by decide) (fun (h4 : ¬ ((K 7 5 3) = (0 : Int32))) => ?_) (fun (h4 : (K 7 5 3) = (0 : Int32)) => ?_)
  · refine j_aload_n C dX2_popInto_8 rfl ?_
    refine j_aload_n C dX2_popInto_9 rfl ?_
    refine j_get C f_X2_18.F 1 dX2_popInto_10 fW_1 rfl ?_
    refine j_if_le (tgt := 25) C dX2_popInto_13 (by decide) (fun h => absurd h hc) (fun _ => ?_)
    refine j_aload_n C dX2_popInto_16 rfl ?_
    refine j_get C f_X2_18.F 1 dX2_popInto_17 fW_1 rfl ?_
    refine j_iconst C dX2_popInto_20 (1 : Int32) (by decide) ?_
    refine j_isub C dX2_popInto_21 ?_
    refine j_goto (tgt := 26) C dX2_popInto_22 (by decide) ?_
    refine j_put C f_X2_18 1 dX2_popInto_26 fW_1 (Nat.le_of_ble_eq_true rfl) rfl rfl ?_
    refine j_ws (ws' := (fW ca g (up3 K 7 5 2 ((K 7 5 2) - (1 : Int32))))) fo_f_1_1 ?_
    refine j_aload_n C dX2_popInto_29 rfl ?_
    refine j_dup C dX2_popInto_30 rfl ?_
    refine j_get C f_X2_30.F 1 dX2_popInto_31 fW_1 rfl ?_
    refine j_sti rd_29 ?_
    refine j_iconst C dX2_popInto_34 (1 : Int32) (by decide) ?_
    refine j_isub C dX2_popInto_35 ?_
    refine j_put C f_X2_30 1 dX2_popInto_36 fW_1 (Nat.le_of_ble_eq_true rfl) rfl rfl ?_
    refine j_ws (ws' := (fW ca g (z_X2_popInto_0_2_0 K))) fo_f_1_2 ?_
    refine j_aload_n C dX2_popInto_39 rfl ?_
    refine j_aload_n C dX2_popInto_40 rfl ?_
    refine j_get C f_X2_18.F 1 dX2_popInto_41 fW_1 rfl ?_
    refine j_sti rd_30 ?_
    refine j_callVaRW C g_X2_22 (c_X2_stateAt l D ca g (z_X2_popInto_0_2_0 K) ((K 7 5 2) - (1 : Int32)) 1 (by decide) (by first | rfl | exact hk | (rw [hk]; rfl))) 1 fW_1 hcl_X2 ⟨Nat.le_of_ble_eq_true rfl, Nat.le_of_ble_eq_true rfl⟩ ⟨Nat.le_of_ble_eq_true rfl, Nat.le_of_ble_eq_true rfl⟩ rfl rfl (Nat.le_of_ble_eq_true rfl) dX2_popInto_44 ?_
    refine j_aload_n C dX2_popInto_47 rfl ?_
    refine j_callSv C g_X2_26 (c_X2_copy_s l D ca (fun j => g (90 + j)) (fun j => g (10 + j)) ((z_X2_popInto_0_2_0 K) 4) ((z_X2_popInto_0_2_0 K) 0)) ⟨Nat.le_of_ble_eq_true rfl, Nat.le_of_ble_eq_true rfl⟩ ⟨Nat.le_of_ble_eq_true rfl, Nat.le_of_ble_eq_true rfl⟩ [10, 11, 12, 13, 14, 15, 16, 17, 18, 19, 20, 21, 22, 23, 24, 25, 26, 27, 28, 29, 90, 91, 92, 93, 94, 95, 96, 97, 98, 99, 100, 101, 102, 103, 104, 105, 106, 107, 108, 109] plc_f_4_0 rfl rfl rfl (Nat.le_of_ble_eq_true rfl) dX2_popInto_48 fst2_s ?_
    refine j_ws (ws' := (fW ca g (up1 (z_X2_popInto_0_2_0 K) 0 ((z_X2_popInto_0_2_0 K) 4)))) fc_f_4_0 ?_
    have e9 : r_X2_popInto_0_2 K = (up1 (z_X2_popInto_0_2_0 K) 0 ((z_X2_popInto_0_2_0 K) 4)) := by rw [r_X2_popInto_0_2, if_neg h4]
    exact j_vret E dX2_popInto_51 (by rw [e9]; exact ⟨rfl, rfl⟩)
  · have e9 : r_X2_popInto_0_2 K = K := by rw [r_X2_popInto_0_2, if_pos h4]
    exact j_vret E dX2_popInto_7 (by rw [e9]; exact ⟨rfl, rfl⟩)
set_option maxRecDepth 100000 in
set_option maxHeartbeats 4000000 in
theorem plc_f_5_0 {ca : Nat → ClassId} {g : Nat → Nat} {K : (Nat → jB)} : [10, 11, 12, 13, 14, 15, 16, 17, 18, 19, 20, 21, 22, 23, 24, 25, 26, 27, 28, 29, 110, 111, 112, 113, 114, 115, 116, 117, 118, 119, 120, 121, 122, 123, 124, 125, 126, 127, 128, 129].map (fun i => (fW ca g K)[i]?) = (bkW ca (fun j => g (10 + j)) (K 0) ++ bkW ca (fun j => g (110 + j)) (K 5)).map some := rfl
set_option maxRecDepth 100000 in
set_option maxHeartbeats 4000000 in
theorem fc_f_5_0 {ca : Nat → ClassId} {g : Nat → Nat} {K : (Nat → jB)} : jrep (fW ca g K) [10, 11, 12, 13, 14, 15, 16, 17, 18, 19, 20, 21, 22, 23, 24, 25, 26, 27, 28, 29, 110, 111, 112, 113, 114, 115, 116, 117, 118, 119, 120, 121, 122, 123, 124, 125, 126, 127, 128, 129] (bkW ca (fun j => g (10 + j)) (K 5) ++ bkW ca (fun j => g (110 + j)) (K 5)) = fW ca g (up1 K 0 (K 5)) := jrep_mg (by decide) rfl

def z_X2_popInto_0_3_0 (K : (Nat → jB)) : (Nat → jB) := (up3 (up3 K 7 5 2 ((K 7 5 2) - (1 : Int32))) 7 5 3 ((K 7 5 3) - (1 : Int32)))
def r_X2_popInto_0_3 (K : (Nat → jB)) : (Nat → jB) := (if (K 7 5 3) = (0 : Int32) then K else (up1 (z_X2_popInto_0_3_0 K) 0 ((z_X2_popInto_0_3_0 K) 5)))
def n_X2_popInto_0_3 (K : (Nat → jB)) : Prop := ((K 7 5 2 = (3 : Int32)) ∧ True)
set_option maxRecDepth 100000 in
set_option maxHeartbeats 4000000 in
theorem c_X2_popInto_0_3 (l : Launch) (D : va_G) (ca : Nat → ClassId) (g : Nat → Nat) (K : (Nat → jB)) (hq : n_X2_popInto_0_3 K) : jM l D ca yX2_popInto cX2_popInto 2 (none : Option FieldType) 4 86 0 0 [.ref (g 1), .ref (g 10)] (fW ca g K) (jD none (fW ca g (r_X2_popInto_0_3 K))) := by
  refine jM_of [(0, .ref (g 1)), (1, .ref (g 10))] (by decide) (Nat.le_of_ble_eq_true rfl) rfl (fun X C E => ?_)
  rw [n_X2_popInto_0_3] at hq
  obtain ⟨hk, hq⟩ := hq
  have hc : ¬ K 7 5 2 ≤ (0 : Int32) := by rw [hk]; decide
  refine j_aload_n C dX2_popInto_0 rfl ?_
  refine j_get C f_X2_30.F 1 dX2_popInto_1 fW_1 rfl ?_
  refine j_if_ne (tgt := 8) C dX2_popInto_4 (by decide) (fun (h4 : ¬ ((K 7 5 3) = (0 : Int32))) => ?_) (fun (h4 : (K 7 5 3) = (0 : Int32)) => ?_)
  · refine j_aload_n C dX2_popInto_8 rfl ?_
    refine j_aload_n C dX2_popInto_9 rfl ?_
    refine j_get C f_X2_18.F 1 dX2_popInto_10 fW_1 rfl ?_
    refine j_if_le (tgt := 25) C dX2_popInto_13 (by decide) (fun h => absurd h hc) (fun _ => ?_)
    refine j_aload_n C dX2_popInto_16 rfl ?_
    refine j_get C f_X2_18.F 1 dX2_popInto_17 fW_1 rfl ?_
    refine j_iconst C dX2_popInto_20 (1 : Int32) (by decide) ?_
    refine j_isub C dX2_popInto_21 ?_
    refine j_goto (tgt := 26) C dX2_popInto_22 (by decide) ?_
    refine j_put C f_X2_18 1 dX2_popInto_26 fW_1 (Nat.le_of_ble_eq_true rfl) rfl rfl ?_
    refine j_ws (ws' := (fW ca g (up3 K 7 5 2 ((K 7 5 2) - (1 : Int32))))) fo_f_1_1 ?_
    refine j_aload_n C dX2_popInto_29 rfl ?_
    refine j_dup C dX2_popInto_30 rfl ?_
    refine j_get C f_X2_30.F 1 dX2_popInto_31 fW_1 rfl ?_
    refine j_sti rd_29 ?_
    refine j_iconst C dX2_popInto_34 (1 : Int32) (by decide) ?_
    refine j_isub C dX2_popInto_35 ?_
    refine j_put C f_X2_30 1 dX2_popInto_36 fW_1 (Nat.le_of_ble_eq_true rfl) rfl rfl ?_
    refine j_ws (ws' := (fW ca g (z_X2_popInto_0_3_0 K))) fo_f_1_2 ?_
    refine j_aload_n C dX2_popInto_39 rfl ?_
    refine j_aload_n C dX2_popInto_40 rfl ?_
    refine j_get C f_X2_18.F 1 dX2_popInto_41 fW_1 rfl ?_
    refine j_sti rd_30 ?_
    refine j_callVaRW C g_X2_22 (c_X2_stateAt l D ca g (z_X2_popInto_0_3_0 K) ((K 7 5 2) - (1 : Int32)) 2 (by decide) (by first | rfl | exact hk | (rw [hk]; rfl))) 1 fW_1 hcl_X2 ⟨Nat.le_of_ble_eq_true rfl, Nat.le_of_ble_eq_true rfl⟩ ⟨Nat.le_of_ble_eq_true rfl, Nat.le_of_ble_eq_true rfl⟩ rfl rfl (Nat.le_of_ble_eq_true rfl) dX2_popInto_44 ?_
    refine j_aload_n C dX2_popInto_47 rfl ?_
    refine j_callSv C g_X2_26 (c_X2_copy_s l D ca (fun j => g (110 + j)) (fun j => g (10 + j)) ((z_X2_popInto_0_3_0 K) 5) ((z_X2_popInto_0_3_0 K) 0)) ⟨Nat.le_of_ble_eq_true rfl, Nat.le_of_ble_eq_true rfl⟩ ⟨Nat.le_of_ble_eq_true rfl, Nat.le_of_ble_eq_true rfl⟩ [10, 11, 12, 13, 14, 15, 16, 17, 18, 19, 20, 21, 22, 23, 24, 25, 26, 27, 28, 29, 110, 111, 112, 113, 114, 115, 116, 117, 118, 119, 120, 121, 122, 123, 124, 125, 126, 127, 128, 129] plc_f_5_0 rfl rfl rfl (Nat.le_of_ble_eq_true rfl) dX2_popInto_48 fst2_s ?_
    refine j_ws (ws' := (fW ca g (up1 (z_X2_popInto_0_3_0 K) 0 ((z_X2_popInto_0_3_0 K) 5)))) fc_f_5_0 ?_
    have e9 : r_X2_popInto_0_3 K = (up1 (z_X2_popInto_0_3_0 K) 0 ((z_X2_popInto_0_3_0 K) 5)) := by rw [r_X2_popInto_0_3, if_neg h4]
    exact j_vret E dX2_popInto_51 (by rw [e9]; exact ⟨rfl, rfl⟩)
  · have e9 : r_X2_popInto_0_3 K = K := by rw [r_X2_popInto_0_3, if_pos h4]
    exact j_vret E dX2_popInto_7 (by rw [e9]; exact ⟨rfl, rfl⟩)
def r_X2_push_0 (K : Nat → jB) : Nat → jB := (if K 7 5 2 = 0 then r_X2_push_0_0 K else if K 7 5 2 = 1 then r_X2_push_0_1 K else if K 7 5 2 = 2 then r_X2_push_0_2 K else r_X2_push_0_3 K)
def n_X2_push_0 (K : Nat → jB) : Prop := K 7 5 2 = 0 ∨ K 7 5 2 = 1 ∨ K 7 5 2 = 2 ∨ K 7 5 2 = 3
theorem c_X2_push_0 (l : Launch) (D : va_G) (ca : Nat → ClassId) (g : Nat → Nat) (K : Nat → jB) (hq : n_X2_push_0 K) : jM l D ca yX2_push cX2_push 2 (none : Option FieldType) 4 86 0 0 [.ref (g 1), .ref (g 10)] (fW ca g K) (jD none (fW ca g (r_X2_push_0 K))) := by
  rcases hq with h | h | h | h
  · have e : r_X2_push_0 K = r_X2_push_0_0 K := by rw [r_X2_push_0, if_pos h]
    rw [e]
    exact c_X2_push_0_0 l D ca g K (by rw [n_X2_push_0_0]; exact ⟨h, trivial⟩)
  · have e : r_X2_push_0 K = r_X2_push_0_1 K := by rw [r_X2_push_0, if_neg (by rw [h]; decide), if_pos h]
    rw [e]
    exact c_X2_push_0_1 l D ca g K (by rw [n_X2_push_0_1]; exact ⟨h, trivial⟩)
  · have e : r_X2_push_0 K = r_X2_push_0_2 K := by rw [r_X2_push_0, if_neg (by rw [h]; decide), if_neg (by rw [h]; decide), if_pos h]
    rw [e]
    exact c_X2_push_0_2 l D ca g K (by rw [n_X2_push_0_2]; exact ⟨h, trivial⟩)
  · have e : r_X2_push_0 K = r_X2_push_0_3 K := by rw [r_X2_push_0, if_neg (by rw [h]; decide), if_neg (by rw [h]; decide), if_neg (by rw [h]; decide)]
    rw [e]
    exact c_X2_push_0_3 l D ca g K (by rw [n_X2_push_0_3]; exact ⟨h, trivial⟩)
def r_X2_popInto_0 (K : Nat → jB) : Nat → jB := (if K 7 5 2 = 0 then r_X2_popInto_0_0 K else if K 7 5 2 = 1 then r_X2_popInto_0_1 K else if K 7 5 2 = 2 then r_X2_popInto_0_2 K else r_X2_popInto_0_3 K)
def n_X2_popInto_0 (K : Nat → jB) : Prop := K 7 5 2 = 0 ∨ K 7 5 2 = 1 ∨ K 7 5 2 = 2 ∨ K 7 5 2 = 3
theorem c_X2_popInto_0 (l : Launch) (D : va_G) (ca : Nat → ClassId) (g : Nat → Nat) (K : Nat → jB) (hq : n_X2_popInto_0 K) : jM l D ca yX2_popInto cX2_popInto 2 (none : Option FieldType) 4 86 0 0 [.ref (g 1), .ref (g 10)] (fW ca g K) (jD none (fW ca g (r_X2_popInto_0 K))) := by
  rcases hq with h | h | h | h
  · have e : r_X2_popInto_0 K = r_X2_popInto_0_0 K := by rw [r_X2_popInto_0, if_pos h]
    rw [e]
    exact c_X2_popInto_0_0 l D ca g K (by rw [n_X2_popInto_0_0]; exact ⟨h, trivial⟩)
  · have e : r_X2_popInto_0 K = r_X2_popInto_0_1 K := by rw [r_X2_popInto_0, if_neg (by rw [h]; decide), if_pos h]
    rw [e]
    exact c_X2_popInto_0_1 l D ca g K (by rw [n_X2_popInto_0_1]; exact ⟨h, trivial⟩)
  · have e : r_X2_popInto_0 K = r_X2_popInto_0_2 K := by rw [r_X2_popInto_0, if_neg (by rw [h]; decide), if_neg (by rw [h]; decide), if_pos h]
    rw [e]
    exact c_X2_popInto_0_2 l D ca g K (by rw [n_X2_popInto_0_2]; exact ⟨h, trivial⟩)
  · have e : r_X2_popInto_0 K = r_X2_popInto_0_3 K := by rw [r_X2_popInto_0, if_neg (by rw [h]; decide), if_neg (by rw [h]; decide), if_neg (by rw [h]; decide)]
    rw [e]
    exact c_X2_popInto_0_3 l D ca g K (by rw [n_X2_popInto_0_3]; exact ⟨h, trivial⟩)
