set_option maxRecDepth 100000 in
set_option maxHeartbeats 4000000 in
theorem fst_f {ca : Nat → ClassId} {g : Nat → Nat} {A B : (Nat → jB)} : (fW ca g A).map Prod.fst = (fW ca g B).map Prod.fst := rfl
set_option maxRecDepth 100000 in
set_option maxHeartbeats 4000000 in
theorem pl_f_mb_0 {ca : Nat → ClassId} {g : Nat → Nat} {K : (Nat → jB)} : [11, 16, 17, 18, 19].map (fun i => (fW ca g K)[i]?) = (mbW ca (fun j => g (10 + j)) (K 0)).map some := rfl
set_option maxRecDepth 100000 in
set_option maxHeartbeats 4000000 in
theorem fs_f_X4_append_0 {ca : Nat → ClassId} {g : Nat → Nat} {K : (Nat → jB)}  {a : Int32} : jrep (fW ca g K) [11, 16, 17, 18, 19] (mbW ca (fun j => g (10 + j)) ((r_X4_append (K 0) a).2)) = fW ca g (up1 K 0 ((r_X4_append (K 0) a).2)) := by
  unfold r_X4_append
  (repeat' split) <;> exact jrep_mg (by decide) rfl

def r_X7_addMember (K : (Nat → jB)) (w : Int32) : Int32 × (Nat → jB) := (if w < (1 : Int32) then ((-2 : Int32), K) else (if w ≤ (9 : Int32) then (if (K 0 16 0) < (8 : Int32) then ((r_X4_append ((r_X2_push_0 K) 0) w).1, (up1 (r_X2_push_0 K) 0 ((r_X4_append ((r_X2_push_0 K) 0) w).2))) else ((-3 : Int32), K)) else ((-2 : Int32), K)))
def n_X7_addMember (K : (Nat → jB)) (w : Int32) : Prop := ((w < (1 : Int32) → True) ∧ (¬ (w < (1 : Int32)) → ((w ≤ (9 : Int32) → (((K 0 16 0) < (8 : Int32) → ((n_X2_push_0 K) ∧ True)) ∧ (¬ ((K 0 16 0) < (8 : Int32)) → True))) ∧ (¬ (w ≤ (9 : Int32)) → True))))
set_option maxRecDepth 100000 in
set_option maxHeartbeats 4000000 in
theorem c_X7_addMember (l : Launch) (D : va_G) (ca : Nat → ClassId) (g : Nat → Nat) (K : (Nat → jB)) (w : Int32) (hq : n_X7_addMember K w) : jM l D ca yX7_addMember cX7_addMember 2 (some .int) 5 107 0 0 [.ref (g 0), .int w] (fW ca g K) (jD (some (.int (r_X7_addMember K w).1)) (fW ca g ((r_X7_addMember K w).2))) := by
  refine jM_of [(0, .ref (g 0)), (1, .int w)] (by decide) (Nat.le_of_ble_eq_true rfl) rfl (fun X C E => ?_)
  rw [n_X7_addMember] at hq
  refine j_iload_n C dX7_addMember_0 rfl ?_
  refine j_iconst C dX7_addMember_1 (1 : Int32) (by decide) ?_
  refine j_icmp_lt (tgt := 11) C dX7_addMember_2 (by decide) (fun (h2 : w < (1 : Int32)) => ?_) (fun (h2 : ¬ (w < (1 : Int32))) => ?_)
  · have hq := hq.1 h2
    refine j_bipush C dX7_addMember_11 (-2 : Int32) (by decide) ?_
    have e9 : r_X7_addMember K w = ((-2 : Int32), K) := by rw [r_X7_addMember, if_pos h2]
    exact j_iret E dX7_addMember_13 (jD_k e9 (fW ca g))
  · have hq := hq.2 h2
    refine j_iload_n C dX7_addMember_5 rfl ?_
    refine j_bipush C dX7_addMember_6 (9 : Int32) (by decide) ?_
    refine j_icmp_le (tgt := 14) C dX7_addMember_8 (by decide) (fun (h8 : w ≤ (9 : Int32)) => ?_) (fun (h8 : ¬ (w ≤ (9 : Int32))) => ?_)
    · have hq := hq.1 h8
      refine j_aload_n C dX7_addMember_14 rfl ?_
      refine j_get C f_X7_10.F 0 dX7_addMember_15 fW_0 rfl ?_
      refine j_get C f_X7_75.F 10 dX7_addMember_18 fW_10 rfl ?_
      refine j_get C f_X7_79.F 11 dX7_addMember_21 fW_11 rfl ?_
      refine j_bipush C dX7_addMember_24 (8 : Int32) (by decide) ?_
      refine j_icmp_lt (tgt := 32) C dX7_addMember_26 (by decide) (fun (h26 : (K 0 16 0) < (8 : Int32)) => ?_) (fun (h26 : ¬ ((K 0 16 0) < (8 : Int32))) => ?_)
      · have hq := hq.1 h26
        refine j_aload_n C dX7_addMember_32 rfl ?_
        refine j_get C f_X7_25.F 0 dX7_addMember_33 fW_0 rfl ?_
        refine j_aload_n C dX7_addMember_36 rfl ?_
        refine j_get C f_X7_10.F 0 dX7_addMember_37 fW_0 rfl ?_
        obtain ⟨hv, hq⟩ := hq
        refine j_callVvW C g_X7_62 (c_X2_push_0 l D ca g K hv) 1 fW_1 hcl_X2 ⟨Nat.le_of_ble_eq_true rfl, Nat.le_of_ble_eq_true rfl⟩ ⟨Nat.le_of_ble_eq_true rfl, Nat.le_of_ble_eq_true rfl⟩ rfl rfl (Nat.le_of_ble_eq_true rfl) dX7_addMember_40 fst_f ?_
        refine j_aload_n C dX7_addMember_43 rfl ?_
        refine j_get C f_X7_10.F 0 dX7_addMember_44 fW_0 rfl ?_
        refine j_get C f_X7_75.F 10 dX7_addMember_47 fW_10 rfl ?_
        refine j_iload_n C dX7_addMember_50 rfl ?_
        refine j_callVi C g_X7_84 (c_X4_append l D ca (fun j => g (10 + j)) ((r_X2_push_0 K) 0) w) 11 fW_11 hcl_X4 ⟨Nat.le_of_ble_eq_true rfl, Nat.le_of_ble_eq_true rfl⟩ ⟨Nat.le_of_ble_eq_true rfl, Nat.le_of_ble_eq_true rfl⟩ [11, 16, 17, 18, 19] pl_f_mb_0 rfl rfl rfl (Nat.le_of_ble_eq_true rfl) dX7_addMember_51 fst_mb ?_
        refine j_ws (ws' := (fW ca g (up1 (r_X2_push_0 K) 0 ((r_X4_append ((r_X2_push_0 K) 0) w).2)))) fs_f_X4_append_0 ?_
        have e9 : r_X7_addMember K w = ((r_X4_append ((r_X2_push_0 K) 0) w).1, (up1 (r_X2_push_0 K) 0 ((r_X4_append ((r_X2_push_0 K) 0) w).2))) := by rw [r_X7_addMember, if_neg h2, if_pos h8, if_pos h26]
        exact j_iret E dX7_addMember_54 (jD_k e9 (fW ca g))
      · have hq := hq.2 h26
        refine j_bipush C dX7_addMember_29 (-3 : Int32) (by decide) ?_
        have e9 : r_X7_addMember K w = ((-3 : Int32), K) := by rw [r_X7_addMember, if_neg h2, if_pos h8, if_neg h26]
        exact j_iret E dX7_addMember_31 (jD_k e9 (fW ca g))
    · have hq := hq.2 h8
      refine j_bipush C dX7_addMember_11 (-2 : Int32) (by decide) ?_
      have e9 : r_X7_addMember K w = ((-2 : Int32), K) := by rw [r_X7_addMember, if_neg h2, if_neg h8]
      exact j_iret E dX7_addMember_13 (jD_k e9 (fW ca g))
set_option maxRecDepth 100000 in
set_option maxHeartbeats 4000000 in
theorem fa_f_17 {ca : Nat → ClassId} {g : Nat → Nat} {K : (Nat → jB)} {i : Nat} {v : Int32} : (fW ca g K).set 17 (g 17, .inl (ca 0, 8, .inl (upd (K 0 1) i v))) = fW ca g (up3 K 0 1 i v) := rfl
set_option maxRecDepth 100000 in
set_option maxHeartbeats 4000000 in
theorem rd_31 {S : (Nat → jB)} {k0 : Nat} {v0 : Int32} : (up3 S 0 1 k0 v0) 0 16 3 = S 0 16 3 := rfl
set_option maxRecDepth 100000 in
set_option maxHeartbeats 4000000 in
theorem fo_f_10_6 {ca : Nat → ClassId} {g : Nat → Nat} {K : (Nat → jB)} {v : Int32} : (fW ca g K).set 10 (g 10, .inr (0, [.ref (g 11), .ref (g 12), .ref (g 13), .ref (g 14), .ref (g 15), .int (K 0 16 2), .int (K 0 16 3), .int (K 0 16 4), .int (K 0 16 5), .int (K 0 16 6), .int (K 0 16 7)].set 6 (.int v))) = fW ca g (up3 K 0 16 3 v) := rfl
set_option maxRecDepth 100000 in
set_option maxHeartbeats 4000000 in
theorem rd_32 {S : (Nat → jB)} {v0 : Int32} {i : Nat} : (up3 S 0 16 3 v0) 0 1 i = S 0 1 i := rfl

def z_X7_payDues_0 (K : (Nat → jB)) (i : Int32) (c : Int32) : (Nat → jB) := (up3 (r_X2_push_0 K) 0 1 (i).toNatClampNeg (((r_X2_push_0 K) 0 1 i.toNatClampNeg) + c))
def r_X7_payDues (K : (Nat → jB)) (i : Int32) (c : Int32) : Int32 × (Nat → jB) := (if (r_X4_has (K 0) i) = (0 : Int32) then ((-1 : Int32), K) else (if c < (1 : Int32) then ((-2 : Int32), K) else (if c ≤ (1000000 : Int32) then (if ((K 0 1 i.toNatClampNeg) + c) ≤ (100000000 : Int32) then (((z_X7_payDues_0 K i c) 0 1 i.toNatClampNeg), (up3 (z_X7_payDues_0 K i c) 0 16 3 (((r_X2_push_0 K) 0 16 3) + c))) else ((-3 : Int32), K)) else ((-2 : Int32), K))))
def n_X7_payDues (K : (Nat → jB)) (i : Int32) (c : Int32) : Prop := (((r_X4_has (K 0) i) = (0 : Int32) → True) ∧ (¬ ((r_X4_has (K 0) i) = (0 : Int32)) → ((c < (1 : Int32) → True) ∧ (¬ (c < (1 : Int32)) → ((c ≤ (1000000 : Int32) → ((((K 0 1 i.toNatClampNeg) + c) ≤ (100000000 : Int32) → ((n_X2_push_0 K) ∧ True)) ∧ (¬ (((K 0 1 i.toNatClampNeg) + c) ≤ (100000000 : Int32)) → True))) ∧ (¬ (c ≤ (1000000 : Int32)) → True))))))
set_option maxRecDepth 100000 in
set_option maxHeartbeats 4000000 in
theorem c_X7_payDues (l : Launch) (D : va_G) (ca : Nat → ClassId) (g : Nat → Nat) (K : (Nat → jB)) (i : Int32) (c : Int32) (hq : n_X7_payDues K i c) : jM l D ca yX7_payDues cX7_payDues 4 (some .int) 5 107 0 0 [.ref (g 0), .int i, .int c] (fW ca g K) (jD (some (.int (r_X7_payDues K i c).1)) (fW ca g ((r_X7_payDues K i c).2))) := by
  refine jM_of [(0, .ref (g 0)), (1, .int i), (2, .int c)] (by decide) (Nat.le_of_ble_eq_true rfl) rfl (fun X C E => ?_)
  rw [n_X7_payDues] at hq
  refine j_aload_n C dX7_payDues_0 rfl ?_
  refine j_get C f_X7_10.F 0 dX7_payDues_1 fW_0 rfl ?_
  refine j_get C f_X7_75.F 10 dX7_payDues_4 fW_10 rfl ?_
  refine j_astore_n C [(3, _), (0, _), (1, _), (2, _)] dX7_payDues_7 (by decide) rfl ?_
  refine j_aload_n C dX7_payDues_8 rfl ?_
  refine j_iload_n C dX7_payDues_9 rfl ?_
  refine j_callViR C g_X7_88 (c_X4_has l D ca (fun j => g (10 + j)) (K 0) i) 11 fW_11 hcl_X4 ⟨Nat.le_of_ble_eq_true rfl, Nat.le_of_ble_eq_true rfl⟩ ⟨Nat.le_of_ble_eq_true rfl, Nat.le_of_ble_eq_true rfl⟩ [11, 16, 17, 18, 19] pl_f_mb_0 rfl rfl rfl (Nat.le_of_ble_eq_true rfl) dX7_payDues_10 ?_
  refine j_if_ne (tgt := 18) C dX7_payDues_13 (by decide) (fun (h13 : ¬ ((r_X4_has (K 0) i) = (0 : Int32))) => ?_) (fun (h13 : (r_X4_has (K 0) i) = (0 : Int32)) => ?_)
  · have hq := hq.2 h13
    refine j_iload_n C dX7_payDues_18 rfl ?_
    refine j_iconst C dX7_payDues_19 (1 : Int32) (by decide) ?_
    refine j_icmp_lt (tgt := 29) C dX7_payDues_20 (by decide) (fun (h20 : c < (1 : Int32)) => ?_) (fun (h20 : ¬ (c < (1 : Int32))) => ?_)
    · have hq := hq.1 h20
      refine j_bipush C dX7_payDues_29 (-2 : Int32) (by decide) ?_
      have e9 : r_X7_payDues K i c = ((-2 : Int32), K) := by rw [r_X7_payDues, if_neg h13, if_pos h20]
      exact j_iret E dX7_payDues_31 (jD_k e9 (fW ca g))
    · have hq := hq.2 h20
      refine j_iload_n C dX7_payDues_23 rfl ?_
      refine j_ldc C q_386 dX7_payDues_24 ?_
      refine j_icmp_le (tgt := 32) C dX7_payDues_26 (by decide) (fun (h26 : c ≤ (1000000 : Int32)) => ?_) (fun (h26 : ¬ (c ≤ (1000000 : Int32))) => ?_)
      · have hq := hq.1 h26
        refine j_aload_n C dX7_payDues_32 rfl ?_
        refine j_get C f_X7_93.F 11 dX7_payDues_33 fW_11 rfl ?_
        refine j_iload_n C dX7_payDues_36 rfl ?_
        refine j_iald C 17 dX7_payDues_37 fW_17 (has_X4 (by assumption)) ?_
        refine j_iload_n C dX7_payDues_38 rfl ?_
        refine j_iadd C dX7_payDues_39 ?_
        refine j_ldc C q_387 dX7_payDues_40 ?_
        refine j_icmp_le (tgt := 48) C dX7_payDues_42 (by decide) (fun (h42 : ((K 0 1 i.toNatClampNeg) + c) ≤ (100000000 : Int32)) => ?_) (fun (h42 : ¬ (((K 0 1 i.toNatClampNeg) + c) ≤ (100000000 : Int32))) => ?_)
        · have hq := hq.1 h42
          refine j_aload_n C dX7_payDues_48 rfl ?_
          refine j_get C f_X7_25.F 0 dX7_payDues_49 fW_0 rfl ?_
          refine j_aload_n C dX7_payDues_52 rfl ?_
          refine j_get C f_X7_10.F 0 dX7_payDues_53 fW_0 rfl ?_
          obtain ⟨hv, hq⟩ := hq
          refine j_callVvW C g_X7_62 (c_X2_push_0 l D ca g K hv) 1 fW_1 hcl_X2 ⟨Nat.le_of_ble_eq_true rfl, Nat.le_of_ble_eq_true rfl⟩ ⟨Nat.le_of_ble_eq_true rfl, Nat.le_of_ble_eq_true rfl⟩ rfl rfl (Nat.le_of_ble_eq_true rfl) dX7_payDues_56 fst_f ?_
          refine j_aload_n C dX7_payDues_59 rfl ?_
          refine j_get C f_X7_93.F 11 dX7_payDues_60 fW_11 rfl ?_
          refine j_iload_n C dX7_payDues_63 rfl ?_
          refine j_dup2 C dX7_payDues_64 rfl rfl ?_
          refine j_iald C 17 dX7_payDues_65 fW_17 (has_X4 (by assumption)) ?_
          refine j_iload_n C dX7_payDues_66 rfl ?_
          refine j_iadd C dX7_payDues_67 ?_
          refine j_iast C 17 dX7_payDues_68 fW_17 (has_X4 (by assumption)) ?_
          refine j_ws (ws' := (fW ca g (z_X7_payDues_0 K i c))) fa_f_17 ?_
          refine j_aload_n C dX7_payDues_69 rfl ?_
          refine j_get C f_X7_10.F 0 dX7_payDues_70 fW_0 rfl ?_
          refine j_dup C dX7_payDues_73 rfl ?_
          refine j_get C f_X7_97.F 10 dX7_payDues_74 fW_10 rfl ?_
          refine j_sti rd_31 ?_
          refine j_iload_n C dX7_payDues_77 rfl ?_
          refine j_iadd C dX7_payDues_78 ?_
          refine j_put C f_X7_97 10 dX7_payDues_79 fW_10 (Nat.le_of_ble_eq_true rfl) rfl rfl ?_
          refine j_ws (ws' := (fW ca g (up3 (z_X7_payDues_0 K i c) 0 16 3 (((r_X2_push_0 K) 0 16 3) + c)))) fo_f_10_6 ?_
          refine j_aload_n C dX7_payDues_82 rfl ?_
          refine j_get C f_X7_93.F 11 dX7_payDues_83 fW_11 rfl ?_
          refine j_iload_n C dX7_payDues_86 rfl ?_
          refine j_iald C 17 dX7_payDues_87 fW_17 (has_X4 (by assumption)) ?_
          refine j_sti rd_32 ?_
          have e9 : r_X7_payDues K i c = (((z_X7_payDues_0 K i c) 0 1 i.toNatClampNeg), (up3 (z_X7_payDues_0 K i c) 0 16 3 (((r_X2_push_0 K) 0 16 3) + c))) := by rw [r_X7_payDues, if_neg h13, if_neg h20, if_pos h26, if_pos h42]
          exact j_iret E dX7_payDues_88 (jD_k e9 (fW ca g))
        · have hq := hq.2 h42
          refine j_bipush C dX7_payDues_45 (-3 : Int32) (by decide) ?_
          have e9 : r_X7_payDues K i c = ((-3 : Int32), K) := by rw [r_X7_payDues, if_neg h13, if_neg h20, if_pos h26, if_neg h42]
          exact j_iret E dX7_payDues_47 (jD_k e9 (fW ca g))
      · have hq := hq.2 h26
        refine j_bipush C dX7_payDues_29 (-2 : Int32) (by decide) ?_
        have e9 : r_X7_payDues K i c = ((-2 : Int32), K) := by rw [r_X7_payDues, if_neg h13, if_neg h20, if_neg h26]
        exact j_iret E dX7_payDues_31 (jD_k e9 (fW ca g))
  · have hq := hq.1 h13
    refine j_iconst C dX7_payDues_16 (-1 : Int32) (by decide) ?_
    have e9 : r_X7_payDues K i c = ((-1 : Int32), K) := by rw [r_X7_payDues, if_pos h13]
    exact j_iret E dX7_payDues_17 (jD_k e9 (fW ca g))
set_option maxRecDepth 100000 in
set_option maxHeartbeats 4000000 in
theorem pl_f_cl_0 {ca : Nat → ClassId} {g : Nat → Nat} {K : (Nat → jB)} : [12, 20, 21, 22].map (fun i => (fW ca g K)[i]?) = (clW ca (fun j => g (10 + j)) (K 0)).map some := rfl
set_option maxRecDepth 100000 in
set_option maxHeartbeats 4000000 in
theorem fst_iv {ca : Nat → ClassId} {g : Nat → Nat} {A B : jB} : (ivW ca g A).map Prod.fst = (ivW ca g B).map Prod.fst := rfl
set_option maxRecDepth 100000 in
set_option maxHeartbeats 4000000 in
theorem pl_f_iv_0 {ca : Nat → ClassId} {g : Nat → Nat} {K : (Nat → jB)} : [13, 23, 24, 25, 26, 27, 28, 29].map (fun i => (fW ca g K)[i]?) = (ivW ca (fun j => g (10 + j)) (K 0)).map some := rfl
set_option maxRecDepth 100000 in
set_option maxHeartbeats 4000000 in
theorem fs_f_X3_append_0 {ca : Nat → ClassId} {g : Nat → Nat} {K : (Nat → jB)}  {a : Int32} {b : Int32} {c : Int32} {d : Int32} : jrep (fW ca g K) [13, 23, 24, 25, 26, 27, 28, 29] (ivW ca (fun j => g (10 + j)) ((r_X3_append (K 0) a b c d).2)) = fW ca g (up1 K 0 ((r_X3_append (K 0) a b c d).2)) := by
  unfold r_X3_append
  (repeat' split) <;> exact jrep_mg (by decide) rfl

def r_X7_addInvoice (K : (Nat → jB)) (i : Int32) (c : Int32) (a : Int32) (d : Int32) : Int32 × (Nat → jB) := (if (r_X4_has (K 0) i) = (0 : Int32) then ((-1 : Int32), K) else (if (r_X1_has (K 0) c) = (0 : Int32) then ((-1 : Int32), K) else (if a < (100 : Int32) then ((-2 : Int32), K) else (if a ≤ (1000000 : Int32) then (if d < (0 : Int32) then ((-2 : Int32), K) else (if d ≤ (9999 : Int32) then (if (K 0 16 1) < (20 : Int32) then ((r_X3_append ((r_X2_push_0 K) 0) i c a d).1, (up1 (r_X2_push_0 K) 0 ((r_X3_append ((r_X2_push_0 K) 0) i c a d).2))) else ((-3 : Int32), K)) else ((-2 : Int32), K))) else ((-2 : Int32), K)))))
def n_X7_addInvoice (K : (Nat → jB)) (i : Int32) (c : Int32) (a : Int32) (d : Int32) : Prop := (((r_X4_has (K 0) i) = (0 : Int32) → True) ∧ (¬ ((r_X4_has (K 0) i) = (0 : Int32)) → (((r_X1_has (K 0) c) = (0 : Int32) → True) ∧ (¬ ((r_X1_has (K 0) c) = (0 : Int32)) → ((a < (100 : Int32) → True) ∧ (¬ (a < (100 : Int32)) → ((a ≤ (1000000 : Int32) → ((d < (0 : Int32) → True) ∧ (¬ (d < (0 : Int32)) → ((d ≤ (9999 : Int32) → (((K 0 16 1) < (20 : Int32) → ((n_X2_push_0 K) ∧ True)) ∧ (¬ ((K 0 16 1) < (20 : Int32)) → True))) ∧ (¬ (d ≤ (9999 : Int32)) → True))))) ∧ (¬ (a ≤ (1000000 : Int32)) → True))))))))
set_option maxRecDepth 100000 in
set_option maxHeartbeats 4000000 in
theorem c_X7_addInvoice (l : Launch) (D : va_G) (ca : Nat → ClassId) (g : Nat → Nat) (K : (Nat → jB)) (i : Int32) (c : Int32) (a : Int32) (d : Int32) (hq : n_X7_addInvoice K i c a d) : jM l D ca yX7_addInvoice cX7_addInvoice 5 (some .int) 5 107 0 0 [.ref (g 0), .int i, .int c, .int a, .int d] (fW ca g K) (jD (some (.int (r_X7_addInvoice K i c a d).1)) (fW ca g ((r_X7_addInvoice K i c a d).2))) := by
  refine jM_of [(0, .ref (g 0)), (1, .int i), (2, .int c), (3, .int a), (4, .int d)] (by decide) (Nat.le_of_ble_eq_true rfl) rfl (fun X C E => ?_)
  rw [n_X7_addInvoice] at hq
  refine j_aload_n C dX7_addInvoice_0 rfl ?_
  refine j_get C f_X7_10.F 0 dX7_addInvoice_1 fW_0 rfl ?_
  refine j_get C f_X7_75.F 10 dX7_addInvoice_4 fW_10 rfl ?_
  refine j_iload_n C dX7_addInvoice_7 rfl ?_
  refine j_callViR C g_X7_88 (c_X4_has l D ca (fun j => g (10 + j)) (K 0) i) 11 fW_11 hcl_X4 ⟨Nat.le_of_ble_eq_true rfl, Nat.le_of_ble_eq_true rfl⟩ ⟨Nat.le_of_ble_eq_true rfl, Nat.le_of_ble_eq_true rfl⟩ [11, 16, 17, 18, 19] pl_f_mb_0 rfl rfl rfl (Nat.le_of_ble_eq_true rfl) dX7_addInvoice_8 ?_
  refine j_if_eq (tgt := 28) C dX7_addInvoice_11 (by decide) (fun (h11 : (r_X4_has (K 0) i) = (0 : Int32)) => ?_) (fun (h11 : ¬ ((r_X4_has (K 0) i) = (0 : Int32))) => ?_)
  · have hq := hq.1 h11
    refine j_iconst C dX7_addInvoice_28 (-1 : Int32) (by decide) ?_
    have e9 : r_X7_addInvoice K i c a d = ((-1 : Int32), K) := by rw [r_X7_addInvoice, if_pos h11]
    exact j_iret E dX7_addInvoice_29 (jD_k e9 (fW ca g))
  · have hq := hq.2 h11
    refine j_aload_n C dX7_addInvoice_14 rfl ?_
    refine j_get C f_X7_10.F 0 dX7_addInvoice_15 fW_0 rfl ?_
    refine j_get C f_X7_100.F 10 dX7_addInvoice_18 fW_10 rfl ?_
    refine j_iload_n C dX7_addInvoice_21 rfl ?_
    refine j_callViR C g_X7_104 (c_X1_has l D ca (fun j => g (10 + j)) (K 0) c) 12 fW_12 hcl_X1 ⟨Nat.le_of_ble_eq_true rfl, Nat.le_of_ble_eq_true rfl⟩ ⟨Nat.le_of_ble_eq_true rfl, Nat.le_of_ble_eq_true rfl⟩ [12, 20, 21, 22] pl_f_cl_0 rfl rfl rfl (Nat.le_of_ble_eq_true rfl) dX7_addInvoice_22 ?_
    refine j_if_ne (tgt := 30) C dX7_addInvoice_25 (by decide) (fun (h25 : ¬ ((r_X1_has (K 0) c) = (0 : Int32))) => ?_) (fun (h25 : (r_X1_has (K 0) c) = (0 : Int32)) => ?_)
    · have hq := hq.2 h25
      refine j_iload_n C dX7_addInvoice_30 rfl ?_
      refine j_bipush C dX7_addInvoice_31 (100 : Int32) (by decide) ?_
      refine j_icmp_lt (tgt := 42) C dX7_addInvoice_33 (by decide) (fun (h33 : a < (100 : Int32)) => ?_) (fun (h33 : ¬ (a < (100 : Int32))) => ?_)
      · have hq := hq.1 h33
        refine j_bipush C dX7_addInvoice_42 (-2 : Int32) (by decide) ?_
        have e9 : r_X7_addInvoice K i c a d = ((-2 : Int32), K) := by rw [r_X7_addInvoice, if_neg h11, if_neg h25, if_pos h33]
        exact j_iret E dX7_addInvoice_44 (jD_k e9 (fW ca g))
      · have hq := hq.2 h33
        refine j_iload_n C dX7_addInvoice_36 rfl ?_
        refine j_ldc C q_386 dX7_addInvoice_37 ?_
        refine j_icmp_le (tgt := 45) C dX7_addInvoice_39 (by decide) (fun (h39 : a ≤ (1000000 : Int32)) => ?_) (fun (h39 : ¬ (a ≤ (1000000 : Int32))) => ?_)
        · have hq := hq.1 h39
          refine j_iload C dX7_addInvoice_45 rfl ?_
          refine j_if_lt (tgt := 58) C dX7_addInvoice_47 (by decide) (fun (h47 : d < (0 : Int32)) => ?_) (fun (h47 : ¬ (d < (0 : Int32))) => ?_)
          · have hq := hq.1 h47
            refine j_bipush C dX7_addInvoice_58 (-2 : Int32) (by decide) ?_
            have e9 : r_X7_addInvoice K i c a d = ((-2 : Int32), K) := by rw [r_X7_addInvoice, if_neg h11, if_neg h25, if_neg h33, if_pos h39, if_pos h47]
            exact j_iret E dX7_addInvoice_60 (jD_k e9 (fW ca g))
          · have hq := hq.2 h47
            refine j_iload C dX7_addInvoice_50 rfl ?_
            refine j_sipush C dX7_addInvoice_52 (9999 : Int32) (by decide) ?_
            refine j_icmp_le (tgt := 61) C dX7_addInvoice_55 (by decide) (fun (h55 : d ≤ (9999 : Int32)) => ?_) (fun (h55 : ¬ (d ≤ (9999 : Int32))) => ?_)
            · have hq := hq.1 h55
              refine j_aload_n C dX7_addInvoice_61 rfl ?_
              refine j_get C f_X7_10.F 0 dX7_addInvoice_62 fW_0 rfl ?_
              refine j_get C f_X7_107.F 10 dX7_addInvoice_65 fW_10 rfl ?_
              refine j_get C f_X7_111.F 13 dX7_addInvoice_68 fW_13 rfl ?_
              refine j_bipush C dX7_addInvoice_71 (20 : Int32) (by decide) ?_
              refine j_icmp_lt (tgt := 79) C dX7_addInvoice_73 (by decide) (fun (h73 : (K 0 16 1) < (20 : Int32)) => ?_) (fun (h73 : ¬ ((K 0 16 1) < (20 : Int32))) => ?_)
              · have hq := hq.1 h73
                refine j_aload_n C dX7_addInvoice_79 rfl ?_
                refine j_get C f_X7_25.F 0 dX7_addInvoice_80 fW_0 rfl ?_
                refine j_aload_n C dX7_addInvoice_83 rfl ?_
                refine j_get C f_X7_10.F 0 dX7_addInvoice_84 fW_0 rfl ?_
                obtain ⟨hv, hq⟩ := hq
                refine j_callVvW C g_X7_62 (c_X2_push_0 l D ca g K hv) 1 fW_1 hcl_X2 ⟨Nat.le_of_ble_eq_true rfl, Nat.le_of_ble_eq_true rfl⟩ ⟨Nat.le_of_ble_eq_true rfl, Nat.le_of_ble_eq_true rfl⟩ rfl rfl (Nat.le_of_ble_eq_true rfl) dX7_addInvoice_87 fst_f ?_
                refine j_aload_n C dX7_addInvoice_90 rfl ?_
                refine j_get C f_X7_10.F 0 dX7_addInvoice_91 fW_0 rfl ?_
                refine j_get C f_X7_107.F 10 dX7_addInvoice_94 fW_10 rfl ?_
                refine j_iload_n C dX7_addInvoice_97 rfl ?_
                refine j_iload_n C dX7_addInvoice_98 rfl ?_
                refine j_iload_n C dX7_addInvoice_99 rfl ?_
                refine j_iload C dX7_addInvoice_100 rfl ?_
                refine j_callVi C g_X7_114 (c_X3_append l D ca (fun j => g (10 + j)) ((r_X2_push_0 K) 0) i c a d) 13 fW_13 hcl_X3 ⟨Nat.le_of_ble_eq_true rfl, Nat.le_of_ble_eq_true rfl⟩ ⟨Nat.le_of_ble_eq_true rfl, Nat.le_of_ble_eq_true rfl⟩ [13, 23, 24, 25, 26, 27, 28, 29] pl_f_iv_0 rfl rfl rfl (Nat.le_of_ble_eq_true rfl) dX7_addInvoice_102 fst_iv ?_
                refine j_ws (ws' := (fW ca g (up1 (r_X2_push_0 K) 0 ((r_X3_append ((r_X2_push_0 K) 0) i c a d).2)))) fs_f_X3_append_0 ?_
                have e9 : r_X7_addInvoice K i c a d = ((r_X3_append ((r_X2_push_0 K) 0) i c a d).1, (up1 (r_X2_push_0 K) 0 ((r_X3_append ((r_X2_push_0 K) 0) i c a d).2))) := by rw [r_X7_addInvoice, if_neg h11, if_neg h25, if_neg h33, if_pos h39, if_neg h47, if_pos h55, if_pos h73]
                exact j_iret E dX7_addInvoice_105 (jD_k e9 (fW ca g))
              · have hq := hq.2 h73
                refine j_bipush C dX7_addInvoice_76 (-3 : Int32) (by decide) ?_
                have e9 : r_X7_addInvoice K i c a d = ((-3 : Int32), K) := by rw [r_X7_addInvoice, if_neg h11, if_neg h25, if_neg h33, if_pos h39, if_neg h47, if_pos h55, if_neg h73]
                exact j_iret E dX7_addInvoice_78 (jD_k e9 (fW ca g))
            · have hq := hq.2 h55
              refine j_bipush C dX7_addInvoice_58 (-2 : Int32) (by decide) ?_
              have e9 : r_X7_addInvoice K i c a d = ((-2 : Int32), K) := by rw [r_X7_addInvoice, if_neg h11, if_neg h25, if_neg h33, if_pos h39, if_neg h47, if_neg h55]
              exact j_iret E dX7_addInvoice_60 (jD_k e9 (fW ca g))
        · have hq := hq.2 h39
          refine j_bipush C dX7_addInvoice_42 (-2 : Int32) (by decide) ?_
          have e9 : r_X7_addInvoice K i c a d = ((-2 : Int32), K) := by rw [r_X7_addInvoice, if_neg h11, if_neg h25, if_neg h33, if_neg h39]
          exact j_iret E dX7_addInvoice_44 (jD_k e9 (fW ca g))
    · have hq := hq.1 h25
      refine j_iconst C dX7_addInvoice_28 (-1 : Int32) (by decide) ?_
      have e9 : r_X7_addInvoice K i c a d = ((-1 : Int32), K) := by rw [r_X7_addInvoice, if_neg h11, if_pos h25]
      exact j_iret E dX7_addInvoice_29 (jD_k e9 (fW ca g))
set_option maxRecDepth 100000 in
set_option maxHeartbeats 4000000 in
theorem pl_f_bk_0 {ca : Nat → ClassId} {g : Nat → Nat} {K : (Nat → jB)} : [10, 11, 12, 13, 14, 15, 16, 17, 18, 19, 20, 21, 22, 23, 24, 25, 26, 27, 28, 29].map (fun i => (fW ca g K)[i]?) = (bkW ca (fun j => g (10 + j)) (K 0)).map some := rfl
set_option maxRecDepth 100000 in
set_option maxHeartbeats 4000000 in
theorem fb_f_0 {ca : Nat → ClassId} {g : Nat → Nat} {K : (Nat → jB)} {B : jB} : jrep (fW ca g K) [10, 11, 12, 13, 14, 15, 16, 17, 18, 19, 20, 21, 22, 23, 24, 25, 26, 27, 28, 29] (bkW ca (fun j => g (10 + j)) B) = fW ca g (up1 K 0 B) := jrep_mg (by decide) rfl

def r_X7_payAhead (K : (Nat → jB)) (i : Int32) : Int32 × (Nat → jB) := (if (r_X3_has (K 0) i) = (0 : Int32) then ((-1 : Int32), K) else (if (r_X0_canPayAhead (K 0) i) = (0 : Int32) then ((-4 : Int32), K) else ((r_X0_advance ((r_X2_push_0 K) 0) i).1, (up1 (r_X2_push_0 K) 0 ((r_X0_advance ((r_X2_push_0 K) 0) i).2)))))
def n_X7_payAhead (K : (Nat → jB)) (i : Int32) : Prop := (((r_X3_has (K 0) i) = (0 : Int32) → True) ∧ (¬ ((r_X3_has (K 0) i) = (0 : Int32)) → ((n_X0_canPayAhead (K 0) i) ∧ (((r_X0_canPayAhead (K 0) i) = (0 : Int32) → True) ∧ (¬ ((r_X0_canPayAhead (K 0) i) = (0 : Int32)) → ((n_X2_push_0 K) ∧ ((n_X0_advance ((r_X2_push_0 K) 0) i) ∧ True)))))))
set_option maxRecDepth 100000 in
set_option maxHeartbeats 4000000 in
theorem c_X7_payAhead (l : Launch) (D : va_G) (ca : Nat → ClassId) (g : Nat → Nat) (K : (Nat → jB)) (i : Int32) (hq : n_X7_payAhead K i) : jM l D ca yX7_payAhead cX7_payAhead 2 (some .int) 6 133 0 0 [.ref (g 0), .int i] (fW ca g K) (jD (some (.int (r_X7_payAhead K i).1)) (fW ca g ((r_X7_payAhead K i).2))) := by
  refine jM_of [(0, .ref (g 0)), (1, .int i)] (by decide) (Nat.le_of_ble_eq_true rfl) rfl (fun X C E => ?_)
  rw [n_X7_payAhead] at hq
  refine j_aload_n C dX7_payAhead_0 rfl ?_
  refine j_get C f_X7_10.F 0 dX7_payAhead_1 fW_0 rfl ?_
  refine j_get C f_X7_107.F 10 dX7_payAhead_4 fW_10 rfl ?_
  refine j_iload_n C dX7_payAhead_7 rfl ?_
  refine j_callViR C g_X7_117 (c_X3_has l D ca (fun j => g (10 + j)) (K 0) i) 13 fW_13 hcl_X3 ⟨Nat.le_of_ble_eq_true rfl, Nat.le_of_ble_eq_true rfl⟩ ⟨Nat.le_of_ble_eq_true rfl, Nat.le_of_ble_eq_true rfl⟩ [13, 23, 24, 25, 26, 27, 28, 29] pl_f_iv_0 rfl rfl rfl (Nat.le_of_ble_eq_true rfl) dX7_payAhead_8 ?_
  refine j_if_ne (tgt := 16) C dX7_payAhead_11 (by decide) (fun (h11 : ¬ ((r_X3_has (K 0) i) = (0 : Int32))) => ?_) (fun (h11 : (r_X3_has (K 0) i) = (0 : Int32)) => ?_)
  · have hq := hq.2 h11
    refine j_aload_n C dX7_payAhead_16 rfl ?_
    refine j_get C f_X7_10.F 0 dX7_payAhead_17 fW_0 rfl ?_
    refine j_iload_n C dX7_payAhead_20 rfl ?_
    obtain ⟨hv, hq⟩ := hq
    refine j_callViR C g_X7_118 (c_X0_canPayAhead l D ca (fun j => g (10 + j)) (K 0) i hv) 10 fW_10 hcl_X0 ⟨Nat.le_of_ble_eq_true rfl, Nat.le_of_ble_eq_true rfl⟩ ⟨Nat.le_of_ble_eq_true rfl, Nat.le_of_ble_eq_true rfl⟩ [10, 11, 12, 13, 14, 15, 16, 17, 18, 19, 20, 21, 22, 23, 24, 25, 26, 27, 28, 29] pl_f_bk_0 rfl rfl rfl (Nat.le_of_ble_eq_true rfl) dX7_payAhead_21 ?_
    refine j_if_ne (tgt := 30) C dX7_payAhead_24 (by decide) (fun (h24 : ¬ ((r_X0_canPayAhead (K 0) i) = (0 : Int32))) => ?_) (fun (h24 : (r_X0_canPayAhead (K 0) i) = (0 : Int32)) => ?_)
    · have hq := hq.2 h24
      refine j_aload_n C dX7_payAhead_30 rfl ?_
      refine j_get C f_X7_25.F 0 dX7_payAhead_31 fW_0 rfl ?_
      refine j_aload_n C dX7_payAhead_34 rfl ?_
      refine j_get C f_X7_10.F 0 dX7_payAhead_35 fW_0 rfl ?_
      obtain ⟨hv, hq⟩ := hq
      refine j_callVvW C g_X7_62 (c_X2_push_0 l D ca g K hv) 1 fW_1 hcl_X2 ⟨Nat.le_of_ble_eq_true rfl, Nat.le_of_ble_eq_true rfl⟩ ⟨Nat.le_of_ble_eq_true rfl, Nat.le_of_ble_eq_true rfl⟩ rfl rfl (Nat.le_of_ble_eq_true rfl) dX7_payAhead_38 fst_f ?_
      refine j_aload_n C dX7_payAhead_41 rfl ?_
      refine j_get C f_X7_10.F 0 dX7_payAhead_42 fW_0 rfl ?_
      refine j_iload_n C dX7_payAhead_45 rfl ?_
      obtain ⟨hv, hq⟩ := hq
      refine j_callVi C g_X7_121 (c_X0_advance l D ca (fun j => g (10 + j)) ((r_X2_push_0 K) 0) i hv) 10 fW_10 hcl_X0 ⟨Nat.le_of_ble_eq_true rfl, Nat.le_of_ble_eq_true rfl⟩ ⟨Nat.le_of_ble_eq_true rfl, Nat.le_of_ble_eq_true rfl⟩ [10, 11, 12, 13, 14, 15, 16, 17, 18, 19, 20, 21, 22, 23, 24, 25, 26, 27, 28, 29] pl_f_bk_0 rfl rfl rfl (Nat.le_of_ble_eq_true rfl) dX7_payAhead_46 fst_bk ?_
      refine j_ws (ws' := (fW ca g (up1 (r_X2_push_0 K) 0 ((r_X0_advance ((r_X2_push_0 K) 0) i).2)))) fb_f_0 ?_
      have e9 : r_X7_payAhead K i = ((r_X0_advance ((r_X2_push_0 K) 0) i).1, (up1 (r_X2_push_0 K) 0 ((r_X0_advance ((r_X2_push_0 K) 0) i).2))) := by rw [r_X7_payAhead, if_neg h11, if_neg h24]
      exact j_iret E dX7_payAhead_49 (jD_k e9 (fW ca g))
    · have hq := hq.1 h24
      refine j_bipush C dX7_payAhead_27 (-4 : Int32) (by decide) ?_
      have e9 : r_X7_payAhead K i = ((-4 : Int32), K) := by rw [r_X7_payAhead, if_neg h11, if_pos h24]
      exact j_iret E dX7_payAhead_29 (jD_k e9 (fW ca g))
  · have hq := hq.1 h11
    refine j_iconst C dX7_payAhead_14 (-1 : Int32) (by decide) ?_
    have e9 : r_X7_payAhead K i = ((-1 : Int32), K) := by rw [r_X7_payAhead, if_pos h11]
    exact j_iret E dX7_payAhead_15 (jD_k e9 (fW ca g))


def r_X7_pay (K : (Nat → jB)) (i : Int32) (c : Int32) : Int32 × (Nat → jB) := (if (r_X0_errorOfPayment (K 0) i c) = (0 : Int32) then ((r_X0_collect ((r_X2_push_0 K) 0) i c).1, (up1 (r_X2_push_0 K) 0 ((r_X0_collect ((r_X2_push_0 K) 0) i c).2))) else ((r_X0_errorOfPayment (K 0) i c), K))
def n_X7_pay (K : (Nat → jB)) (i : Int32) (c : Int32) : Prop := (((r_X0_errorOfPayment (K 0) i c) = (0 : Int32) → ((n_X2_push_0 K) ∧ ((n_X0_collect ((r_X2_push_0 K) 0) i c) ∧ True))) ∧ (¬ ((r_X0_errorOfPayment (K 0) i c) = (0 : Int32)) → True))
set_option maxRecDepth 100000 in
set_option maxHeartbeats 4000000 in
theorem c_X7_pay (l : Launch) (D : va_G) (ca : Nat → ClassId) (g : Nat → Nat) (K : (Nat → jB)) (i : Int32) (c : Int32) (hq : n_X7_pay K i c) : jM l D ca yX7_pay cX7_pay 4 (some .int) 5 110 0 0 [.ref (g 0), .int i, .int c] (fW ca g K) (jD (some (.int (r_X7_pay K i c).1)) (fW ca g ((r_X7_pay K i c).2))) := by
  refine jM_of [(0, .ref (g 0)), (1, .int i), (2, .int c)] (by decide) (Nat.le_of_ble_eq_true rfl) rfl (fun X C E => ?_)
  rw [n_X7_pay] at hq
  refine j_aload_n C dX7_pay_0 rfl ?_
  refine j_get C f_X7_10.F 0 dX7_pay_1 fW_0 rfl ?_
  refine j_iload_n C dX7_pay_4 rfl ?_
  refine j_iload_n C dX7_pay_5 rfl ?_
  refine j_callViR C g_X7_124 (c_X0_errorOfPayment l D ca (fun j => g (10 + j)) (K 0) i c) 10 fW_10 hcl_X0 ⟨Nat.le_of_ble_eq_true rfl, Nat.le_of_ble_eq_true rfl⟩ ⟨Nat.le_of_ble_eq_true rfl, Nat.le_of_ble_eq_true rfl⟩ [10, 11, 12, 13, 14, 15, 16, 17, 18, 19, 20, 21, 22, 23, 24, 25, 26, 27, 28, 29] pl_f_bk_0 rfl rfl rfl (Nat.le_of_ble_eq_true rfl) dX7_pay_6 ?_
  refine j_istore_n C [(3, _), (0, _), (1, _), (2, _)] dX7_pay_9 (by decide) rfl ?_
  refine j_iload_n C dX7_pay_10 rfl ?_
  refine j_if_eq (tgt := 16) C dX7_pay_11 (by decide) (fun (h11 : (r_X0_errorOfPayment (K 0) i c) = (0 : Int32)) => ?_) (fun (h11 : ¬ ((r_X0_errorOfPayment (K 0) i c) = (0 : Int32))) => ?_)
  · have hq := hq.1 h11
    refine j_aload_n C dX7_pay_16 rfl ?_
    refine j_get C f_X7_25.F 0 dX7_pay_17 fW_0 rfl ?_
    refine j_aload_n C dX7_pay_20 rfl ?_
    refine j_get C f_X7_10.F 0 dX7_pay_21 fW_0 rfl ?_
    obtain ⟨hv, hq⟩ := hq
    refine j_callVvW C g_X7_62 (c_X2_push_0 l D ca g K hv) 1 fW_1 hcl_X2 ⟨Nat.le_of_ble_eq_true rfl, Nat.le_of_ble_eq_true rfl⟩ ⟨Nat.le_of_ble_eq_true rfl, Nat.le_of_ble_eq_true rfl⟩ rfl rfl (Nat.le_of_ble_eq_true rfl) dX7_pay_24 fst_f ?_
    refine j_aload_n C dX7_pay_27 rfl ?_
    refine j_get C f_X7_10.F 0 dX7_pay_28 fW_0 rfl ?_
    refine j_iload_n C dX7_pay_31 rfl ?_
    refine j_iload_n C dX7_pay_32 rfl ?_
    obtain ⟨hv, hq⟩ := hq
    refine j_callVi C g_X7_128 (c_X0_collect l D ca (fun j => g (10 + j)) ((r_X2_push_0 K) 0) i c hv) 10 fW_10 hcl_X0 ⟨Nat.le_of_ble_eq_true rfl, Nat.le_of_ble_eq_true rfl⟩ ⟨Nat.le_of_ble_eq_true rfl, Nat.le_of_ble_eq_true rfl⟩ [10, 11, 12, 13, 14, 15, 16, 17, 18, 19, 20, 21, 22, 23, 24, 25, 26, 27, 28, 29] pl_f_bk_0 rfl rfl rfl (Nat.le_of_ble_eq_true rfl) dX7_pay_33 fst_bk ?_
    refine j_ws (ws' := (fW ca g (up1 (r_X2_push_0 K) 0 ((r_X0_collect ((r_X2_push_0 K) 0) i c).2)))) fb_f_0 ?_
    have e9 : r_X7_pay K i c = ((r_X0_collect ((r_X2_push_0 K) 0) i c).1, (up1 (r_X2_push_0 K) 0 ((r_X0_collect ((r_X2_push_0 K) 0) i c).2))) := by rw [r_X7_pay, if_pos h11]
    exact j_iret E dX7_pay_36 (jD_k e9 (fW ca g))
  · have hq := hq.2 h11
    refine j_iload_n C dX7_pay_14 rfl ?_
    have e9 : r_X7_pay K i c = ((r_X0_errorOfPayment (K 0) i c), K) := by rw [r_X7_pay, if_neg h11]
    exact j_iret E dX7_pay_15 (jD_k e9 (fW ca g))


def r_X7_giveUp (K : (Nat → jB)) (i : Int32) : Int32 × (Nat → jB) := (if (r_X3_has (K 0) i) = (0 : Int32) then ((-1 : Int32), K) else (if (r_X0_canGiveUp (K 0) i) = (0 : Int32) then ((-4 : Int32), K) else ((r_X0_lose ((r_X2_push_0 K) 0) i).1, (up1 (r_X2_push_0 K) 0 ((r_X0_lose ((r_X2_push_0 K) 0) i).2)))))
def n_X7_giveUp (K : (Nat → jB)) (i : Int32) : Prop := (((r_X3_has (K 0) i) = (0 : Int32) → True) ∧ (¬ ((r_X3_has (K 0) i) = (0 : Int32)) → (((r_X0_canGiveUp (K 0) i) = (0 : Int32) → True) ∧ (¬ ((r_X0_canGiveUp (K 0) i) = (0 : Int32)) → ((n_X2_push_0 K) ∧ ((n_X0_lose ((r_X2_push_0 K) 0) i) ∧ True))))))
set_option maxRecDepth 100000 in
set_option maxHeartbeats 4000000 in
theorem c_X7_giveUp (l : Launch) (D : va_G) (ca : Nat → ClassId) (g : Nat → Nat) (K : (Nat → jB)) (i : Int32) (hq : n_X7_giveUp K i) : jM l D ca yX7_giveUp cX7_giveUp 2 (some .int) 5 107 0 0 [.ref (g 0), .int i] (fW ca g K) (jD (some (.int (r_X7_giveUp K i).1)) (fW ca g ((r_X7_giveUp K i).2))) := by
  refine jM_of [(0, .ref (g 0)), (1, .int i)] (by decide) (Nat.le_of_ble_eq_true rfl) rfl (fun X C E => ?_)
  rw [n_X7_giveUp] at hq
  refine j_aload_n C dX7_giveUp_0 rfl ?_
  refine j_get C f_X7_10.F 0 dX7_giveUp_1 fW_0 rfl ?_
  refine j_get C f_X7_107.F 10 dX7_giveUp_4 fW_10 rfl ?_
  refine j_iload_n C dX7_giveUp_7 rfl ?_
  refine j_callViR C g_X7_117 (c_X3_has l D ca (fun j => g (10 + j)) (K 0) i) 13 fW_13 hcl_X3 ⟨Nat.le_of_ble_eq_true rfl, Nat.le_of_ble_eq_true rfl⟩ ⟨Nat.le_of_ble_eq_true rfl, Nat.le_of_ble_eq_true rfl⟩ [13, 23, 24, 25, 26, 27, 28, 29] pl_f_iv_0 rfl rfl rfl (Nat.le_of_ble_eq_true rfl) dX7_giveUp_8 ?_
  refine j_if_ne (tgt := 16) C dX7_giveUp_11 (by decide) (fun (h11 : ¬ ((r_X3_has (K 0) i) = (0 : Int32))) => ?_) (fun (h11 : (r_X3_has (K 0) i) = (0 : Int32)) => ?_)
  · have hq := hq.2 h11
    refine j_aload_n C dX7_giveUp_16 rfl ?_
    refine j_get C f_X7_10.F 0 dX7_giveUp_17 fW_0 rfl ?_
    refine j_iload_n C dX7_giveUp_20 rfl ?_
    refine j_callViR C g_X7_131 (c_X0_canGiveUp l D ca (fun j => g (10 + j)) (K 0) i) 10 fW_10 hcl_X0 ⟨Nat.le_of_ble_eq_true rfl, Nat.le_of_ble_eq_true rfl⟩ ⟨Nat.le_of_ble_eq_true rfl, Nat.le_of_ble_eq_true rfl⟩ [10, 11, 12, 13, 14, 15, 16, 17, 18, 19, 20, 21, 22, 23, 24, 25, 26, 27, 28, 29] pl_f_bk_0 rfl rfl rfl (Nat.le_of_ble_eq_true rfl) dX7_giveUp_21 ?_
    refine j_if_ne (tgt := 30) C dX7_giveUp_24 (by decide) (fun (h24 : ¬ ((r_X0_canGiveUp (K 0) i) = (0 : Int32))) => ?_) (fun (h24 : (r_X0_canGiveUp (K 0) i) = (0 : Int32)) => ?_)
    · have hq := hq.2 h24
      refine j_aload_n C dX7_giveUp_30 rfl ?_
      refine j_get C f_X7_25.F 0 dX7_giveUp_31 fW_0 rfl ?_
      refine j_aload_n C dX7_giveUp_34 rfl ?_
      refine j_get C f_X7_10.F 0 dX7_giveUp_35 fW_0 rfl ?_
      obtain ⟨hv, hq⟩ := hq
      refine j_callVvW C g_X7_62 (c_X2_push_0 l D ca g K hv) 1 fW_1 hcl_X2 ⟨Nat.le_of_ble_eq_true rfl, Nat.le_of_ble_eq_true rfl⟩ ⟨Nat.le_of_ble_eq_true rfl, Nat.le_of_ble_eq_true rfl⟩ rfl rfl (Nat.le_of_ble_eq_true rfl) dX7_giveUp_38 fst_f ?_
      refine j_aload_n C dX7_giveUp_41 rfl ?_
      refine j_get C f_X7_10.F 0 dX7_giveUp_42 fW_0 rfl ?_
      refine j_iload_n C dX7_giveUp_45 rfl ?_
      obtain ⟨hv, hq⟩ := hq
      refine j_callVi C g_X7_134 (c_X0_lose l D ca (fun j => g (10 + j)) ((r_X2_push_0 K) 0) i hv) 10 fW_10 hcl_X0 ⟨Nat.le_of_ble_eq_true rfl, Nat.le_of_ble_eq_true rfl⟩ ⟨Nat.le_of_ble_eq_true rfl, Nat.le_of_ble_eq_true rfl⟩ [10, 11, 12, 13, 14, 15, 16, 17, 18, 19, 20, 21, 22, 23, 24, 25, 26, 27, 28, 29] pl_f_bk_0 rfl rfl rfl (Nat.le_of_ble_eq_true rfl) dX7_giveUp_46 fst_bk ?_
      refine j_ws (ws' := (fW ca g (up1 (r_X2_push_0 K) 0 ((r_X0_lose ((r_X2_push_0 K) 0) i).2)))) fb_f_0 ?_
      have e9 : r_X7_giveUp K i = ((r_X0_lose ((r_X2_push_0 K) 0) i).1, (up1 (r_X2_push_0 K) 0 ((r_X0_lose ((r_X2_push_0 K) 0) i).2))) := by rw [r_X7_giveUp, if_neg h11, if_neg h24]
      exact j_iret E dX7_giveUp_49 (jD_k e9 (fW ca g))
    · have hq := hq.1 h24
      refine j_bipush C dX7_giveUp_27 (-4 : Int32) (by decide) ?_
      have e9 : r_X7_giveUp K i = ((-4 : Int32), K) := by rw [r_X7_giveUp, if_neg h11, if_pos h24]
      exact j_iret E dX7_giveUp_29 (jD_k e9 (fW ca g))
  · have hq := hq.1 h11
    refine j_iconst C dX7_giveUp_14 (-1 : Int32) (by decide) ?_
    have e9 : r_X7_giveUp K i = ((-1 : Int32), K) := by rw [r_X7_giveUp, if_pos h11]
    exact j_iret E dX7_giveUp_15 (jD_k e9 (fW ca g))
set_option maxRecDepth 100000 in
set_option maxHeartbeats 4000000 in
theorem fo_f_10_5 {ca : Nat → ClassId} {g : Nat → Nat} {K : (Nat → jB)} {v : Int32} : (fW ca g K).set 10 (g 10, .inr (0, [.ref (g 11), .ref (g 12), .ref (g 13), .ref (g 14), .ref (g 15), .int (K 0 16 2), .int (K 0 16 3), .int (K 0 16 4), .int (K 0 16 5), .int (K 0 16 6), .int (K 0 16 7)].set 5 (.int v))) = fW ca g (up3 K 0 16 2 v) := rfl
set_option maxRecDepth 100000 in
set_option maxHeartbeats 4000000 in
theorem rd_33 {S : (Nat → jB)} {v0 : Int32} : (up3 S 0 16 2 v0) 0 16 2 = v0 := rfl

def r_X7_pass (K : (Nat → jB)) (days : Int32) : Int32 × (Nat → jB) := (if days < (1 : Int32) then ((-2 : Int32), K) else (if days ≤ (365 : Int32) then (if ((K 0 16 2) + days) ≤ (99999 : Int32) then ((((r_X2_push_0 K) 0 16 2) + days), (up3 (r_X2_push_0 K) 0 16 2 (((r_X2_push_0 K) 0 16 2) + days))) else ((-4 : Int32), K)) else ((-2 : Int32), K)))
def n_X7_pass (K : (Nat → jB)) (days : Int32) : Prop := ((days < (1 : Int32) → True) ∧ (¬ (days < (1 : Int32)) → ((days ≤ (365 : Int32) → ((((K 0 16 2) + days) ≤ (99999 : Int32) → ((n_X2_push_0 K) ∧ True)) ∧ (¬ (((K 0 16 2) + days) ≤ (99999 : Int32)) → True))) ∧ (¬ (days ≤ (365 : Int32)) → True))))
set_option maxRecDepth 100000 in
set_option maxHeartbeats 4000000 in
theorem c_X7_pass (l : Launch) (D : va_G) (ca : Nat → ClassId) (g : Nat → Nat) (K : (Nat → jB)) (days : Int32) (hq : n_X7_pass K days) : jM l D ca yX7_pass cX7_pass 2 (some .int) 5 107 0 0 [.ref (g 0), .int days] (fW ca g K) (jD (some (.int (r_X7_pass K days).1)) (fW ca g ((r_X7_pass K days).2))) := by
  refine jM_of [(0, .ref (g 0)), (1, .int days)] (by decide) (Nat.le_of_ble_eq_true rfl) rfl (fun X C E => ?_)
  rw [n_X7_pass] at hq
  refine j_iload_n C dX7_pass_0 rfl ?_
  refine j_iconst C dX7_pass_1 (1 : Int32) (by decide) ?_
  refine j_icmp_lt (tgt := 12) C dX7_pass_2 (by decide) (fun (h2 : days < (1 : Int32)) => ?_) (fun (h2 : ¬ (days < (1 : Int32))) => ?_)
  · have hq := hq.1 h2
    refine j_bipush C dX7_pass_12 (-2 : Int32) (by decide) ?_
    have e9 : r_X7_pass K days = ((-2 : Int32), K) := by rw [r_X7_pass, if_pos h2]
    exact j_iret E dX7_pass_14 (jD_k e9 (fW ca g))
  · have hq := hq.2 h2
    refine j_iload_n C dX7_pass_5 rfl ?_
    refine j_sipush C dX7_pass_6 (365 : Int32) (by decide) ?_
    refine j_icmp_le (tgt := 15) C dX7_pass_9 (by decide) (fun (h9 : days ≤ (365 : Int32)) => ?_) (fun (h9 : ¬ (days ≤ (365 : Int32))) => ?_)
    · have hq := hq.1 h9
      refine j_aload_n C dX7_pass_15 rfl ?_
      refine j_get C f_X7_10.F 0 dX7_pass_16 fW_0 rfl ?_
      refine j_get C f_X7_156.F 10 dX7_pass_19 fW_10 rfl ?_
      refine j_iload_n C dX7_pass_22 rfl ?_
      refine j_iadd C dX7_pass_23 ?_
      refine j_ldc C q_488 dX7_pass_24 ?_
      refine j_icmp_le (tgt := 32) C dX7_pass_26 (by decide) (fun (h26 : ((K 0 16 2) + days) ≤ (99999 : Int32)) => ?_) (fun (h26 : ¬ (((K 0 16 2) + days) ≤ (99999 : Int32))) => ?_)
      · have hq := hq.1 h26
        refine j_aload_n C dX7_pass_32 rfl ?_
        refine j_get C f_X7_25.F 0 dX7_pass_33 fW_0 rfl ?_
        refine j_aload_n C dX7_pass_36 rfl ?_
        refine j_get C f_X7_10.F 0 dX7_pass_37 fW_0 rfl ?_
        obtain ⟨hv, hq⟩ := hq
        refine j_callVvW C g_X7_62 (c_X2_push_0 l D ca g K hv) 1 fW_1 hcl_X2 ⟨Nat.le_of_ble_eq_true rfl, Nat.le_of_ble_eq_true rfl⟩ ⟨Nat.le_of_ble_eq_true rfl, Nat.le_of_ble_eq_true rfl⟩ rfl rfl (Nat.le_of_ble_eq_true rfl) dX7_pass_40 fst_f ?_
        refine j_aload_n C dX7_pass_43 rfl ?_
        refine j_get C f_X7_10.F 0 dX7_pass_44 fW_0 rfl ?_
        refine j_dup C dX7_pass_47 rfl ?_
        refine j_get C f_X7_156.F 10 dX7_pass_48 fW_10 rfl ?_
        refine j_iload_n C dX7_pass_51 rfl ?_
        refine j_iadd C dX7_pass_52 ?_
        refine j_put C f_X7_156 10 dX7_pass_53 fW_10 (Nat.le_of_ble_eq_true rfl) rfl rfl ?_
        refine j_ws (ws' := (fW ca g (up3 (r_X2_push_0 K) 0 16 2 (((r_X2_push_0 K) 0 16 2) + days)))) fo_f_10_5 ?_
        refine j_aload_n C dX7_pass_56 rfl ?_
        refine j_get C f_X7_10.F 0 dX7_pass_57 fW_0 rfl ?_
        refine j_get C f_X7_156.F 10 dX7_pass_60 fW_10 rfl ?_
        refine j_sti rd_33 ?_
        have e9 : r_X7_pass K days = ((((r_X2_push_0 K) 0 16 2) + days), (up3 (r_X2_push_0 K) 0 16 2 (((r_X2_push_0 K) 0 16 2) + days))) := by rw [r_X7_pass, if_neg h2, if_pos h9, if_pos h26]
        exact j_iret E dX7_pass_63 (jD_k e9 (fW ca g))
      · have hq := hq.2 h26
        refine j_bipush C dX7_pass_29 (-4 : Int32) (by decide) ?_
        have e9 : r_X7_pass K days = ((-4 : Int32), K) := by rw [r_X7_pass, if_neg h2, if_pos h9, if_neg h26]
        exact j_iret E dX7_pass_31 (jD_k e9 (fW ca g))
    · have hq := hq.2 h9
      refine j_bipush C dX7_pass_12 (-2 : Int32) (by decide) ?_
      have e9 : r_X7_pass K days = ((-2 : Int32), K) := by rw [r_X7_pass, if_neg h2, if_neg h9]
      exact j_iret E dX7_pass_14 (jD_k e9 (fW ca g))


def r_X7_undo (K : (Nat → jB)) : Int32 × (Nat → jB) := (if (K 7 5 3) = (0 : Int32) then ((-5 : Int32), K) else (((r_X2_popInto_0 K) 7 5 3), (r_X2_popInto_0 K)))
def n_X7_undo (K : (Nat → jB)) : Prop := (((K 7 5 3) = (0 : Int32) → True) ∧ (¬ ((K 7 5 3) = (0 : Int32)) → ((n_X2_popInto_0 K) ∧ True)))
set_option maxRecDepth 100000 in
set_option maxHeartbeats 4000000 in
theorem c_X7_undo (l : Launch) (D : va_G) (ca : Nat → ClassId) (g : Nat → Nat) (K : (Nat → jB)) (hq : n_X7_undo K) : jM l D ca yX7_undo cX7_undo 1 (some .int) 5 107 0 0 [.ref (g 0)] (fW ca g K) (jD (some (.int (r_X7_undo K).1)) (fW ca g ((r_X7_undo K).2))) := by
  refine jM_of [(0, .ref (g 0))] (by decide) (Nat.le_of_ble_eq_true rfl) rfl (fun X C E => ?_)
  rw [n_X7_undo] at hq
  refine j_aload_n C dX7_undo_0 rfl ?_
  refine j_get C f_X7_25.F 0 dX7_undo_1 fW_0 rfl ?_
  refine j_get C f_X7_166.F 1 dX7_undo_4 fW_1 rfl ?_
  refine j_if_ne (tgt := 13) C dX7_undo_7 (by decide) (fun (h7 : ¬ ((K 7 5 3) = (0 : Int32))) => ?_) (fun (h7 : (K 7 5 3) = (0 : Int32)) => ?_)
  · have hq := hq.2 h7
    refine j_aload_n C dX7_undo_13 rfl ?_
    refine j_get C f_X7_25.F 0 dX7_undo_14 fW_0 rfl ?_
    refine j_aload_n C dX7_undo_17 rfl ?_
    refine j_get C f_X7_10.F 0 dX7_undo_18 fW_0 rfl ?_
    obtain ⟨hv, hq⟩ := hq
    refine j_callVvW C g_X7_167 (c_X2_popInto_0 l D ca g K hv) 1 fW_1 hcl_X2 ⟨Nat.le_of_ble_eq_true rfl, Nat.le_of_ble_eq_true rfl⟩ ⟨Nat.le_of_ble_eq_true rfl, Nat.le_of_ble_eq_true rfl⟩ rfl rfl (Nat.le_of_ble_eq_true rfl) dX7_undo_21 fst_f ?_
    refine j_aload_n C dX7_undo_24 rfl ?_
    refine j_get C f_X7_25.F 0 dX7_undo_25 fW_0 rfl ?_
    refine j_get C f_X7_166.F 1 dX7_undo_28 fW_1 rfl ?_
    have e9 : r_X7_undo K = (((r_X2_popInto_0 K) 7 5 3), (r_X2_popInto_0 K)) := by rw [r_X7_undo, if_neg h7]
    exact j_iret E dX7_undo_31 (jD_k e9 (fW ca g))
  · have hq := hq.1 h7
    refine j_bipush C dX7_undo_10 (-5 : Int32) (by decide) ?_
    have e9 : r_X7_undo K = ((-5 : Int32), K) := by rw [r_X7_undo, if_pos h7]
    exact j_iret E dX7_undo_12 (jD_k e9 (fW ca g))
