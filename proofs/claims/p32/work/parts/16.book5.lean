set_option maxRecDepth 100000 in
set_option maxHeartbeats 4000000 in
theorem fa_bk_18 {ca : Nat → ClassId} {g : Nat → Nat} {B : jB} {i : Nat} {v : Int32} : (bkW ca g B).set 18 (g 18, .inl (ca 0, 20, .inl (upd (B 12) i v))) = bkW ca g (up2 B 12 i v) := rfl
set_option maxRecDepth 100000 in
set_option maxHeartbeats 4000000 in
theorem rd_20 {S : jB} {k0 : Nat} {v0 : Int32} : (up2 S 12 k0 v0) 16 5 = S 16 5 := rfl
set_option maxRecDepth 100000 in
set_option maxHeartbeats 4000000 in
theorem fo_bk_0_8 {ca : Nat → ClassId} {g : Nat → Nat} {B : jB} {v : Int32} : (bkW ca g B).set 0 (g 0, .inr (0, [.ref (g 1), .ref (g 2), .ref (g 3), .ref (g 4), .ref (g 5), .int (B 16 2), .int (B 16 3), .int (B 16 4), .int (B 16 5), .int (B 16 6), .int (B 16 7)].set 8 (.int v))) = bkW ca g (up2 B 16 5 v) := rfl
set_option maxRecDepth 100000 in
set_option maxHeartbeats 4000000 in
theorem rd_21 {S : jB} {k1 : Nat} {v1 : Int32} {v0 : Int32} {i : Nat} : (up2 (up2 S 12 k1 v1) 16 5 v0) 11 i = S 11 i := rfl
set_option maxRecDepth 100000 in
set_option maxHeartbeats 4000000 in
theorem rd_22 {S : jB} {k1 : Nat} {v1 : Int32} {v0 : Int32} {i : Nat} : (up2 (up2 S 12 k1 v1) 16 5 v0) 7 i = S 7 i := rfl
set_option maxRecDepth 100000 in
set_option maxHeartbeats 4000000 in
theorem rd_23 {S : jB} {k1 : Nat} {v1 : Int32} {v0 : Int32} : (up2 (up2 S 12 k1 v1) 16 5 v0) 16 3 = S 16 3 := rfl
set_option maxRecDepth 100000 in
set_option maxHeartbeats 4000000 in
theorem rd_24 {S : jB} {k2 : Nat} {v2 : Int32} {v1 : Int32} {v0 : Int32} {i : Nat} : (up2 (up2 (up2 S 12 k2 v2) 16 5 v1) 16 3 v0) 9 i = S 9 i := rfl
set_option maxRecDepth 100000 in
set_option maxHeartbeats 4000000 in
theorem rd_25 {S : jB} {v1 : Int32} {v0 : Int32} {i : Nat} : (up2 (up2 S 16 5 v1) 16 3 v0) 12 i = S 12 i := rfl

def z_X0_collect_0 (B : jB) (i : Int32) (c : Int32) : jB := (up2 (up2 B 12 (i).toNatClampNeg ((B 12 i.toNatClampNeg) + c)) 16 5 ((B 16 5) + c))
def z_X0_collect_1 (B : jB) (i : Int32) (c : Int32) : jB := (r_X0_settle (r_X4_intoPurse (z_X0_collect_0 B i c) (B 7 i.toNatClampNeg) c) i)
def r_X0_collect (B : jB) (i : Int32) (c : Int32) : Int32 × jB := (if (r_X3_has B i) = (0 : Int32) then ((-1 : Int32), B) else (if (B 11 i.toNatClampNeg) = (1 : Int32) then (if ((B 9 i.toNatClampNeg) - ((up2 B 12 (i).toNatClampNeg ((B 12 i.toNatClampNeg) + c)) 12 i.toNatClampNeg)) = (0 : Int32) then (((B 9 i.toNatClampNeg) - ((up2 B 12 (i).toNatClampNeg ((B 12 i.toNatClampNeg) + c)) 12 i.toNatClampNeg)), (r_X0_settle (up2 (z_X0_collect_0 B i c) 16 3 ((B 16 3) + c)) i)) else (((B 9 i.toNatClampNeg) - ((up2 B 12 (i).toNatClampNeg ((B 12 i.toNatClampNeg) + c)) 12 i.toNatClampNeg)), (up2 (z_X0_collect_0 B i c) 16 3 ((B 16 3) + c)))) else (if (((r_X4_intoPurse (z_X0_collect_0 B i c) (B 7 i.toNatClampNeg) c) 9 i.toNatClampNeg) - ((r_X4_intoPurse (z_X0_collect_0 B i c) (B 7 i.toNatClampNeg) c) 12 i.toNatClampNeg)) = (0 : Int32) then ((((r_X4_intoPurse (z_X0_collect_0 B i c) (B 7 i.toNatClampNeg) c) 9 i.toNatClampNeg) - ((r_X4_intoPurse (z_X0_collect_0 B i c) (B 7 i.toNatClampNeg) c) 12 i.toNatClampNeg)), (z_X0_collect_1 B i c)) else ((((r_X4_intoPurse (z_X0_collect_0 B i c) (B 7 i.toNatClampNeg) c) 9 i.toNatClampNeg) - ((r_X4_intoPurse (z_X0_collect_0 B i c) (B 7 i.toNatClampNeg) c) 12 i.toNatClampNeg)), (r_X4_intoPurse (z_X0_collect_0 B i c) (B 7 i.toNatClampNeg) c)))))
def n_X0_collect (B : jB) (i : Int32) (c : Int32) : Prop := (((r_X3_has B i) = (0 : Int32) → True) ∧ (¬ ((r_X3_has B i) = (0 : Int32)) → (((B 11 i.toNatClampNeg) = (1 : Int32) → ((((B 9 i.toNatClampNeg) - ((up2 B 12 (i).toNatClampNeg ((B 12 i.toNatClampNeg) + c)) 12 i.toNatClampNeg)) = (0 : Int32) → ((n_X0_settle (up2 (z_X0_collect_0 B i c) 16 3 ((B 16 3) + c)) i) ∧ True)) ∧ (¬ (((B 9 i.toNatClampNeg) - ((up2 B 12 (i).toNatClampNeg ((B 12 i.toNatClampNeg) + c)) 12 i.toNatClampNeg)) = (0 : Int32)) → True))) ∧ (¬ ((B 11 i.toNatClampNeg) = (1 : Int32)) → (((((r_X4_intoPurse (z_X0_collect_0 B i c) (B 7 i.toNatClampNeg) c) 9 i.toNatClampNeg) - ((r_X4_intoPurse (z_X0_collect_0 B i c) (B 7 i.toNatClampNeg) c) 12 i.toNatClampNeg)) = (0 : Int32) → ((n_X0_settle (r_X4_intoPurse (z_X0_collect_0 B i c) (B 7 i.toNatClampNeg) c) i) ∧ True)) ∧ (¬ ((((r_X4_intoPurse (z_X0_collect_0 B i c) (B 7 i.toNatClampNeg) c) 9 i.toNatClampNeg) - ((r_X4_intoPurse (z_X0_collect_0 B i c) (B 7 i.toNatClampNeg) c) 12 i.toNatClampNeg)) = (0 : Int32)) → True))))))
set_option maxRecDepth 100000 in
set_option maxHeartbeats 4000000 in
theorem c_X0_collect (l : Launch) (D : va_G) (ca : Nat → ClassId) (g : Nat → Nat) (B : jB) (i : Int32) (c : Int32) (hq : n_X0_collect B i c) : jM l D ca yX0_collect cX0_collect 4 (some .int) 4 87 0 0 [.ref (g 0), .int i, .int c] (bkW ca g B) (jD (some (.int (r_X0_collect B i c).1)) (bkW ca g ((r_X0_collect B i c).2))) := by
  refine jM_of [(0, .ref (g 0)), (1, .int i), (2, .int c)] (by decide) (Nat.le_of_ble_eq_true rfl) rfl (fun X C E => ?_)
  rw [n_X0_collect] at hq
  refine j_aload_n C dX0_collect_0 rfl ?_
  refine j_get C f_X0_28.F 0 dX0_collect_1 bkW_0 rfl ?_
  refine j_iload_n C dX0_collect_4 rfl ?_
  refine j_callViR C g_X0_49 (c_X3_has l D ca g B i) 3 bkW_3 hcl_X3 ⟨Nat.le_of_ble_eq_true rfl, Nat.le_of_ble_eq_true rfl⟩ ⟨Nat.le_of_ble_eq_true rfl, Nat.le_of_ble_eq_true rfl⟩ [3, 13, 14, 15, 16, 17, 18, 19] pl_bk_iv rfl rfl rfl (Nat.le_of_ble_eq_true rfl) dX0_collect_5 ?_
  refine j_if_ne (tgt := 13) C dX0_collect_8 (by decide) (fun (h8 : ¬ ((r_X3_has B i) = (0 : Int32))) => ?_) (fun (h8 : (r_X3_has B i) = (0 : Int32)) => ?_)
  · have hq := hq.2 h8
    refine j_aload_n C dX0_collect_13 rfl ?_
    refine j_get C f_X0_28.F 0 dX0_collect_14 bkW_0 rfl ?_
    refine j_get C f_X0_92.F 3 dX0_collect_17 bkW_3 rfl ?_
    refine j_iload_n C dX0_collect_20 rfl ?_
    refine j_dup2 C dX0_collect_21 rfl rfl ?_
    refine j_iald C 18 dX0_collect_22 bkW_18 (has_X3 h8) ?_
    refine j_iload_n C dX0_collect_23 rfl ?_
    refine j_iadd C dX0_collect_24 ?_
    refine j_iast C 18 dX0_collect_25 bkW_18 (has_X3 h8) ?_
    refine j_ws (ws' := (bkW ca g (up2 B 12 (i).toNatClampNeg ((B 12 i.toNatClampNeg) + c)))) fa_bk_18 ?_
    refine j_aload_n C dX0_collect_26 rfl ?_
    refine j_dup C dX0_collect_27 rfl ?_
    refine j_get C f_X0_117.F 0 dX0_collect_28 bkW_0 rfl ?_
    refine j_sti rd_20 ?_
    refine j_iload_n C dX0_collect_31 rfl ?_
    refine j_iadd C dX0_collect_32 ?_
    refine j_put C f_X0_117 0 dX0_collect_33 bkW_0 (Nat.le_of_ble_eq_true rfl) rfl rfl ?_
    refine j_ws (ws' := (bkW ca g (z_X0_collect_0 B i c))) fo_bk_0_8 ?_
    refine j_aload_n C dX0_collect_36 rfl ?_
    refine j_get C f_X0_28.F 0 dX0_collect_37 bkW_0 rfl ?_
    refine j_get C f_X0_89.F 3 dX0_collect_40 bkW_3 rfl ?_
    refine j_iload_n C dX0_collect_43 rfl ?_
    refine j_iald C 17 dX0_collect_44 bkW_17 (has_X3 h8) ?_
    refine j_sti rd_21 ?_
    refine j_iconst C dX0_collect_45 (1 : Int32) (by decide) ?_
    refine j_icmp_ne (tgt := 62) C dX0_collect_46 (by decide) (fun (h46 : ¬ ((B 11 i.toNatClampNeg) = (1 : Int32))) => ?_) (fun (h46 : (B 11 i.toNatClampNeg) = (1 : Int32)) => ?_)
    · have hq := hq.2 h46
      refine j_aload_n C dX0_collect_62 rfl ?_
      refine j_get C f_X0_12.F 0 dX0_collect_63 bkW_0 rfl ?_
      refine j_aload_n C dX0_collect_66 rfl ?_
      refine j_get C f_X0_28.F 0 dX0_collect_67 bkW_0 rfl ?_
      refine j_get C f_X0_107.F 3 dX0_collect_70 bkW_3 rfl ?_
      refine j_iload_n C dX0_collect_73 rfl ?_
      refine j_iald C 13 dX0_collect_74 bkW_13 (has_X3 h8) ?_
      refine j_sti rd_22 ?_
      refine j_iload_n C dX0_collect_75 rfl ?_
      refine j_callVv C g_X0_110 (c_X4_intoPurse l D ca g (z_X0_collect_0 B i c) (B 7 i.toNatClampNeg) c) 1 bkW_1 hcl_X4 ⟨Nat.le_of_ble_eq_true rfl, Nat.le_of_ble_eq_true rfl⟩ ⟨Nat.le_of_ble_eq_true rfl, Nat.le_of_ble_eq_true rfl⟩ [1, 6, 7, 8, 9] pl_bk_mb rfl rfl rfl (Nat.le_of_ble_eq_true rfl) dX0_collect_76 fst_mb ?_
      refine j_ws (ws' := (bkW ca g (r_X4_intoPurse (z_X0_collect_0 B i c) (B 7 i.toNatClampNeg) c))) fs_bk_X4_intoPurse ?_
      refine j_aload_n C dX0_collect_79 rfl ?_
      refine j_get C f_X0_28.F 0 dX0_collect_80 bkW_0 rfl ?_
      refine j_get C f_X0_79.F 3 dX0_collect_83 bkW_3 rfl ?_
      refine j_iload_n C dX0_collect_86 rfl ?_
      refine j_iald C 15 dX0_collect_87 bkW_15 (has_X3 h8) ?_
      refine j_aload_n C dX0_collect_88 rfl ?_
      refine j_get C f_X0_28.F 0 dX0_collect_89 bkW_0 rfl ?_
      refine j_get C f_X0_92.F 3 dX0_collect_92 bkW_3 rfl ?_
      refine j_iload_n C dX0_collect_95 rfl ?_
      refine j_iald C 18 dX0_collect_96 bkW_18 (has_X3 h8) ?_
      refine j_isub C dX0_collect_97 ?_
      refine j_istore_n C [(3, _), (0, _), (1, _), (2, _)] dX0_collect_98 (by decide) rfl ?_
      refine j_iload_n C dX0_collect_99 rfl ?_
      refine j_if_ne (tgt := 108) C dX0_collect_100 (by decide) (fun (h100 : ¬ ((((r_X4_intoPurse (z_X0_collect_0 B i c) (B 7 i.toNatClampNeg) c) 9 i.toNatClampNeg) - ((r_X4_intoPurse (z_X0_collect_0 B i c) (B 7 i.toNatClampNeg) c) 12 i.toNatClampNeg)) = (0 : Int32))) => ?_) (fun (h100 : (((r_X4_intoPurse (z_X0_collect_0 B i c) (B 7 i.toNatClampNeg) c) 9 i.toNatClampNeg) - ((r_X4_intoPurse (z_X0_collect_0 B i c) (B 7 i.toNatClampNeg) c) 12 i.toNatClampNeg)) = (0 : Int32)) => ?_)
      · have hq := hq.2 h100
        refine j_iload_n C dX0_collect_108 rfl ?_
        have e9 : r_X0_collect B i c = ((((r_X4_intoPurse (z_X0_collect_0 B i c) (B 7 i.toNatClampNeg) c) 9 i.toNatClampNeg) - ((r_X4_intoPurse (z_X0_collect_0 B i c) (B 7 i.toNatClampNeg) c) 12 i.toNatClampNeg)), (r_X4_intoPurse (z_X0_collect_0 B i c) (B 7 i.toNatClampNeg) c)) := by rw [r_X0_collect, if_neg h8, if_neg h46, if_neg h100]
        exact j_iret E dX0_collect_109 (jD_i e9 (bkW ca g))
      · have hq := hq.1 h100
        refine j_aload_n C dX0_collect_103 rfl ?_
        refine j_iload_n C dX0_collect_104 rfl ?_
        obtain ⟨hv, hq⟩ := hq
        refine j_callVvW C g_X0_120 (c_X0_settle l D ca g (r_X4_intoPurse (z_X0_collect_0 B i c) (B 7 i.toNatClampNeg) c) i hv) 0 bkW_0 hcl_X0 ⟨Nat.le_of_ble_eq_true rfl, Nat.le_of_ble_eq_true rfl⟩ ⟨Nat.le_of_ble_eq_true rfl, Nat.le_of_ble_eq_true rfl⟩ rfl rfl (Nat.le_of_ble_eq_true rfl) dX0_collect_105 fst_bk ?_
        refine j_ws (ws' := (bkW ca g (z_X0_collect_1 B i c))) (by rw [z_X0_collect_1]) ?_
        refine j_iload_n C dX0_collect_108 rfl ?_
        have e9 : r_X0_collect B i c = ((((r_X4_intoPurse (z_X0_collect_0 B i c) (B 7 i.toNatClampNeg) c) 9 i.toNatClampNeg) - ((r_X4_intoPurse (z_X0_collect_0 B i c) (B 7 i.toNatClampNeg) c) 12 i.toNatClampNeg)), (z_X0_collect_1 B i c)) := by rw [r_X0_collect, if_neg h8, if_neg h46, if_pos h100]
        exact j_iret E dX0_collect_109 (jD_i e9 (bkW ca g))
    · have hq := hq.1 h46
      refine j_aload_n C dX0_collect_49 rfl ?_
      refine j_dup C dX0_collect_50 rfl ?_
      refine j_get C f_X0_95.F 0 dX0_collect_51 bkW_0 rfl ?_
      refine j_sti rd_23 ?_
      refine j_iload_n C dX0_collect_54 rfl ?_
      refine j_iadd C dX0_collect_55 ?_
      refine j_put C f_X0_95 0 dX0_collect_56 bkW_0 (Nat.le_of_ble_eq_true rfl) rfl rfl ?_
      refine j_ws (ws' := (bkW ca g (up2 (z_X0_collect_0 B i c) 16 3 ((B 16 3) + c)))) fo_bk_0_6 ?_
      refine j_goto (tgt := 79) C dX0_collect_59 (by decide) ?_
      refine j_aload_n C dX0_collect_79 rfl ?_
      refine j_get C f_X0_28.F 0 dX0_collect_80 bkW_0 rfl ?_
      refine j_get C f_X0_79.F 3 dX0_collect_83 bkW_3 rfl ?_
      refine j_iload_n C dX0_collect_86 rfl ?_
      refine j_iald C 15 dX0_collect_87 bkW_15 (has_X3 h8) ?_
      refine j_sti rd_24 ?_
      refine j_aload_n C dX0_collect_88 rfl ?_
      refine j_get C f_X0_28.F 0 dX0_collect_89 bkW_0 rfl ?_
      refine j_get C f_X0_92.F 3 dX0_collect_92 bkW_3 rfl ?_
      refine j_iload_n C dX0_collect_95 rfl ?_
      refine j_iald C 18 dX0_collect_96 bkW_18 (has_X3 h8) ?_
      refine j_sti rd_25 ?_
      refine j_isub C dX0_collect_97 ?_
      refine j_istore_n C [(3, _), (0, _), (1, _), (2, _)] dX0_collect_98 (by decide) rfl ?_
      refine j_iload_n C dX0_collect_99 rfl ?_
      refine j_if_ne (tgt := 108) C dX0_collect_100 (by decide) (fun (h100 : ¬ (((B 9 i.toNatClampNeg) - ((up2 B 12 (i).toNatClampNeg ((B 12 i.toNatClampNeg) + c)) 12 i.toNatClampNeg)) = (0 : Int32))) => ?_) (fun (h100 : ((B 9 i.toNatClampNeg) - ((up2 B 12 (i).toNatClampNeg ((B 12 i.toNatClampNeg) + c)) 12 i.toNatClampNeg)) = (0 : Int32)) => ?_)
      · have hq := hq.2 h100
        refine j_iload_n C dX0_collect_108 rfl ?_
        have e9 : r_X0_collect B i c = (((B 9 i.toNatClampNeg) - ((up2 B 12 (i).toNatClampNeg ((B 12 i.toNatClampNeg) + c)) 12 i.toNatClampNeg)), (up2 (z_X0_collect_0 B i c) 16 3 ((B 16 3) + c))) := by rw [r_X0_collect, if_neg h8, if_pos h46, if_neg h100]
        exact j_iret E dX0_collect_109 (jD_i e9 (bkW ca g))
      · have hq := hq.1 h100
        refine j_aload_n C dX0_collect_103 rfl ?_
        refine j_iload_n C dX0_collect_104 rfl ?_
        obtain ⟨hv, hq⟩ := hq
        refine j_callVvW C g_X0_120 (c_X0_settle l D ca g (up2 (z_X0_collect_0 B i c) 16 3 ((B 16 3) + c)) i hv) 0 bkW_0 hcl_X0 ⟨Nat.le_of_ble_eq_true rfl, Nat.le_of_ble_eq_true rfl⟩ ⟨Nat.le_of_ble_eq_true rfl, Nat.le_of_ble_eq_true rfl⟩ rfl rfl (Nat.le_of_ble_eq_true rfl) dX0_collect_105 fst_bk ?_
        refine j_iload_n C dX0_collect_108 rfl ?_
        have e9 : r_X0_collect B i c = (((B 9 i.toNatClampNeg) - ((up2 B 12 (i).toNatClampNeg ((B 12 i.toNatClampNeg) + c)) 12 i.toNatClampNeg)), (r_X0_settle (up2 (z_X0_collect_0 B i c) 16 3 ((B 16 3) + c)) i)) := by rw [r_X0_collect, if_neg h8, if_pos h46, if_pos h100]
        exact j_iret E dX0_collect_109 (jD_i e9 (bkW ca g))
  · have hq := hq.1 h8
    refine j_iconst C dX0_collect_11 (-1 : Int32) (by decide) ?_
    have e9 : r_X0_collect B i c = ((-1 : Int32), B) := by rw [r_X0_collect, if_pos h8]
    exact j_iret E dX0_collect_12 (jD_i e9 (bkW ca g))
