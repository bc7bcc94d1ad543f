theorem vin_204 {i : Int32} (h0 : 0 ≤ i) (h1 : ¬ (612 : Int32) ≤ i) : vp_in ((204 : Int32) + i) 816 := by
  obtain ⟨j, hj, rfl⟩ := vp_in_of (vin_b 612 rfl h0 h1 (by decide) : vp_in i 612) (by decide)
  rw [show (204 : Int32) = nI 204 from rfl, nI_add]
  exact vp_in_nI (by omega) (by decide)
theorem vin_kn {q i : Int32} (h0 : 0 ≤ q) (h3 : q ≤ 3) (hi : 0 ≤ i) (h1 : ¬ (204 : Int32) ≤ i) : vp_in ((204 : Int32) * q + i) 816 := by
  obtain ⟨j, hj, rfl⟩ := vp_in_of (vin_b 204 rfl hi h1 (by decide) : vp_in i 204) (by decide)
  obtain ⟨a, ha, rfl⟩ := vp_in_of (vin_lt 4 rfl h0 (Int32.lt_of_le_of_lt h3 (by decide)) : vp_in q 4) (by decide)
  rw [show (204 : Int32) = nI 204 from rfl, pk_mul, nI_add]
  exact vp_in_nI (by omega) (by decide)
theorem kn_a {q : Int32} (h : q = 4) : 0 ≤ q - 1 ∧ q - 1 ≤ 3 := by subst h; decide
theorem kn_b {q : Int32} (h0 : 0 ≤ q) (h4 : q ≤ 4) (hn : ¬ q = 4) : 0 ≤ q ∧ q ≤ 3 := by
  refine ⟨h0, ?_⟩
  have h1 := Int32.le_iff_toInt_le.mp h4
  have e4 : (4 : Int32).toInt = 4 := rfl
  have e3 : (3 : Int32).toInt = 3 := rfl
  have h2 : q.toInt ≠ 4 := fun z => hn (Int32.toInt_inj.mp (z.trans e4.symm))
  exact Int32.le_iff_toInt_le.mpr (by omega)
theorem kn_c {q : Int32} (h0 : 0 ≤ q) (h4 : q ≤ 4) (hn : ¬ q = 0) : 0 ≤ q - 1 ∧ q - 1 ≤ 3 := by
  have h1 := Int32.le_iff_toInt_le.mp h4
  have h3 := Int32.le_iff_toInt_le.mp h0
  have e4 : (4 : Int32).toInt = 4 := rfl
  have e3 : (3 : Int32).toInt = 3 := rfl
  have e0 : (0 : Int32).toInt = 0 := rfl
  have h2 : q.toInt ≠ 0 := fun z => hn (Int32.toInt_inj.mp (z.trans e0.symm))
  have e5 : (q - 1).toInt = q.toInt - 1 := by
    rw [Int32.toInt_sub, show (1 : Int32).toInt = 1 from rfl, Int.bmod_eq_of_le] <;> omega
  exact ⟨Int32.le_iff_toInt_le.mpr (by omega), Int32.le_iff_toInt_le.mpr (by omega)⟩
set_option maxRecDepth 100000 in
set_option maxHeartbeats 4000000 in
theorem fo_m_0_3 {ca : Nat → ClassId} {g : Nat → Nat} {M : jB} {v : Int32} : (mW ca g M).set 0 (g 0, .inr (8, [.ref (g 1), .ref (g 2), .ref (g 3), .int (M 6 0), .ref (g 4), .int (M 6 1), .ref (g 5), .int (M 6 2), .int (M 6 3), .int (M 6 4), .ref (g 6), .int (M 6 5), .int (M 6 6), .int (M 6 7), .int (M 6 8)].set 3 (.int v))) = mW ca g (up2 M 6 0 v) := rfl
set_option maxRecDepth 100000 in
set_option maxHeartbeats 4000000 in
theorem fa_m_3 {ca : Nat → ClassId} {g : Nat → Nat} {M : jB} {i : Nat} {v : Int32} : (mW ca g M).set 3 (g 3, .inl (ca 0, 816, .inl (upd (M 2) i v))) = mW ca g (up2 M 2 i v) := rfl

def z_X8_know_0 (x51_1 : Int32) (M51 : jB) : jB := (up2 M51 2 ((((204 : Int32) * (M51 6 0)) + x51_1)).toNatClampNeg (M51 0 x51_1.toNatClampNeg))
def L_X8_know_51 (M : jB) : Nat → Int32 → jB → jB
  | 0, _, _ => M
  | n51 + 1, x51_1, M51 => (if (204 : Int32) ≤ x51_1 then (up2 M51 6 0 ((M51 6 0) + (1 : Int32))) else L_X8_know_51 M n51 (x51_1 + (1 : Int32)) (z_X8_know_0 x51_1 M51))
def z_X8_know_1 (x10_1 : Int32) (M10 : jB) : jB := (up2 M10 2 (x10_1).toNatClampNeg (M10 2 ((204 : Int32) + x10_1).toNatClampNeg))
def L_X8_know_10 (M : jB) : Nat → Int32 → jB → jB
  | 0, _, _ => M
  | n10 + 1, x10_1, M10 => (if (612 : Int32) ≤ x10_1 then L_X8_know_51 M 205 (0 : Int32) (up2 M10 6 0 ((M10 6 0) - (1 : Int32))) else L_X8_know_10 M n10 (x10_1 + (1 : Int32)) (z_X8_know_1 x10_1 M10))
def r_X8_know (M : jB) : jB := (if (M 6 0) = (4 : Int32) then L_X8_know_10 M 613 (0 : Int32) M else L_X8_know_51 M 205 (0 : Int32) M)
def n_X8_know (M : jB) : Prop := (((0 : Int32) ≤ M 6 0) ∧ ((M 6 0 ≤ 4) ∧ True))
set_option maxRecDepth 100000 in
set_option maxHeartbeats 4000000 in
theorem c_X8_know (l : Launch) (D : va_G) (ca : Nat → ClassId) (g : Nat → Nat) (M : jB) (hq : n_X8_know M) : jM l D ca yX8_know cX8_know 2 (none : Option FieldType) 0 0 0 0 [.ref (g 0)] (mW ca g M) (jD none (mW ca g (r_X8_know M))) := by
  refine jM_of [(0, .ref (g 0))] (by decide) (Nat.le_of_ble_eq_true rfl) rfl (fun X C E => ?_)
  rw [n_X8_know] at hq
  obtain ⟨hk0, hq⟩ := hq
  obtain ⟨hk4, hq⟩ := hq
  refine j_aload_n C dX8_know_0 rfl ?_
  refine j_get C f_X8_42.F 0 dX8_know_1 mW_0 rfl ?_
  refine j_iconst C dX8_know_4 (4 : Int32) (by decide) ?_
  refine j_icmp_ne (tgt := 49) C dX8_know_5 (by decide) (fun (h5 : ¬ ((M 6 0) = (4 : Int32))) => ?_) (fun (h5 : (M 6 0) = (4 : Int32)) => ?_)
  · refine j_iconst C dX8_know_49 (0 : Int32) (by decide) ?_
    refine j_istore_n C [(1, _), (0, _)] dX8_know_50 (by decide) rfl ?_
    have K51 : ∀ (n51 : Nat) (x51_1 : Int32) (M51 : jB), ((204 : Int32).toInt - x51_1.toInt).toNat < n51 → ((0 : Int32) ≤ x51_1) → (0 ≤ M51 6 0 ∧ M51 6 0 ≤ 3) → r_X8_know M = L_X8_know_51 M n51 x51_1 M51 → J l { frames := 0, cells := 0, slots := 0, locals := 0 } D 2 X 0 0 (mW ca g M51) [(0, .ref (g 0)), (1, .int x51_1)] [] 51 := by
      intro n51
      induction n51 with
      | zero =>
        intro x51_1 M51 hm51
        exact absurd hm51 (Nat.not_lt_zero _)
      | succ n51 ih51 =>
        intro x51_1 M51 hm51 hp51 hk51 hr51
        refine j_iload_n C dX8_know_51 rfl ?_
        refine j_sipush C dX8_know_52 (204 : Int32) (by decide) ?_
        refine j_icmp_ge (tgt := 85) C dX8_know_55 (by decide) (fun (h55 : (204 : Int32) ≤ x51_1) => ?_) (fun (h55 : ¬ ((204 : Int32) ≤ x51_1)) => ?_)
        · refine j_aload_n C dX8_know_85 rfl ?_
          refine j_dup C dX8_know_86 rfl ?_
          refine j_get C f_X8_42.F 0 dX8_know_87 mW_0 rfl ?_
          refine j_iconst C dX8_know_90 (1 : Int32) (by decide) ?_
          refine j_iadd C dX8_know_91 ?_
          refine j_put C f_X8_42 0 dX8_know_92 mW_0 (Nat.le_of_ble_eq_true rfl) rfl rfl ?_
          refine j_ws (ws' := (mW ca g (up2 M51 6 0 ((M51 6 0) + (1 : Int32))))) fo_m_0_3 ?_
          have e9 : r_X8_know M = (up2 M51 6 0 ((M51 6 0) + (1 : Int32))) := by rw [hr51, L_X8_know_51, if_pos h55]
          exact j_vret E dX8_know_95 (by rw [e9]; exact ⟨rfl, rfl⟩)
        · refine j_aload_n C dX8_know_58 rfl ?_
          refine j_get C f_X8_16.F 0 dX8_know_59 mW_0 rfl ?_
          refine j_sipush C dX8_know_62 (204 : Int32) (by decide) ?_
          refine j_aload_n C dX8_know_65 rfl ?_
          refine j_get C f_X8_42.F 0 dX8_know_66 mW_0 rfl ?_
          refine j_imul C dX8_know_69 ?_
          refine j_iload_n C dX8_know_70 rfl ?_
          refine j_iadd C dX8_know_71 ?_
          refine j_aload_n C dX8_know_72 rfl ?_
          refine j_get C f_X8_7.F 0 dX8_know_73 mW_0 rfl ?_
          refine j_iload_n C dX8_know_76 rfl ?_
          refine j_iald C 1 dX8_know_77 mW_1 (vin_b 204 rfl hp51 h55 (by decide)) ?_
          refine j_iast C 3 dX8_know_78 mW_3 (vin_kn hk51.1 hk51.2 hp51 h55) ?_
          refine j_ws (ws' := (mW ca g (z_X8_know_0 x51_1 M51))) fa_m_3 ?_
          refine j_iinc C [(1, _), (0, _)] (v := (x51_1 + (1 : Int32))) dX8_know_79 rfl (iinc_1 _) (by decide) rfl ?_
          refine j_goto (tgt := 51) C dX8_know_82 (by decide) ?_
          refine j_lv [(0, .ref (g 0)), (1, .int (x51_1 + (1 : Int32)))] rfl ?_
          exact ih51 (x51_1 + (1 : Int32)) (z_X8_know_0 x51_1 M51) (jms h55 hm51) (i_pos' h55 hp51) hk51 (by rw [hr51, L_X8_know_51, if_neg h55])
    refine j_lv [(0, .ref (g 0)), (1, .int (0 : Int32))] rfl ?_
    exact K51 205 (0 : Int32) M (by decide) (by decide) (by first | exact kn_b hk0 hk4 h5 | exact kn_a hn10) (by rw [r_X8_know, if_neg h5])
  · refine j_iconst C dX8_know_8 (0 : Int32) (by decide) ?_
    refine j_istore_n C [(1, _), (0, _)] dX8_know_9 (by decide) rfl ?_
    have K10 : ∀ (n10 : Nat) (x10_1 : Int32) (M10 : jB), ((612 : Int32).toInt - x10_1.toInt).toNat < n10 → ((0 : Int32) ≤ x10_1) → (M10 6 0 = 4) → r_X8_know M = L_X8_know_10 M n10 x10_1 M10 → J l { frames := 0, cells := 0, slots := 0, locals := 0 } D 2 X 0 0 (mW ca g M10) [(0, .ref (g 0)), (1, .int x10_1)] [] 10 := by
      intro n10
      induction n10 with
      | zero =>
        intro x10_1 M10 hm10
        exact absurd hm10 (Nat.not_lt_zero _)
      | succ n10 ih10 =>
        intro x10_1 M10 hm10 hk10 hn10 hr10
        refine j_iload_n C dX8_know_10 rfl ?_
        refine j_sipush C dX8_know_11 (612 : Int32) (by decide) ?_
        refine j_icmp_ge (tgt := 39) C dX8_know_14 (by decide) (fun (h14 : (612 : Int32) ≤ x10_1) => ?_) (fun (h14 : ¬ ((612 : Int32) ≤ x10_1)) => ?_)
        · refine j_aload_n C dX8_know_39 rfl ?_
          refine j_dup C dX8_know_40 rfl ?_
          refine j_get C f_X8_42.F 0 dX8_know_41 mW_0 rfl ?_
          refine j_iconst C dX8_know_44 (1 : Int32) (by decide) ?_
          refine j_isub C dX8_know_45 ?_
          refine j_put C f_X8_42 0 dX8_know_46 mW_0 (Nat.le_of_ble_eq_true rfl) rfl rfl ?_
          refine j_ws (ws' := (mW ca g (up2 M10 6 0 ((M10 6 0) - (1 : Int32))))) fo_m_0_3 ?_
          refine j_iconst C dX8_know_49 (0 : Int32) (by decide) ?_
          refine j_istore_n C [(1, _), (0, _)] dX8_know_50 (by decide) rfl ?_
          have K51 : ∀ (n51 : Nat) (x51_1 : Int32) (M51 : jB), ((204 : Int32).toInt - x51_1.toInt).toNat < n51 → ((0 : Int32) ≤ x51_1) → (0 ≤ M51 6 0 ∧ M51 6 0 ≤ 3) → r_X8_know M = L_X8_know_51 M n51 x51_1 M51 → J l { frames := 0, cells := 0, slots := 0, locals := 0 } D 2 X 0 0 (mW ca g M51) [(0, .ref (g 0)), (1, .int x51_1)] [] 51 := by
            intro n51
            induction n51 with
            | zero =>
              intro x51_1 M51 hm51
              exact absurd hm51 (Nat.not_lt_zero _)
            | succ n51 ih51 =>
              intro x51_1 M51 hm51 hp51 hk51 hr51
              refine j_iload_n C dX8_know_51 rfl ?_
              refine j_sipush C dX8_know_52 (204 : Int32) (by decide) ?_
              refine j_icmp_ge (tgt := 85) C dX8_know_55 (by decide) (fun (h55 : (204 : Int32) ≤ x51_1) => ?_) (fun (h55 : ¬ ((204 : Int32) ≤ x51_1)) => ?_)
              · refine j_aload_n C dX8_know_85 rfl ?_
                refine j_dup C dX8_know_86 rfl ?_
                refine j_get C f_X8_42.F 0 dX8_know_87 mW_0 rfl ?_
                refine j_iconst C dX8_know_90 (1 : Int32) (by decide) ?_
                refine j_iadd C dX8_know_91 ?_
                refine j_put C f_X8_42 0 dX8_know_92 mW_0 (Nat.le_of_ble_eq_true rfl) rfl rfl ?_
                refine j_ws (ws' := (mW ca g (up2 M51 6 0 ((M51 6 0) + (1 : Int32))))) fo_m_0_3 ?_
                have e9 : r_X8_know M = (up2 M51 6 0 ((M51 6 0) + (1 : Int32))) := by rw [hr51, L_X8_know_51, if_pos h55]
                exact j_vret E dX8_know_95 (by rw [e9]; exact ⟨rfl, rfl⟩)
              · refine j_aload_n C dX8_know_58 rfl ?_
                refine j_get C f_X8_16.F 0 dX8_know_59 mW_0 rfl ?_
                refine j_sipush C dX8_know_62 (204 : Int32) (by decide) ?_
                refine j_aload_n C dX8_know_65 rfl ?_
                refine j_get C f_X8_42.F 0 dX8_know_66 mW_0 rfl ?_
                refine j_imul C dX8_know_69 ?_
                refine j_iload_n C dX8_know_70 rfl ?_
                refine j_iadd C dX8_know_71 ?_
                refine j_aload_n C dX8_know_72 rfl ?_
                refine j_get C f_X8_7.F 0 dX8_know_73 mW_0 rfl ?_
                refine j_iload_n C dX8_know_76 rfl ?_
                refine j_iald C 1 dX8_know_77 mW_1 (vin_b 204 rfl hp51 h55 (by decide)) ?_
                refine j_iast C 3 dX8_know_78 mW_3 (vin_kn hk51.1 hk51.2 hp51 h55) ?_
                refine j_ws (ws' := (mW ca g (z_X8_know_0 x51_1 M51))) fa_m_3 ?_
                refine j_iinc C [(1, _), (0, _)] (v := (x51_1 + (1 : Int32))) dX8_know_79 rfl (iinc_1 _) (by decide) rfl ?_
                refine j_goto (tgt := 51) C dX8_know_82 (by decide) ?_
                refine j_lv [(0, .ref (g 0)), (1, .int (x51_1 + (1 : Int32)))] rfl ?_
                exact ih51 (x51_1 + (1 : Int32)) (z_X8_know_0 x51_1 M51) (jms h55 hm51) (i_pos' h55 hp51) hk51 (by rw [hr51, L_X8_know_51, if_neg h55])
          refine j_lv [(0, .ref (g 0)), (1, .int (0 : Int32))] rfl ?_
          exact K51 205 (0 : Int32) (up2 M10 6 0 ((M10 6 0) - (1 : Int32))) (by decide) (by decide) (by first | exact kn_b hk0 hk4 h5 | exact kn_a hn10) (by rw [hr10, L_X8_know_10, if_pos h14])
        · refine j_aload_n C dX8_know_17 rfl ?_
          refine j_get C f_X8_16.F 0 dX8_know_18 mW_0 rfl ?_
          refine j_iload_n C dX8_know_21 rfl ?_
          refine j_aload_n C dX8_know_22 rfl ?_
          refine j_get C f_X8_16.F 0 dX8_know_23 mW_0 rfl ?_
          refine j_sipush C dX8_know_26 (204 : Int32) (by decide) ?_
          refine j_iload_n C dX8_know_29 rfl ?_
          refine j_iadd C dX8_know_30 ?_
          refine j_iald C 3 dX8_know_31 mW_3 (vin_204 hk10 h14) ?_
          refine j_iast C 3 dX8_know_32 mW_3 (vin_b 816 rfl hk10 h14 (by decide)) ?_
          refine j_ws (ws' := (mW ca g (z_X8_know_1 x10_1 M10))) fa_m_3 ?_
          refine j_iinc C [(1, _), (0, _)] (v := (x10_1 + (1 : Int32))) dX8_know_33 rfl (iinc_1 _) (by decide) rfl ?_
          refine j_goto (tgt := 10) C dX8_know_36 (by decide) ?_
          refine j_lv [(0, .ref (g 0)), (1, .int (x10_1 + (1 : Int32)))] rfl ?_
          exact ih10 (x10_1 + (1 : Int32)) (z_X8_know_1 x10_1 M10) (jms h14 hm10) (i_pos' h14 hk10) hn10 (by rw [hr10, L_X8_know_10, if_neg h14])
    refine j_lv [(0, .ref (g 0)), (1, .int (0 : Int32))] rfl ?_
    exact K10 613 (0 : Int32) M (by decide) (by decide) h5 (by rw [r_X8_know, if_pos h5])
set_option maxRecDepth 100000 in
set_option maxHeartbeats 4000000 in
theorem fst_m {ca : Nat → ClassId} {g : Nat → Nat} {A B : jB} : (mW ca g A).map Prod.fst = (mW ca g B).map Prod.fst := rfl

def r_X8_setRate (M : jB) (w : Int32) (b : Int32) : Int32 × jB := (if (r_X8_in w (0 : Int32) (2 : Int32)) = (0 : Int32) then ((-1 : Int32), M) else (if b < (0 : Int32) then (if w = (0 : Int32) then (if (Op.cmpValue (FP.fcmp (3212836864 : UInt32) (1036831949 : UInt32)) CmpOp.g) < (0 : Int32) then ((-2 : Int32), M) else (if (Op.cmpValue (FP.fcmp (3212836864 : UInt32) (0x3f800000 : UInt32)) CmpOp.l) ≤ (0 : Int32) then (if (M 0 ((2 : Int32) + w).toNatClampNeg) = b then ((-5 : Int32), M) else ((1 : Int32), (up2 (r_X8_know M) 0 (((2 : Int32) + w)).toNatClampNeg b))) else ((-2 : Int32), M))) else (if w = (1 : Int32) then (if (Op.cmpValue (FP.fcmp (3212836864 : UInt32) (0x00000000 : UInt32)) CmpOp.g) < (0 : Int32) then ((-2 : Int32), M) else (if (Op.cmpValue (FP.fcmp (3212836864 : UInt32) (1028443341 : UInt32)) CmpOp.l) ≤ (0 : Int32) then (if (M 0 ((2 : Int32) + w).toNatClampNeg) = b then ((-5 : Int32), M) else ((1 : Int32), (up2 (r_X8_know M) 0 (((2 : Int32) + w)).toNatClampNeg b))) else ((-2 : Int32), M))) else (if (Op.cmpValue (FP.fcmp (3212836864 : UInt32) (0x00000000 : UInt32)) CmpOp.g) < (0 : Int32) then ((-2 : Int32), M) else (if (Op.cmpValue (FP.fcmp (3212836864 : UInt32) (1056964608 : UInt32)) CmpOp.l) ≤ (0 : Int32) then (if (M 0 ((2 : Int32) + w).toNatClampNeg) = b then ((-5 : Int32), M) else ((1 : Int32), (up2 (r_X8_know M) 0 (((2 : Int32) + w)).toNatClampNeg b))) else ((-2 : Int32), M))))) else (if (b >>> ((23 : Int32) &&& 31)) = (255 : Int32) then (if w = (0 : Int32) then (if (Op.cmpValue (FP.fcmp (3212836864 : UInt32) (1036831949 : UInt32)) CmpOp.g) < (0 : Int32) then ((-2 : Int32), M) else (if (Op.cmpValue (FP.fcmp (3212836864 : UInt32) (0x3f800000 : UInt32)) CmpOp.l) ≤ (0 : Int32) then (if (M 0 ((2 : Int32) + w).toNatClampNeg) = b then ((-5 : Int32), M) else ((1 : Int32), (up2 (r_X8_know M) 0 (((2 : Int32) + w)).toNatClampNeg b))) else ((-2 : Int32), M))) else (if w = (1 : Int32) then (if (Op.cmpValue (FP.fcmp (3212836864 : UInt32) (0x00000000 : UInt32)) CmpOp.g) < (0 : Int32) then ((-2 : Int32), M) else (if (Op.cmpValue (FP.fcmp (3212836864 : UInt32) (1028443341 : UInt32)) CmpOp.l) ≤ (0 : Int32) then (if (M 0 ((2 : Int32) + w).toNatClampNeg) = b then ((-5 : Int32), M) else ((1 : Int32), (up2 (r_X8_know M) 0 (((2 : Int32) + w)).toNatClampNeg b))) else ((-2 : Int32), M))) else (if (Op.cmpValue (FP.fcmp (3212836864 : UInt32) (0x00000000 : UInt32)) CmpOp.g) < (0 : Int32) then ((-2 : Int32), M) else (if (Op.cmpValue (FP.fcmp (3212836864 : UInt32) (1056964608 : UInt32)) CmpOp.l) ≤ (0 : Int32) then (if (M 0 ((2 : Int32) + w).toNatClampNeg) = b then ((-5 : Int32), M) else ((1 : Int32), (up2 (r_X8_know M) 0 (((2 : Int32) + w)).toNatClampNeg b))) else ((-2 : Int32), M))))) else (if w = (0 : Int32) then (if (Op.cmpValue (FP.fcmp (r_X8_ofBits b) (1036831949 : UInt32)) CmpOp.g) < (0 : Int32) then ((-2 : Int32), M) else (if (Op.cmpValue (FP.fcmp (r_X8_ofBits b) (0x3f800000 : UInt32)) CmpOp.l) ≤ (0 : Int32) then (if (M 0 ((2 : Int32) + w).toNatClampNeg) = b then ((-5 : Int32), M) else ((1 : Int32), (up2 (r_X8_know M) 0 (((2 : Int32) + w)).toNatClampNeg b))) else ((-2 : Int32), M))) else (if w = (1 : Int32) then (if (Op.cmpValue (FP.fcmp (r_X8_ofBits b) (0x00000000 : UInt32)) CmpOp.g) < (0 : Int32) then ((-2 : Int32), M) else (if (Op.cmpValue (FP.fcmp (r_X8_ofBits b) (1028443341 : UInt32)) CmpOp.l) ≤ (0 : Int32) then (if (M 0 ((2 : Int32) + w).toNatClampNeg) = b then ((-5 : Int32), M) else ((1 : Int32), (up2 (r_X8_know M) 0 (((2 : Int32) + w)).toNatClampNeg b))) else ((-2 : Int32), M))) else (if (Op.cmpValue (FP.fcmp (r_X8_ofBits b) (0x00000000 : UInt32)) CmpOp.g) < (0 : Int32) then ((-2 : Int32), M) else (if (Op.cmpValue (FP.fcmp (r_X8_ofBits b) (1056964608 : UInt32)) CmpOp.l) ≤ (0 : Int32) then (if (M 0 ((2 : Int32) + w).toNatClampNeg) = b then ((-5 : Int32), M) else ((1 : Int32), (up2 (r_X8_know M) 0 (((2 : Int32) + w)).toNatClampNeg b))) else ((-2 : Int32), M))))))))
def n_X8_setRate (M : jB) (w : Int32) (b : Int32) : Prop := (((r_X8_in w (0 : Int32) (2 : Int32)) = (0 : Int32) → True) ∧ (¬ ((r_X8_in w (0 : Int32) (2 : Int32)) = (0 : Int32)) → ((b < (0 : Int32) → ((w = (0 : Int32) → (((Op.cmpValue (FP.fcmp (3212836864 : UInt32) (1036831949 : UInt32)) CmpOp.g) < (0 : Int32) → True) ∧ (¬ ((Op.cmpValue (FP.fcmp (3212836864 : UInt32) (1036831949 : UInt32)) CmpOp.g) < (0 : Int32)) → (((Op.cmpValue (FP.fcmp (3212836864 : UInt32) (0x3f800000 : UInt32)) CmpOp.l) ≤ (0 : Int32) → (vp_in ((2 : Int32) + w) 204 ∧ (((M 0 ((2 : Int32) + w).toNatClampNeg) = b → True) ∧ (¬ ((M 0 ((2 : Int32) + w).toNatClampNeg) = b) → ((n_X8_know M) ∧ (vp_in ((2 : Int32) + w) 204 ∧ True)))))) ∧ (¬ ((Op.cmpValue (FP.fcmp (3212836864 : UInt32) (0x3f800000 : UInt32)) CmpOp.l) ≤ (0 : Int32)) → True))))) ∧ (¬ (w = (0 : Int32)) → ((w = (1 : Int32) → (((Op.cmpValue (FP.fcmp (3212836864 : UInt32) (0x00000000 : UInt32)) CmpOp.g) < (0 : Int32) → True) ∧ (¬ ((Op.cmpValue (FP.fcmp (3212836864 : UInt32) (0x00000000 : UInt32)) CmpOp.g) < (0 : Int32)) → (((Op.cmpValue (FP.fcmp (3212836864 : UInt32) (1028443341 : UInt32)) CmpOp.l) ≤ (0 : Int32) → (vp_in ((2 : Int32) + w) 204 ∧ (((M 0 ((2 : Int32) + w).toNatClampNeg) = b → True) ∧ (¬ ((M 0 ((2 : Int32) + w).toNatClampNeg) = b) → ((n_X8_know M) ∧ (vp_in ((2 : Int32) + w) 204 ∧ True)))))) ∧ (¬ ((Op.cmpValue (FP.fcmp (3212836864 : UInt32) (1028443341 : UInt32)) CmpOp.l) ≤ (0 : Int32)) → True))))) ∧ (¬ (w = (1 : Int32)) → (((Op.cmpValue (FP.fcmp (3212836864 : UInt32) (0x00000000 : UInt32)) CmpOp.g) < (0 : Int32) → True) ∧ (¬ ((Op.cmpValue (FP.fcmp (3212836864 : UInt32) (0x00000000 : UInt32)) CmpOp.g) < (0 : Int32)) → (((Op.cmpValue (FP.fcmp (3212836864 : UInt32) (1056964608 : UInt32)) CmpOp.l) ≤ (0 : Int32) → (vp_in ((2 : Int32) + w) 204 ∧ (((M 0 ((2 : Int32) + w).toNatClampNeg) = b → True) ∧ (¬ ((M 0 ((2 : Int32) + w).toNatClampNeg) = b) → ((n_X8_know M) ∧ (vp_in ((2 : Int32) + w) 204 ∧ True)))))) ∧ (¬ ((Op.cmpValue (FP.fcmp (3212836864 : UInt32) (1056964608 : UInt32)) CmpOp.l) ≤ (0 : Int32)) → True))))))))) ∧ (¬ (b < (0 : Int32)) → (((b >>> ((23 : Int32) &&& 31)) = (255 : Int32) → ((w = (0 : Int32) → (((Op.cmpValue (FP.fcmp (3212836864 : UInt32) (1036831949 : UInt32)) CmpOp.g) < (0 : Int32) → True) ∧ (¬ ((Op.cmpValue (FP.fcmp (3212836864 : UInt32) (1036831949 : UInt32)) CmpOp.g) < (0 : Int32)) → (((Op.cmpValue (FP.fcmp (3212836864 : UInt32) (0x3f800000 : UInt32)) CmpOp.l) ≤ (0 : Int32) → (vp_in ((2 : Int32) + w) 204 ∧ (((M 0 ((2 : Int32) + w).toNatClampNeg) = b → True) ∧ (¬ ((M 0 ((2 : Int32) + w).toNatClampNeg) = b) → ((n_X8_know M) ∧ (vp_in ((2 : Int32) + w) 204 ∧ True)))))) ∧ (¬ ((Op.cmpValue (FP.fcmp (3212836864 : UInt32) (0x3f800000 : UInt32)) CmpOp.l) ≤ (0 : Int32)) → True))))) ∧ (¬ (w = (0 : Int32)) → ((w = (1 : Int32) → (((Op.cmpValue (FP.fcmp (3212836864 : UInt32) (0x00000000 : UInt32)) CmpOp.g) < (0 : Int32) → True) ∧ (¬ ((Op.cmpValue (FP.fcmp (3212836864 : UInt32) (0x00000000 : UInt32)) CmpOp.g) < (0 : Int32)) → (((Op.cmpValue (FP.fcmp (3212836864 : UInt32) (1028443341 : UInt32)) CmpOp.l) ≤ (0 : Int32) → (vp_in ((2 : Int32) + w) 204 ∧ (((M 0 ((2 : Int32) + w).toNatClampNeg) = b → True) ∧ (¬ ((M 0 ((2 : Int32) + w).toNatClampNeg) = b) → ((n_X8_know M) ∧ (vp_in ((2 : Int32) + w) 204 ∧ True)))))) ∧ (¬ ((Op.cmpValue (FP.fcmp (3212836864 : UInt32) (1028443341 : UInt32)) CmpOp.l) ≤ (0 : Int32)) → True))))) ∧ (¬ (w = (1 : Int32)) → (((Op.cmpValue (FP.fcmp (3212836864 : UInt32) (0x00000000 : UInt32)) CmpOp.g) < (0 : Int32) → True) ∧ (¬ ((Op.cmpValue (FP.fcmp (3212836864 : UInt32) (0x00000000 : UInt32)) CmpOp.g) < (0 : Int32)) → (((Op.cmpValue (FP.fcmp (3212836864 : UInt32) (1056964608 : UInt32)) CmpOp.l) ≤ (0 : Int32) → (vp_in ((2 : Int32) + w) 204 ∧ (((M 0 ((2 : Int32) + w).toNatClampNeg) = b → True) ∧ (¬ ((M 0 ((2 : Int32) + w).toNatClampNeg) = b) → ((n_X8_know M) ∧ (vp_in ((2 : Int32) + w) 204 ∧ True)))))) ∧ (¬ ((Op.cmpValue (FP.fcmp (3212836864 : UInt32) (1056964608 : UInt32)) CmpOp.l) ≤ (0 : Int32)) → True))))))))) ∧ (¬ ((b >>> ((23 : Int32) &&& 31)) = (255 : Int32)) → ((n_X8_ofBits b) ∧ ((w = (0 : Int32) → (((Op.cmpValue (FP.fcmp (r_X8_ofBits b) (1036831949 : UInt32)) CmpOp.g) < (0 : Int32) → True) ∧ (¬ ((Op.cmpValue (FP.fcmp (r_X8_ofBits b) (1036831949 : UInt32)) CmpOp.g) < (0 : Int32)) → (((Op.cmpValue (FP.fcmp (r_X8_ofBits b) (0x3f800000 : UInt32)) CmpOp.l) ≤ (0 : Int32) → (vp_in ((2 : Int32) + w) 204 ∧ (((M 0 ((2 : Int32) + w).toNatClampNeg) = b → True) ∧ (¬ ((M 0 ((2 : Int32) + w).toNatClampNeg) = b) → ((n_X8_know M) ∧ (vp_in ((2 : Int32) + w) 204 ∧ True)))))) ∧ (¬ ((Op.cmpValue (FP.fcmp (r_X8_ofBits b) (0x3f800000 : UInt32)) CmpOp.l) ≤ (0 : Int32)) → True))))) ∧ (¬ (w = (0 : Int32)) → ((w = (1 : Int32) → (((Op.cmpValue (FP.fcmp (r_X8_ofBits b) (0x00000000 : UInt32)) CmpOp.g) < (0 : Int32) → True) ∧ (¬ ((Op.cmpValue (FP.fcmp (r_X8_ofBits b) (0x00000000 : UInt32)) CmpOp.g) < (0 : Int32)) → (((Op.cmpValue (FP.fcmp (r_X8_ofBits b) (1028443341 : UInt32)) CmpOp.l) ≤ (0 : Int32) → (vp_in ((2 : Int32) + w) 204 ∧ (((M 0 ((2 : Int32) + w).toNatClampNeg) = b → True) ∧ (¬ ((M 0 ((2 : Int32) + w).toNatClampNeg) = b) → ((n_X8_know M) ∧ (vp_in ((2 : Int32) + w) 204 ∧ True)))))) ∧ (¬ ((Op.cmpValue (FP.fcmp (r_X8_ofBits b) (1028443341 : UInt32)) CmpOp.l) ≤ (0 : Int32)) → True))))) ∧ (¬ (w = (1 : Int32)) → (((Op.cmpValue (FP.fcmp (r_X8_ofBits b) (0x00000000 : UInt32)) CmpOp.g) < (0 : Int32) → True) ∧ (¬ ((Op.cmpValue (FP.fcmp (r_X8_ofBits b) (0x00000000 : UInt32)) CmpOp.g) < (0 : Int32)) → (((Op.cmpValue (FP.fcmp (r_X8_ofBits b) (1056964608 : UInt32)) CmpOp.l) ≤ (0 : Int32) → (vp_in ((2 : Int32) + w) 204 ∧ (((M 0 ((2 : Int32) + w).toNatClampNeg) = b → True) ∧ (¬ ((M 0 ((2 : Int32) + w).toNatClampNeg) = b) → ((n_X8_know M) ∧ (vp_in ((2 : Int32) + w) 204 ∧ True)))))) ∧ (¬ ((Op.cmpValue (FP.fcmp (r_X8_ofBits b) (1056964608 : UInt32)) CmpOp.l) ≤ (0 : Int32)) → True)))))))))))))))
set_option maxRecDepth 100000 in
set_option maxHeartbeats 4000000 in
theorem c_X8_setRate (l : Launch) (D : va_G) (ca : Nat → ClassId) (g : Nat → Nat) (M : jB) (w : Int32) (b : Int32) (hq : n_X8_setRate M w b) : jM l D ca yX8_setRate cX8_setRate 7 (some .int) 1 23 0 0 [.ref (g 0), .int w, .int b] (mW ca g M) (jD (some (.int (r_X8_setRate M w b).1)) (mW ca g ((r_X8_setRate M w b).2))) := by
  refine jM_of [(0, .ref (g 0)), (1, .int w), (2, .int b)] (by decide) (Nat.le_of_ble_eq_true rfl) rfl (fun X C E => ?_)
  rw [n_X8_setRate] at hq
  refine j_iload_n C dX8_setRate_0 rfl ?_
  refine j_iconst C dX8_setRate_1 (0 : Int32) (by decide) ?_
  refine j_iconst C dX8_setRate_2 (2 : Int32) (by decide) ?_
  refine j_callSiR C g_X8_38 (c_X8_in l D ca w (0 : Int32) (2 : Int32)) ⟨Nat.le_of_ble_eq_true rfl, Nat.le_of_ble_eq_true rfl⟩ ⟨Nat.le_of_ble_eq_true rfl, Nat.le_of_ble_eq_true rfl⟩ [] rfl rfl rfl rfl (Nat.le_of_ble_eq_true rfl) dX8_setRate_3 ?_
  refine j_if_ne (tgt := 11) C dX8_setRate_6 (by decide) (fun (h6 : ¬ ((r_X8_in w (0 : Int32) (2 : Int32)) = (0 : Int32))) => ?_) (fun (h6 : (r_X8_in w (0 : Int32) (2 : Int32)) = (0 : Int32)) => ?_)
  · have hq := hq.2 h6
    refine j_iload_n C dX8_setRate_11 rfl ?_
    refine j_if_lt (tgt := 29) C dX8_setRate_12 (by decide) (fun (h12 : b < (0 : Int32)) => ?_) (fun (h12 : ¬ (b < (0 : Int32))) => ?_)
    · have hq := hq.1 h12
      refine j_iconst C dX8_setRate_29 (0 : Int32) (by decide) ?_
      refine j_istore_n C [(3, _), (0, _), (1, _), (2, _)] dX8_setRate_30 (by decide) rfl ?_
      refine j_iload_n C dX8_setRate_31 rfl ?_
      refine j_if_eq (tgt := 42) C dX8_setRate_32 (by decide) (fun _ => ?_) (fun h => absurd (by decide) h)
      refine j_ldcf C q_684 dX8_setRate_42 ?_
      refine j_fstore C [(4, _), (3, _), (0, _), (1, _), (2, _)] dX8_setRate_44 (by decide) rfl ?_
      refine j_iload_n C dX8_setRate_46 rfl ?_
      refine j_if_ne (tgt := 55) C dX8_setRate_47 (by decide) (fun (h47 : ¬ (w = (0 : Int32))) => ?_) (fun (h47 : w = (0 : Int32)) => ?_)
      · have hq := hq.2 h47
        refine j_fconst0 C dX8_setRate_55 ?_
        refine j_fstore C [(5, _), (4, _), (3, _), (0, _), (1, _), (2, _)] dX8_setRate_56 (by decide) rfl ?_
        refine j_iload_n C dX8_setRate_58 rfl ?_
        refine j_if_ne (tgt := 66) C dX8_setRate_59 (by decide) (fun _ => ?_) (fun h => absurd h h47)
        refine j_iload_n C dX8_setRate_66 rfl ?_
        refine j_iconst C dX8_setRate_67 (1 : Int32) (by decide) ?_
        refine j_icmp_ne (tgt := 76) C dX8_setRate_68 (by decide) (fun (h68 : ¬ (w = (1 : Int32))) => ?_) (fun (h68 : w = (1 : Int32)) => ?_)
        · have hq := hq.2 h68
          refine j_ldcf C q_683 dX8_setRate_76 ?_
          refine j_fstore C [(6, _), (5, _), (4, _), (3, _), (0, _), (1, _), (2, _)] dX8_setRate_78 (by decide) rfl ?_
          refine j_fload C dX8_setRate_80 rfl ?_
          refine j_fload C dX8_setRate_82 rfl ?_
          refine j_fcmp C dX8_setRate_84 ?_
          refine j_if_lt (tgt := 96) C dX8_setRate_85 (by decide) (fun (h85 : (Op.cmpValue (FP.fcmp (3212836864 : UInt32) (0x00000000 : UInt32)) CmpOp.g) < (0 : Int32)) => ?_) (fun (h85 : ¬ ((Op.cmpValue (FP.fcmp (3212836864 : UInt32) (0x00000000 : UInt32)) CmpOp.g) < (0 : Int32))) => ?_)
          · have hq := hq.1 h85
            refine j_bipush C dX8_setRate_96 (-2 : Int32) (by decide) ?_
            have e9 : r_X8_setRate M w b = ((-2 : Int32), M) := by rw [r_X8_setRate, if_neg h6, if_pos h12, if_neg h47, if_neg h68, if_pos h85]
            exact j_iret E dX8_setRate_98 (jD_i e9 (mW ca g))
          · have hq := hq.2 h85
            refine j_fload C dX8_setRate_88 rfl ?_
            refine j_fload C dX8_setRate_90 rfl ?_
            refine j_fcmp C dX8_setRate_92 ?_
            refine j_if_le (tgt := 99) C dX8_setRate_93 (by decide) (fun (h93 : (Op.cmpValue (FP.fcmp (3212836864 : UInt32) (1056964608 : UInt32)) CmpOp.l) ≤ (0 : Int32)) => ?_) (fun (h93 : ¬ ((Op.cmpValue (FP.fcmp (3212836864 : UInt32) (1056964608 : UInt32)) CmpOp.l) ≤ (0 : Int32))) => ?_)
            · have hq := hq.1 h93
              refine j_aload_n C dX8_setRate_99 rfl ?_
              refine j_get C f_X8_7.F 0 dX8_setRate_100 mW_0 rfl ?_
              refine j_iconst C dX8_setRate_103 (2 : Int32) (by decide) ?_
              refine j_iload_n C dX8_setRate_104 rfl ?_
              refine j_iadd C dX8_setRate_105 ?_
              obtain ⟨hv, hq⟩ := hq
              refine j_iald C 1 dX8_setRate_106 mW_1 hv ?_
              refine j_iload_n C dX8_setRate_107 rfl ?_
              refine j_icmp_ne (tgt := 114) C dX8_setRate_108 (by decide) (fun (h108 : ¬ ((M 0 ((2 : Int32) + w).toNatClampNeg) = b)) => ?_) (fun (h108 : (M 0 ((2 : Int32) + w).toNatClampNeg) = b) => ?_)
              · have hq := hq.2 h108
                refine j_aload_n C dX8_setRate_114 rfl ?_
                obtain ⟨hv, hq⟩ := hq
                refine j_callVvW C g_X8_81 (c_X8_know l D ca g M hv) 0 mW_0 hcl_X8 ⟨Nat.le_of_ble_eq_true rfl, Nat.le_of_ble_eq_true rfl⟩ ⟨Nat.le_of_ble_eq_true rfl, Nat.le_of_ble_eq_true rfl⟩ rfl rfl (Nat.le_of_ble_eq_true rfl) dX8_setRate_115 fst_m ?_
                refine j_aload_n C dX8_setRate_118 rfl ?_
                refine j_get C f_X8_7.F 0 dX8_setRate_119 mW_0 rfl ?_
                refine j_iconst C dX8_setRate_122 (2 : Int32) (by decide) ?_
                refine j_iload_n C dX8_setRate_123 rfl ?_
                refine j_iadd C dX8_setRate_124 ?_
                refine j_iload_n C dX8_setRate_125 rfl ?_
                obtain ⟨hv, hq⟩ := hq
                refine j_iast C 1 dX8_setRate_126 mW_1 hv ?_
                refine j_ws (ws' := (mW ca g (up2 (r_X8_know M) 0 (((2 : Int32) + w)).toNatClampNeg b))) fa_m_1 ?_
                refine j_iconst C dX8_setRate_127 (1 : Int32) (by decide) ?_
                have e9 : r_X8_setRate M w b = ((1 : Int32), (up2 (r_X8_know M) 0 (((2 : Int32) + w)).toNatClampNeg b)) := by rw [r_X8_setRate, if_neg h6, if_pos h12, if_neg h47, if_neg h68, if_neg h85, if_pos h93, if_neg h108]
                exact j_iret E dX8_setRate_128 (jD_i e9 (mW ca g))
              · have hq := hq.1 h108
                refine j_bipush C dX8_setRate_111 (-5 : Int32) (by decide) ?_
                have e9 : r_X8_setRate M w b = ((-5 : Int32), M) := by rw [r_X8_setRate, if_neg h6, if_pos h12, if_neg h47, if_neg h68, if_neg h85, if_pos h93, if_pos h108]
                exact j_iret E dX8_setRate_113 (jD_i e9 (mW ca g))
            · have hq := hq.2 h93
              refine j_bipush C dX8_setRate_96 (-2 : Int32) (by decide) ?_
              have e9 : r_X8_setRate M w b = ((-2 : Int32), M) := by rw [r_X8_setRate, if_neg h6, if_pos h12, if_neg h47, if_neg h68, if_neg h85, if_neg h93]
              exact j_iret E dX8_setRate_98 (jD_i e9 (mW ca g))
        · have hq := hq.1 h68
          refine j_ldcf C q_686 dX8_setRate_71 ?_
          refine j_goto (tgt := 78) C dX8_setRate_73 (by decide) ?_
          refine j_fstore C [(6, _), (5, _), (4, _), (3, _), (0, _), (1, _), (2, _)] dX8_setRate_78 (by decide) rfl ?_
          refine j_fload C dX8_setRate_80 rfl ?_
          refine j_fload C dX8_setRate_82 rfl ?_
          refine j_fcmp C dX8_setRate_84 ?_
          refine j_if_lt (tgt := 96) C dX8_setRate_85 (by decide) (fun (h85 : (Op.cmpValue (FP.fcmp (3212836864 : UInt32) (0x00000000 : UInt32)) CmpOp.g) < (0 : Int32)) => ?_) (fun (h85 : ¬ ((Op.cmpValue (FP.fcmp (3212836864 : UInt32) (0x00000000 : UInt32)) CmpOp.g) < (0 : Int32))) => ?_)
          · have hq := hq.1 h85
            refine j_bipush C dX8_setRate_96 (-2 : Int32) (by decide) ?_
            have e9 : r_X8_setRate M w b = ((-2 : Int32), M) := by rw [r_X8_setRate, if_neg h6, if_pos h12, if_neg h47, if_pos h68, if_pos h85]
            exact j_iret E dX8_setRate_98 (jD_i e9 (mW ca g))
          · have hq := hq.2 h85
            refine j_fload C dX8_setRate_88 rfl ?_
            refine j_fload C dX8_setRate_90 rfl ?_
            refine j_fcmp C dX8_setRate_92 ?_
            refine j_if_le (tgt := 99) C dX8_setRate_93 (by decide) (fun (h93 : (Op.cmpValue (FP.fcmp (3212836864 : UInt32) (1028443341 : UInt32)) CmpOp.l) ≤ (0 : Int32)) => ?_) (fun (h93 : ¬ ((Op.cmpValue (FP.fcmp (3212836864 : UInt32) (1028443341 : UInt32)) CmpOp.l) ≤ (0 : Int32))) => ?_)
            · have hq := hq.1 h93
              refine j_aload_n C dX8_setRate_99 rfl ?_
              refine j_get C f_X8_7.F 0 dX8_setRate_100 mW_0 rfl ?_
              refine j_iconst C dX8_setRate_103 (2 : Int32) (by decide) ?_
              refine j_iload_n C dX8_setRate_104 rfl ?_
              refine j_iadd C dX8_setRate_105 ?_
              obtain ⟨hv, hq⟩ := hq
              refine j_iald C 1 dX8_setRate_106 mW_1 hv ?_
              refine j_iload_n C dX8_setRate_107 rfl ?_
              refine j_icmp_ne (tgt := 114) C dX8_setRate_108 (by decide) (fun (h108 : ¬ ((M 0 ((2 : Int32) + w).toNatClampNeg) = b)) => ?_) (fun (h108 : (M 0 ((2 : Int32) + w).toNatClampNeg) = b) => ?_)
              · have hq := hq.2 h108
                refine j_aload_n C dX8_setRate_114 rfl ?_
                obtain ⟨hv, hq⟩ := hq
                refine j_callVvW C g_X8_81 (c_X8_know l D ca g M hv) 0 mW_0 hcl_X8 ⟨Nat.le_of_ble_eq_true rfl, Nat.le_of_ble_eq_true rfl⟩ ⟨Nat.le_of_ble_eq_true rfl, Nat.le_of_ble_eq_true rfl⟩ rfl rfl (Nat.le_of_ble_eq_true rfl) dX8_setRate_115 fst_m ?_
                refine j_aload_n C dX8_setRate_118 rfl ?_
                refine j_get C f_X8_7.F 0 dX8_setRate_119 mW_0 rfl ?_
                refine j_iconst C dX8_setRate_122 (2 : Int32) (by decide) ?_
                refine j_iload_n C dX8_setRate_123 rfl ?_
                refine j_iadd C dX8_setRate_124 ?_
                refine j_iload_n C dX8_setRate_125 rfl ?_
                obtain ⟨hv, hq⟩ := hq
                refine j_iast C 1 dX8_setRate_126 mW_1 hv ?_
                refine j_ws (ws' := (mW ca g (up2 (r_X8_know M) 0 (((2 : Int32) + w)).toNatClampNeg b))) fa_m_1 ?_
                refine j_iconst C dX8_setRate_127 (1 : Int32) (by decide) ?_
                have e9 : r_X8_setRate M w b = ((1 : Int32), (up2 (r_X8_know M) 0 (((2 : Int32) + w)).toNatClampNeg b)) := by rw [r_X8_setRate, if_neg h6, if_pos h12, if_neg h47, if_pos h68, if_neg h85, if_pos h93, if_neg h108]
                exact j_iret E dX8_setRate_128 (jD_i e9 (mW ca g))
              · have hq := hq.1 h108
                refine j_bipush C dX8_setRate_111 (-5 : Int32) (by decide) ?_
                have e9 : r_X8_setRate M w b = ((-5 : Int32), M) := by rw [r_X8_setRate, if_neg h6, if_pos h12, if_neg h47, if_pos h68, if_neg h85, if_pos h93, if_pos h108]
                exact j_iret E dX8_setRate_113 (jD_i e9 (mW ca g))
            · have hq := hq.2 h93
              refine j_bipush C dX8_setRate_96 (-2 : Int32) (by decide) ?_
              have e9 : r_X8_setRate M w b = ((-2 : Int32), M) := by rw [r_X8_setRate, if_neg h6, if_pos h12, if_neg h47, if_pos h68, if_neg h85, if_neg h93]
              exact j_iret E dX8_setRate_98 (jD_i e9 (mW ca g))
      · have hq := hq.1 h47
        refine j_ldcf C q_685 dX8_setRate_50 ?_
        refine j_goto (tgt := 56) C dX8_setRate_52 (by decide) ?_
        refine j_fstore C [(5, _), (4, _), (3, _), (0, _), (1, _), (2, _)] dX8_setRate_56 (by decide) rfl ?_
        refine j_iload_n C dX8_setRate_58 rfl ?_
        refine j_if_ne (tgt := 66) C dX8_setRate_59 (by decide) (fun h => absurd h47 h) (fun _ => ?_)
        refine j_fconst1 C dX8_setRate_62 ?_
        refine j_goto (tgt := 78) C dX8_setRate_63 (by decide) ?_
        refine j_fstore C [(6, _), (5, _), (4, _), (3, _), (0, _), (1, _), (2, _)] dX8_setRate_78 (by decide) rfl ?_
        refine j_fload C dX8_setRate_80 rfl ?_
        refine j_fload C dX8_setRate_82 rfl ?_
        refine j_fcmp C dX8_setRate_84 ?_
        refine j_if_lt (tgt := 96) C dX8_setRate_85 (by decide) (fun (h85 : (Op.cmpValue (FP.fcmp (3212836864 : UInt32) (1036831949 : UInt32)) CmpOp.g) < (0 : Int32)) => ?_) (fun (h85 : ¬ ((Op.cmpValue (FP.fcmp (3212836864 : UInt32) (1036831949 : UInt32)) CmpOp.g) < (0 : Int32))) => ?_)
        · have hq := hq.1 h85
          refine j_bipush C dX8_setRate_96 (-2 : Int32) (by decide) ?_
          have e9 : r_X8_setRate M w b = ((-2 : Int32), M) := by rw [r_X8_setRate, if_neg h6, if_pos h12, if_pos h47, if_pos h85]
          exact j_iret E dX8_setRate_98 (jD_i e9 (mW ca g))
        · have hq := hq.2 h85
          refine j_fload C dX8_setRate_88 rfl ?_
          refine j_fload C dX8_setRate_90 rfl ?_
          refine j_fcmp C dX8_setRate_92 ?_
          refine j_if_le (tgt := 99) C dX8_setRate_93 (by decide) (fun (h93 : (Op.cmpValue (FP.fcmp (3212836864 : UInt32) (0x3f800000 : UInt32)) CmpOp.l) ≤ (0 : Int32)) => ?_) (fun (h93 : ¬ ((Op.cmpValue (FP.fcmp (3212836864 : UInt32) (0x3f800000 : UInt32)) CmpOp.l) ≤ (0 : Int32))) => ?_)
          · have hq := hq.1 h93
            refine j_aload_n C dX8_setRate_99 rfl ?_
            refine j_get C f_X8_7.F 0 dX8_setRate_100 mW_0 rfl ?_
            refine j_iconst C dX8_setRate_103 (2 : Int32) (by decide) ?_
            refine j_iload_n C dX8_setRate_104 rfl ?_
            refine j_iadd C dX8_setRate_105 ?_
            obtain ⟨hv, hq⟩ := hq
            refine j_iald C 1 dX8_setRate_106 mW_1 hv ?_
            refine j_iload_n C dX8_setRate_107 rfl ?_
            refine j_icmp_ne (tgt := 114) C dX8_setRate_108 (by decide) (fun (h108 : ¬ ((M 0 ((2 : Int32) + w).toNatClampNeg) = b)) => ?_) (fun (h108 : (M 0 ((2 : Int32) + w).toNatClampNeg) = b) => ?_)
            · have hq := hq.2 h108
              refine j_aload_n C dX8_setRate_114 rfl ?_
              obtain ⟨hv, hq⟩ := hq
              refine j_callVvW C g_X8_81 (c_X8_know l D ca g M hv) 0 mW_0 hcl_X8 ⟨Nat.le_of_ble_eq_true rfl, Nat.le_of_ble_eq_true rfl⟩ ⟨Nat.le_of_ble_eq_true rfl, Nat.le_of_ble_eq_true rfl⟩ rfl rfl (Nat.le_of_ble_eq_true rfl) dX8_setRate_115 fst_m ?_
              refine j_aload_n C dX8_setRate_118 rfl ?_
              refine j_get C f_X8_7.F 0 dX8_setRate_119 mW_0 rfl ?_
              refine j_iconst C dX8_setRate_122 (2 : Int32) (by decide) ?_
              refine j_iload_n C dX8_setRate_123 rfl ?_
              refine j_iadd C dX8_setRate_124 ?_
              refine j_iload_n C dX8_setRate_125 rfl ?_
              obtain ⟨hv, hq⟩ := hq
              refine j_iast C 1 dX8_setRate_126 mW_1 hv ?_
              refine j_ws (ws' := (mW ca g (up2 (r_X8_know M) 0 (((2 : Int32) + w)).toNatClampNeg b))) fa_m_1 ?_
              refine j_iconst C dX8_setRate_127 (1 : Int32) (by decide) ?_
              have e9 : r_X8_setRate M w b = ((1 : Int32), (up2 (r_X8_know M) 0 (((2 : Int32) + w)).toNatClampNeg b)) := by rw [r_X8_setRate, if_neg h6, if_pos h12, if_pos h47, if_neg h85, if_pos h93, if_neg h108]
              exact j_iret E dX8_setRate_128 (jD_i e9 (mW ca g))
            · have hq := hq.1 h108
              refine j_bipush C dX8_setRate_111 (-5 : Int32) (by decide) ?_
              have e9 : r_X8_setRate M w b = ((-5 : Int32), M) := by rw [r_X8_setRate, if_neg h6, if_pos h12, if_pos h47, if_neg h85, if_pos h93, if_pos h108]
              exact j_iret E dX8_setRate_113 (jD_i e9 (mW ca g))
          · have hq := hq.2 h93
            refine j_bipush C dX8_setRate_96 (-2 : Int32) (by decide) ?_
            have e9 : r_X8_setRate M w b = ((-2 : Int32), M) := by rw [r_X8_setRate, if_neg h6, if_pos h12, if_pos h47, if_neg h85, if_neg h93]
            exact j_iret E dX8_setRate_98 (jD_i e9 (mW ca g))
    · have hq := hq.2 h12
      refine j_iload_n C dX8_setRate_15 rfl ?_
      refine j_bipush C dX8_setRate_16 (23 : Int32) (by decide) ?_
      refine j_ishr C dX8_setRate_18 ?_
      refine j_sipush C dX8_setRate_19 (255 : Int32) (by decide) ?_
      refine j_icmp_eq (tgt := 29) C dX8_setRate_22 (by decide) (fun (h22 : (b >>> ((23 : Int32) &&& 31)) = (255 : Int32)) => ?_) (fun (h22 : ¬ ((b >>> ((23 : Int32) &&& 31)) = (255 : Int32))) => ?_)
      · have hq := hq.1 h22
        refine j_iconst C dX8_setRate_29 (0 : Int32) (by decide) ?_
        refine j_istore_n C [(3, _), (0, _), (1, _), (2, _)] dX8_setRate_30 (by decide) rfl ?_
        refine j_iload_n C dX8_setRate_31 rfl ?_
        refine j_if_eq (tgt := 42) C dX8_setRate_32 (by decide) (fun _ => ?_) (fun h => absurd (by decide) h)
        refine j_ldcf C q_684 dX8_setRate_42 ?_
        refine j_fstore C [(4, _), (3, _), (0, _), (1, _), (2, _)] dX8_setRate_44 (by decide) rfl ?_
        refine j_iload_n C dX8_setRate_46 rfl ?_
        refine j_if_ne (tgt := 55) C dX8_setRate_47 (by decide) (fun (h47 : ¬ (w = (0 : Int32))) => ?_) (fun (h47 : w = (0 : Int32)) => ?_)
        · have hq := hq.2 h47
          refine j_fconst0 C dX8_setRate_55 ?_
          refine j_fstore C [(5, _), (4, _), (3, _), (0, _), (1, _), (2, _)] dX8_setRate_56 (by decide) rfl ?_
          refine j_iload_n C dX8_setRate_58 rfl ?_
          refine j_if_ne (tgt := 66) C dX8_setRate_59 (by decide) (fun _ => ?_) (fun h => absurd h h47)
          refine j_iload_n C dX8_setRate_66 rfl ?_
          refine j_iconst C dX8_setRate_67 (1 : Int32) (by decide) ?_
          refine j_icmp_ne (tgt := 76) C dX8_setRate_68 (by decide) (fun (h68 : ¬ (w = (1 : Int32))) => ?_) (fun (h68 : w = (1 : Int32)) => ?_)
          · have hq := hq.2 h68
            refine j_ldcf C q_683 dX8_setRate_76 ?_
            refine j_fstore C [(6, _), (5, _), (4, _), (3, _), (0, _), (1, _), (2, _)] dX8_setRate_78 (by decide) rfl ?_
            refine j_fload C dX8_setRate_80 rfl ?_
            refine j_fload C dX8_setRate_82 rfl ?_
            refine j_fcmp C dX8_setRate_84 ?_
            refine j_if_lt (tgt := 96) C dX8_setRate_85 (by decide) (fun (h85 : (Op.cmpValue (FP.fcmp (3212836864 : UInt32) (0x00000000 : UInt32)) CmpOp.g) < (0 : Int32)) => ?_) (fun (h85 : ¬ ((Op.cmpValue (FP.fcmp (3212836864 : UInt32) (0x00000000 : UInt32)) CmpOp.g) < (0 : Int32))) => ?_)
            · have hq := hq.1 h85
              refine j_bipush C dX8_setRate_96 (-2 : Int32) (by decide) ?_
              have e9 : r_X8_setRate M w b = ((-2 : Int32), M) := by rw [r_X8_setRate, if_neg h6, if_neg h12, if_pos h22, if_neg h47, if_neg h68, if_pos h85]
              exact j_iret E dX8_setRate_98 (jD_i e9 (mW ca g))
            · have hq := hq.2 h85
              refine j_fload C dX8_setRate_88 rfl ?_
              refine j_fload C dX8_setRate_90 rfl ?_
              refine j_fcmp C dX8_setRate_92 ?_
              refine j_if_le (tgt := 99) C dX8_setRate_93 (by decide) (fun (h93 : (Op.cmpValue (FP.fcmp (3212836864 : UInt32) (1056964608 : UInt32)) CmpOp.l) ≤ (0 : Int32)) => ?_) (fun (h93 : ¬ ((Op.cmpValue (FP.fcmp (3212836864 : UInt32) (1056964608 : UInt32)) CmpOp.l) ≤ (0 : Int32))) => ?_)
              · have hq := hq.1 h93
                refine j_aload_n C dX8_setRate_99 rfl ?_
                refine j_get C f_X8_7.F 0 dX8_setRate_100 mW_0 rfl ?_
                refine j_iconst C dX8_setRate_103 (2 : Int32) (by decide) ?_
                refine j_iload_n C dX8_setRate_104 rfl ?_
                refine j_iadd C dX8_setRate_105 ?_
                obtain ⟨hv, hq⟩ := hq
                refine j_iald C 1 dX8_setRate_106 mW_1 hv ?_
                refine j_iload_n C dX8_setRate_107 rfl ?_
                refine j_icmp_ne (tgt := 114) C dX8_setRate_108 (by decide) (fun (h108 : ¬ ((M 0 ((2 : Int32) + w).toNatClampNeg) = b)) => ?_) (fun (h108 : (M 0 ((2 : Int32) + w).toNatClampNeg) = b) => ?_)
                · have hq := hq.2 h108
                  refine j_aload_n C dX8_setRate_114 rfl ?_
                  obtain ⟨hv, hq⟩ := hq
                  refine j_callVvW C g_X8_81 (c_X8_know l D ca g M hv) 0 mW_0 hcl_X8 ⟨Nat.le_of_ble_eq_true rfl, Nat.le_of_ble_eq_true rfl⟩ ⟨Nat.le_of_ble_eq_true rfl, Nat.le_of_ble_eq_true rfl⟩ rfl rfl (Nat.le_of_ble_eq_true rfl) dX8_setRate_115 fst_m ?_
                  refine j_aload_n C dX8_setRate_118 rfl ?_
                  refine j_get C f_X8_7.F 0 dX8_setRate_119 mW_0 rfl ?_
                  refine j_iconst C dX8_setRate_122 (2 : Int32) (by decide) ?_
                  refine j_iload_n C dX8_setRate_123 rfl ?_
                  refine j_iadd C dX8_setRate_124 ?_
                  refine j_iload_n C dX8_setRate_125 rfl ?_
                  obtain ⟨hv, hq⟩ := hq
                  refine j_iast C 1 dX8_setRate_126 mW_1 hv ?_
                  refine j_ws (ws' := (mW ca g (up2 (r_X8_know M) 0 (((2 : Int32) + w)).toNatClampNeg b))) fa_m_1 ?_
                  refine j_iconst C dX8_setRate_127 (1 : Int32) (by decide) ?_
                  have e9 : r_X8_setRate M w b = ((1 : Int32), (up2 (r_X8_know M) 0 (((2 : Int32) + w)).toNatClampNeg b)) := by rw [r_X8_setRate, if_neg h6, if_neg h12, if_pos h22, if_neg h47, if_neg h68, if_neg h85, if_pos h93, if_neg h108]
                  exact j_iret E dX8_setRate_128 (jD_i e9 (mW ca g))
                · have hq := hq.1 h108
                  refine j_bipush C dX8_setRate_111 (-5 : Int32) (by decide) ?_
                  have e9 : r_X8_setRate M w b = ((-5 : Int32), M) := by rw [r_X8_setRate, if_neg h6, if_neg h12, if_pos h22, if_neg h47, if_neg h68, if_neg h85, if_pos h93, if_pos h108]
                  exact j_iret E dX8_setRate_113 (jD_i e9 (mW ca g))
              · have hq := hq.2 h93
                refine j_bipush C dX8_setRate_96 (-2 : Int32) (by decide) ?_
                have e9 : r_X8_setRate M w b = ((-2 : Int32), M) := by rw [r_X8_setRate, if_neg h6, if_neg h12, if_pos h22, if_neg h47, if_neg h68, if_neg h85, if_neg h93]
                exact j_iret E dX8_setRate_98 (jD_i e9 (mW ca g))
          · have hq := hq.1 h68
            refine j_ldcf C q_686 dX8_setRate_71 ?_
            refine j_goto (tgt := 78) C dX8_setRate_73 (by decide) ?_
            refine j_fstore C [(6, _), (5, _), (4, _), (3, _), (0, _), (1, _), (2, _)] dX8_setRate_78 (by decide) rfl ?_
            refine j_fload C dX8_setRate_80 rfl ?_
            refine j_fload C dX8_setRate_82 rfl ?_
            refine j_fcmp C dX8_setRate_84 ?_
            refine j_if_lt (tgt := 96) C dX8_setRate_85 (by decide) (fun (h85 : (Op.cmpValue (FP.fcmp (3212836864 : UInt32) (0x00000000 : UInt32)) CmpOp.g) < (0 : Int32)) => ?_) (fun (h85 : ¬ ((Op.cmpValue (FP.fcmp (3212836864 : UInt32) (0x00000000 : UInt32)) CmpOp.g) < (0 : Int32))) => ?_)
            · have hq := hq.1 h85
              refine j_bipush C dX8_setRate_96 (-2 : Int32) (by decide) ?_
              have e9 : r_X8_setRate M w b = ((-2 : Int32), M) := by rw [r_X8_setRate, if_neg h6, if_neg h12, if_pos h22, if_neg h47, if_pos h68, if_pos h85]
              exact j_iret E dX8_setRate_98 (jD_i e9 (mW ca g))
            · have hq := hq.2 h85
              refine j_fload C dX8_setRate_88 rfl ?_
              refine j_fload C dX8_setRate_90 rfl ?_
              refine j_fcmp C dX8_setRate_92 ?_
              refine j_if_le (tgt := 99) C dX8_setRate_93 (by decide) (fun (h93 : (Op.cmpValue (FP.fcmp (3212836864 : UInt32) (1028443341 : UInt32)) CmpOp.l) ≤ (0 : Int32)) => ?_) (fun (h93 : ¬ ((Op.cmpValue (FP.fcmp (3212836864 : UInt32) (1028443341 : UInt32)) CmpOp.l) ≤ (0 : Int32))) => ?_)
              · have hq := hq.1 h93
                refine j_aload_n C dX8_setRate_99 rfl ?_
                refine j_get C f_X8_7.F 0 dX8_setRate_100 mW_0 rfl ?_
                refine j_iconst C dX8_setRate_103 (2 : Int32) (by decide) ?_
                refine j_iload_n C dX8_setRate_104 rfl ?_
                refine j_iadd C dX8_setRate_105 ?_
                obtain ⟨hv, hq⟩ := hq
                refine j_iald C 1 dX8_setRate_106 mW_1 hv ?_
                refine j_iload_n C dX8_setRate_107 rfl ?_
                refine j_icmp_ne (tgt := 114) C dX8_setRate_108 (by decide) (fun (h108 : ¬ ((M 0 ((2 : Int32) + w).toNatClampNeg) = b)) => ?_) (fun (h108 : (M 0 ((2 : Int32) + w).toNatClampNeg) = b) => ?_)
                · have hq := hq.2 h108
                  refine j_aload_n C dX8_setRate_114 rfl ?_
                  obtain ⟨hv, hq⟩ := hq
                  refine j_callVvW C g_X8_81 (c_X8_know l D ca g M hv) 0 mW_0 hcl_X8 ⟨Nat.le_of_ble_eq_true rfl, Nat.le_of_ble_eq_true rfl⟩ ⟨Nat.le_of_ble_eq_true rfl, Nat.le_of_ble_eq_true rfl⟩ rfl rfl (Nat.le_of_ble_eq_true rfl) dX8_setRate_115 fst_m ?_
                  refine j_aload_n C dX8_setRate_118 rfl ?_
                  refine j_get C f_X8_7.F 0 dX8_setRate_119 mW_0 rfl ?_
                  refine j_iconst C dX8_setRate_122 (2 : Int32) (by decide) ?_
                  refine j_iload_n C dX8_setRate_123 rfl ?_
                  refine j_iadd C dX8_setRate_124 ?_
                  refine j_iload_n C dX8_setRate_125 rfl ?_
                  obtain ⟨hv, hq⟩ := hq
                  refine j_iast C 1 dX8_setRate_126 mW_1 hv ?_
                  refine j_ws (ws' := (mW ca g (up2 (r_X8_know M) 0 (((2 : Int32) + w)).toNatClampNeg b))) fa_m_1 ?_
                  refine j_iconst C dX8_setRate_127 (1 : Int32) (by decide) ?_
                  have e9 : r_X8_setRate M w b = ((1 : Int32), (up2 (r_X8_know M) 0 (((2 : Int32) + w)).toNatClampNeg b)) := by rw [r_X8_setRate, if_neg h6, if_neg h12, if_pos h22, if_neg h47, if_pos h68, if_neg h85, if_pos h93, if_neg h108]
                  exact j_iret E dX8_setRate_128 (jD_i e9 (mW ca g))
                · have hq := hq.1 h108
                  refine j_bipush C dX8_setRate_111 (-5 : Int32) (by decide) ?_
                  have e9 : r_X8_setRate M w b = ((-5 : Int32), M) := by rw [r_X8_setRate, if_neg h6, if_neg h12, if_pos h22, if_neg h47, if_pos h68, if_neg h85, if_pos h93, if_pos h108]
                  exact j_iret E dX8_setRate_113 (jD_i e9 (mW ca g))
              · have hq := hq.2 h93
                refine j_bipush C dX8_setRate_96 (-2 : Int32) (by decide) ?_
                have e9 : r_X8_setRate M w b = ((-2 : Int32), M) := by rw [r_X8_setRate, if_neg h6, if_neg h12, if_pos h22, if_neg h47, if_pos h68, if_neg h85, if_neg h93]
                exact j_iret E dX8_setRate_98 (jD_i e9 (mW ca g))
        · have hq := hq.1 h47
          refine j_ldcf C q_685 dX8_setRate_50 ?_
          refine j_goto (tgt := 56) C dX8_setRate_52 (by decide) ?_
          refine j_fstore C [(5, _), (4, _), (3, _), (0, _), (1, _), (2, _)] dX8_setRate_56 (by decide) rfl ?_
          refine j_iload_n C dX8_setRate_58 rfl ?_
          refine j_if_ne (tgt := 66) C dX8_setRate_59 (by decide) (fun h => absurd h47 h) (fun _ => ?_)
          refine j_fconst1 C dX8_setRate_62 ?_
          refine j_goto (tgt := 78) C dX8_setRate_63 (by decide) ?_
          refine j_fstore C [(6, _), (5, _), (4, _), (3, _), (0, _), (1, _), (2, _)] dX8_setRate_78 (by decide) rfl ?_
          refine j_fload C dX8_setRate_80 rfl ?_
          refine j_fload C dX8_setRate_82 rfl ?_
          refine j_fcmp C dX8_setRate_84 ?_
          refine j_if_lt (tgt := 96) C dX8_setRate_85 (by decide) (fun (h85 : (Op.cmpValue (FP.fcmp (3212836864 : UInt32) (1036831949 : UInt32)) CmpOp.g) < (0 : Int32)) => ?_) (fun (h85 : ¬ ((Op.cmpValue (FP.fcmp (3212836864 : UInt32) (1036831949 : UInt32)) CmpOp.g) < (0 : Int32))) => ?_)
          · have hq := hq.1 h85
            refine j_bipush C dX8_setRate_96 (-2 : Int32) (by decide) ?_
            have e9 : r_X8_setRate M w b = ((-2 : Int32), M) := by rw [r_X8_setRate, if_neg h6, if_neg h12, if_pos h22, if_pos h47, if_pos h85]
            exact j_iret E dX8_setRate_98 (jD_i e9 (mW ca g))
          · have hq := hq.2 h85
            refine j_fload C dX8_setRate_88 rfl ?_
            refine j_fload C dX8_setRate_90 rfl ?_
            refine j_fcmp C dX8_setRate_92 ?_
            refine j_if_le (tgt := 99) C dX8_setRate_93 (by decide) (fun (h93 : (Op.cmpValue (FP.fcmp (3212836864 : UInt32) (0x3f800000 : UInt32)) CmpOp.l) ≤ (0 : Int32)) => ?_) (fun (h93 : ¬ ((Op.cmpValue (FP.fcmp (3212836864 : UInt32) (0x3f800000 : UInt32)) CmpOp.l) ≤ (0 : Int32))) => ?_)
            · have hq := hq.1 h93
              refine j_aload_n C dX8_setRate_99 rfl ?_
              refine j_get C f_X8_7.F 0 dX8_setRate_100 mW_0 rfl ?_
              refine j_iconst C dX8_setRate_103 (2 : Int32) (by decide) ?_
              refine j_iload_n C dX8_setRate_104 rfl ?_
              refine j_iadd C dX8_setRate_105 ?_
              obtain ⟨hv, hq⟩ := hq
              refine j_iald C 1 dX8_setRate_106 mW_1 hv ?_
              refine j_iload_n C dX8_setRate_107 rfl ?_
              refine j_icmp_ne (tgt := 114) C dX8_setRate_108 (by decide) (fun (h108 : ¬ ((M 0 ((2 : Int32) + w).toNatClampNeg) = b)) => ?_) (fun (h108 : (M 0 ((2 : Int32) + w).toNatClampNeg) = b) => ?_)
              · have hq := hq.2 h108
                refine j_aload_n C dX8_setRate_114 rfl ?_
                obtain ⟨hv, hq⟩ := hq
                refine j_callVvW C g_X8_81 (c_X8_know l D ca g M hv) 0 mW_0 hcl_X8 ⟨Nat.le_of_ble_eq_true rfl, Nat.le_of_ble_eq_true rfl⟩ ⟨Nat.le_of_ble_eq_true rfl, Nat.le_of_ble_eq_true rfl⟩ rfl rfl (Nat.le_of_ble_eq_true rfl) dX8_setRate_115 fst_m ?_
                refine j_aload_n C dX8_setRate_118 rfl ?_
                refine j_get C f_X8_7.F 0 dX8_setRate_119 mW_0 rfl ?_
                refine j_iconst C dX8_setRate_122 (2 : Int32) (by decide) ?_
                refine j_iload_n C dX8_setRate_123 rfl ?_
                refine j_iadd C dX8_setRate_124 ?_
                refine j_iload_n C dX8_setRate_125 rfl ?_
                obtain ⟨hv, hq⟩ := hq
                refine j_iast C 1 dX8_setRate_126 mW_1 hv ?_
                refine j_ws (ws' := (mW ca g (up2 (r_X8_know M) 0 (((2 : Int32) + w)).toNatClampNeg b))) fa_m_1 ?_
                refine j_iconst C dX8_setRate_127 (1 : Int32) (by decide) ?_
                have e9 : r_X8_setRate M w b = ((1 : Int32), (up2 (r_X8_know M) 0 (((2 : Int32) + w)).toNatClampNeg b)) := by rw [r_X8_setRate, if_neg h6, if_neg h12, if_pos h22, if_pos h47, if_neg h85, if_pos h93, if_neg h108]
                exact j_iret E dX8_setRate_128 (jD_i e9 (mW ca g))
              · have hq := hq.1 h108
                refine j_bipush C dX8_setRate_111 (-5 : Int32) (by decide) ?_
                have e9 : r_X8_setRate M w b = ((-5 : Int32), M) := by rw [r_X8_setRate, if_neg h6, if_neg h12, if_pos h22, if_pos h47, if_neg h85, if_pos h93, if_pos h108]
                exact j_iret E dX8_setRate_113 (jD_i e9 (mW ca g))
            · have hq := hq.2 h93
              refine j_bipush C dX8_setRate_96 (-2 : Int32) (by decide) ?_
              have e9 : r_X8_setRate M w b = ((-2 : Int32), M) := by rw [r_X8_setRate, if_neg h6, if_neg h12, if_pos h22, if_pos h47, if_neg h85, if_neg h93]
              exact j_iret E dX8_setRate_98 (jD_i e9 (mW ca g))
      · have hq := hq.2 h22
        refine j_iconst C dX8_setRate_25 (1 : Int32) (by decide) ?_
        refine j_goto (tgt := 30) C dX8_setRate_26 (by decide) ?_
        refine j_istore_n C [(3, _), (0, _), (1, _), (2, _)] dX8_setRate_30 (by decide) rfl ?_
        refine j_iload_n C dX8_setRate_31 rfl ?_
        refine j_if_eq (tgt := 42) C dX8_setRate_32 (by decide) (fun h => absurd h (by decide)) (fun _ => ?_)
        refine j_iload_n C dX8_setRate_35 rfl ?_
        obtain ⟨hv, hq⟩ := hq
        refine j_callSfR C g_X8_51 (c_X8_ofBits l D ca b hv) ⟨Nat.le_of_ble_eq_true rfl, Nat.le_of_ble_eq_true rfl⟩ ⟨Nat.le_of_ble_eq_true rfl, Nat.le_of_ble_eq_true rfl⟩ [] rfl rfl rfl rfl (Nat.le_of_ble_eq_true rfl) dX8_setRate_36 ?_
        refine j_goto (tgt := 44) C dX8_setRate_39 (by decide) ?_
        refine j_fstore C [(4, _), (3, _), (0, _), (1, _), (2, _)] dX8_setRate_44 (by decide) rfl ?_
        refine j_iload_n C dX8_setRate_46 rfl ?_
        refine j_if_ne (tgt := 55) C dX8_setRate_47 (by decide) (fun (h47 : ¬ (w = (0 : Int32))) => ?_) (fun (h47 : w = (0 : Int32)) => ?_)
        · have hq := hq.2 h47
          refine j_fconst0 C dX8_setRate_55 ?_
          refine j_fstore C [(5, _), (4, _), (3, _), (0, _), (1, _), (2, _)] dX8_setRate_56 (by decide) rfl ?_
          refine j_iload_n C dX8_setRate_58 rfl ?_
          refine j_if_ne (tgt := 66) C dX8_setRate_59 (by decide) (fun _ => ?_) (fun h => absurd h h47)
          refine j_iload_n C dX8_setRate_66 rfl ?_
          refine j_iconst C dX8_setRate_67 (1 : Int32) (by decide) ?_
          refine j_icmp_ne (tgt := 76) C dX8_setRate_68 (by decide) (fun (h68 : ¬ (w = (1 : Int32))) => ?_) (fun (h68 : w = (1 : Int32)) => ?_)
          · have hq := hq.2 h68
            refine j_ldcf C q_683 dX8_setRate_76 ?_
            refine j_fstore C [(6, _), (5, _), (4, _), (3, _), (0, _), (1, _), (2, _)] dX8_setRate_78 (by decide) rfl ?_
            refine j_fload C dX8_setRate_80 rfl ?_
            refine j_fload C dX8_setRate_82 rfl ?_
            refine j_fcmp C dX8_setRate_84 ?_
            refine j_if_lt (tgt := 96) C dX8_setRate_85 (by decide) (fun (h85 : (Op.cmpValue (FP.fcmp (r_X8_ofBits b) (0x00000000 : UInt32)) CmpOp.g) < (0 : Int32)) => ?_) (fun (h85 : ¬ ((Op.cmpValue (FP.fcmp (r_X8_ofBits b) (0x00000000 : UInt32)) CmpOp.g) < (0 : Int32))) => ?_)
            · have hq := hq.1 h85
              refine j_bipush C dX8_setRate_96 (-2 : Int32) (by decide) ?_
              have e9 : r_X8_setRate M w b = ((-2 : Int32), M) := by rw [r_X8_setRate, if_neg h6, if_neg h12, if_neg h22, if_neg h47, if_neg h68, if_pos h85]
              exact j_iret E dX8_setRate_98 (jD_i e9 (mW ca g))
            · have hq := hq.2 h85
              refine j_fload C dX8_setRate_88 rfl ?_
              refine j_fload C dX8_setRate_90 rfl ?_
              refine j_fcmp C dX8_setRate_92 ?_
              refine j_if_le (tgt := 99) C dX8_setRate_93 (by decide) (fun (h93 : (Op.cmpValue (FP.fcmp (r_X8_ofBits b) (1056964608 : UInt32)) CmpOp.l) ≤ (0 : Int32)) => ?_) (fun (h93 : ¬ ((Op.cmpValue (FP.fcmp (r_X8_ofBits b) (1056964608 : UInt32)) CmpOp.l) ≤ (0 : Int32))) => ?_)
              · have hq := hq.1 h93
                refine j_aload_n C dX8_setRate_99 rfl ?_
                refine j_get C f_X8_7.F 0 dX8_setRate_100 mW_0 rfl ?_
                refine j_iconst C dX8_setRate_103 (2 : Int32) (by decide) ?_
                refine j_iload_n C dX8_setRate_104 rfl ?_
                refine j_iadd C dX8_setRate_105 ?_
                obtain ⟨hv, hq⟩ := hq
                refine j_iald C 1 dX8_setRate_106 mW_1 hv ?_
                refine j_iload_n C dX8_setRate_107 rfl ?_
                refine j_icmp_ne (tgt := 114) C dX8_setRate_108 (by decide) (fun (h108 : ¬ ((M 0 ((2 : Int32) + w).toNatClampNeg) = b)) => ?_) (fun (h108 : (M 0 ((2 : Int32) + w).toNatClampNeg) = b) => ?_)
                · have hq := hq.2 h108
                  refine j_aload_n C dX8_setRate_114 rfl ?_
                  obtain ⟨hv, hq⟩ := hq
                  refine j_callVvW C g_X8_81 (c_X8_know l D ca g M hv) 0 mW_0 hcl_X8 ⟨Nat.le_of_ble_eq_true rfl, Nat.le_of_ble_eq_true rfl⟩ ⟨Nat.le_of_ble_eq_true rfl, Nat.le_of_ble_eq_true rfl⟩ rfl rfl (Nat.le_of_ble_eq_true rfl) dX8_setRate_115 fst_m ?_
                  refine j_aload_n C dX8_setRate_118 rfl ?_
                  refine j_get C f_X8_7.F 0 dX8_setRate_119 mW_0 rfl ?_
                  refine j_iconst C dX8_setRate_122 (2 : Int32) (by decide) ?_
                  refine j_iload_n C dX8_setRate_123 rfl ?_
                  refine j_iadd C dX8_setRate_124 ?_
                  refine j_iload_n C dX8_setRate_125 rfl ?_
                  obtain ⟨hv, hq⟩ := hq
                  refine j_iast C 1 dX8_setRate_126 mW_1 hv ?_
                  refine j_ws (ws' := (mW ca g (up2 (r_X8_know M) 0 (((2 : Int32) + w)).toNatClampNeg b))) fa_m_1 ?_
                  refine j_iconst C dX8_setRate_127 (1 : Int32) (by decide) ?_
                  have e9 : r_X8_setRate M w b = ((1 : Int32), (up2 (r_X8_know M) 0 (((2 : Int32) + w)).toNatClampNeg b)) := by rw [r_X8_setRate, if_neg h6, if_neg h12, if_neg h22, if_neg h47, if_neg h68, if_neg h85, if_pos h93, if_neg h108]
                  exact j_iret E dX8_setRate_128 (jD_i e9 (mW ca g))
                · have hq := hq.1 h108
                  refine j_bipush C dX8_setRate_111 (-5 : Int32) (by decide) ?_
                  have e9 : r_X8_setRate M w b = ((-5 : Int32), M) := by rw [r_X8_setRate, if_neg h6, if_neg h12, if_neg h22, if_neg h47, if_neg h68, if_neg h85, if_pos h93, if_pos h108]
                  exact j_iret E dX8_setRate_113 (jD_i e9 (mW ca g))
              · have hq := hq.2 h93
                refine j_bipush C dX8_setRate_96 (-2 : Int32) (by decide) ?_
                have e9 : r_X8_setRate M w b = ((-2 : Int32), M) := by rw [r_X8_setRate, if_neg h6, if_neg h12, if_neg h22, if_neg h47, if_neg h68, if_neg h85, if_neg h93]
                exact j_iret E dX8_setRate_98 (jD_i e9 (mW ca g))
          · have hq := hq.1 h68
            refine j_ldcf C q_686 dX8_setRate_71 ?_
            refine j_goto (tgt := 78) C dX8_setRate_73 (by decide) ?_
            refine j_fstore C [(6, _), (5, _), (4, _), (3, _), (0, _), (1, _), (2, _)] dX8_setRate_78 (by decide) rfl ?_
            refine j_fload C dX8_setRate_80 rfl ?_
            refine j_fload C dX8_setRate_82 rfl ?_
            refine j_fcmp C dX8_setRate_84 ?_
            refine j_if_lt (tgt := 96) C dX8_setRate_85 (by decide) (fun (h85 : (Op.cmpValue (FP.fcmp (r_X8_ofBits b) (0x00000000 : UInt32)) CmpOp.g) < (0 : Int32)) => ?_) (fun (h85 : ¬ ((Op.cmpValue (FP.fcmp (r_X8_ofBits b) (0x00000000 : UInt32)) CmpOp.g) < (0 : Int32))) => ?_)
            · have hq := hq.1 h85
              refine j_bipush C dX8_setRate_96 (-2 : Int32) (by decide) ?_
              have e9 : r_X8_setRate M w b = ((-2 : Int32), M) := by rw [r_X8_setRate, if_neg h6, if_neg h12, if_neg h22, if_neg h47, if_pos h68, if_pos h85]
              exact j_iret E dX8_setRate_98 (jD_i e9 (mW ca g))
            · have hq := hq.2 h85
              refine j_fload C dX8_setRate_88 rfl ?_
              refine j_fload C dX8_setRate_90 rfl ?_
              refine j_fcmp C dX8_setRate_92 ?_
              refine j_if_le (tgt := 99) C dX8_setRate_93 (by decide) (fun (h93 : (Op.cmpValue (FP.fcmp (r_X8_ofBits b) (1028443341 : UInt32)) CmpOp.l) ≤ (0 : Int32)) => ?_) (fun (h93 : ¬ ((Op.cmpValue (FP.fcmp (r_X8_ofBits b) (1028443341 : UInt32)) CmpOp.l) ≤ (0 : Int32))) => ?_)
              · have hq := hq.1 h93
                refine j_aload_n C dX8_setRate_99 rfl ?_
                refine j_get C f_X8_7.F 0 dX8_setRate_100 mW_0 rfl ?_
                refine j_iconst C dX8_setRate_103 (2 : Int32) (by decide) ?_
                refine j_iload_n C dX8_setRate_104 rfl ?_
                refine j_iadd C dX8_setRate_105 ?_
                obtain ⟨hv, hq⟩ := hq
                refine j_iald C 1 dX8_setRate_106 mW_1 hv ?_
                refine j_iload_n C dX8_setRate_107 rfl ?_
                refine j_icmp_ne (tgt := 114) C dX8_setRate_108 (by decide) (fun (h108 : ¬ ((M 0 ((2 : Int32) + w).toNatClampNeg) = b)) => ?_) (fun (h108 : (M 0 ((2 : Int32) + w).toNatClampNeg) = b) => ?_)
                · have hq := hq.2 h108
                  refine j_aload_n C dX8_setRate_114 rfl ?_
                  obtain ⟨hv, hq⟩ := hq
                  refine j_callVvW C g_X8_81 (c_X8_know l D ca g M hv) 0 mW_0 hcl_X8 ⟨Nat.le_of_ble_eq_true rfl, Nat.le_of_ble_eq_true rfl⟩ ⟨Nat.le_of_ble_eq_true rfl, Nat.le_of_ble_eq_true rfl⟩ rfl rfl (Nat.le_of_ble_eq_true rfl) dX8_setRate_115 fst_m ?_
                  refine j_aload_n C dX8_setRate_118 rfl ?_
                  refine j_get C f_X8_7.F 0 dX8_setRate_119 mW_0 rfl ?_
                  refine j_iconst C dX8_setRate_122 (2 : Int32) (by decide) ?_
                  refine j_iload_n C dX8_setRate_123 rfl ?_
                  refine j_iadd C dX8_setRate_124 ?_
                  refine j_iload_n C dX8_setRate_125 rfl ?_
                  obtain ⟨hv, hq⟩ := hq
                  refine j_iast C 1 dX8_setRate_126 mW_1 hv ?_
                  refine j_ws (ws' := (mW ca g (up2 (r_X8_know M) 0 (((2 : Int32) + w)).toNatClampNeg b))) fa_m_1 ?_
                  refine j_iconst C dX8_setRate_127 (1 : Int32) (by decide) ?_
                  have e9 : r_X8_setRate M w b = ((1 : Int32), (up2 (r_X8_know M) 0 (((2 : Int32) + w)).toNatClampNeg b)) := by rw [r_X8_setRate, if_neg h6, if_neg h12, if_neg h22, if_neg h47, if_pos h68, if_neg h85, if_pos h93, if_neg h108]
                  exact j_iret E dX8_setRate_128 (jD_i e9 (mW ca g))
                · have hq := hq.1 h108
                  refine j_bipush C dX8_setRate_111 (-5 : Int32) (by decide) ?_
                  have e9 : r_X8_setRate M w b = ((-5 : Int32), M) := by rw [r_X8_setRate, if_neg h6, if_neg h12, if_neg h22, if_neg h47, if_pos h68, if_neg h85, if_pos h93, if_pos h108]
                  exact j_iret E dX8_setRate_113 (jD_i e9 (mW ca g))
              · have hq := hq.2 h93
                refine j_bipush C dX8_setRate_96 (-2 : Int32) (by decide) ?_
                have e9 : r_X8_setRate M w b = ((-2 : Int32), M) := by rw [r_X8_setRate, if_neg h6, if_neg h12, if_neg h22, if_neg h47, if_pos h68, if_neg h85, if_neg h93]
                exact j_iret E dX8_setRate_98 (jD_i e9 (mW ca g))
        · have hq := hq.1 h47
          refine j_ldcf C q_685 dX8_setRate_50 ?_
          refine j_goto (tgt := 56) C dX8_setRate_52 (by decide) ?_
          refine j_fstore C [(5, _), (4, _), (3, _), (0, _), (1, _), (2, _)] dX8_setRate_56 (by decide) rfl ?_
          refine j_iload_n C dX8_setRate_58 rfl ?_
          refine j_if_ne (tgt := 66) C dX8_setRate_59 (by decide) (fun h => absurd h47 h) (fun _ => ?_)
          refine j_fconst1 C dX8_setRate_62 ?_
          refine j_goto (tgt := 78) C dX8_setRate_63 (by decide) ?_
          refine j_fstore C [(6, _), (5, _), (4, _), (3, _), (0, _), (1, _), (2, _)] dX8_setRate_78 (by decide) rfl ?_
          refine j_fload C dX8_setRate_80 rfl ?_
          refine j_fload C dX8_setRate_82 rfl ?_
          refine j_fcmp C dX8_setRate_84 ?_
          refine j_if_lt (tgt := 96) C dX8_setRate_85 (by decide) (fun (h85 : (Op.cmpValue (FP.fcmp (r_X8_ofBits b) (1036831949 : UInt32)) CmpOp.g) < (0 : Int32)) => ?_) (fun (h85 : ¬ ((Op.cmpValue (FP.fcmp (r_X8_ofBits b) (1036831949 : UInt32)) CmpOp.g) < (0 : Int32))) => ?_)
          · have hq := hq.1 h85
            refine j_bipush C dX8_setRate_96 (-2 : Int32) (by decide) ?_
            have e9 : r_X8_setRate M w b = ((-2 : Int32), M) := by rw [r_X8_setRate, if_neg h6, if_neg h12, if_neg h22, if_pos h47, if_pos h85]
            exact j_iret E dX8_setRate_98 (jD_i e9 (mW ca g))
          · have hq := hq.2 h85
            refine j_fload C dX8_setRate_88 rfl ?_
            refine j_fload C dX8_setRate_90 rfl ?_
            refine j_fcmp C dX8_setRate_92 ?_
            refine j_if_le (tgt := 99) C dX8_setRate_93 (by decide) (fun (h93 : (Op.cmpValue (FP.fcmp (r_X8_ofBits b) (0x3f800000 : UInt32)) CmpOp.l) ≤ (0 : Int32)) => ?_) (fun (h93 : ¬ ((Op.cmpValue (FP.fcmp (r_X8_ofBits b) (0x3f800000 : UInt32)) CmpOp.l) ≤ (0 : Int32))) => ?_)
            · have hq := hq.1 h93
              refine j_aload_n C dX8_setRate_99 rfl ?_
              refine j_get C f_X8_7.F 0 dX8_setRate_100 mW_0 rfl ?_
              refine j_iconst C dX8_setRate_103 (2 : Int32) (by decide) ?_
              refine j_iload_n C dX8_setRate_104 rfl ?_
              refine j_iadd C dX8_setRate_105 ?_
              obtain ⟨hv, hq⟩ := hq
              refine j_iald C 1 dX8_setRate_106 mW_1 hv ?_
              refine j_iload_n C dX8_setRate_107 rfl ?_
              refine j_icmp_ne (tgt := 114) C dX8_setRate_108 (by decide) (fun (h108 : ¬ ((M 0 ((2 : Int32) + w).toNatClampNeg) = b)) => ?_) (fun (h108 : (M 0 ((2 : Int32) + w).toNatClampNeg) = b) => ?_)
              · have hq := hq.2 h108
                refine j_aload_n C dX8_setRate_114 rfl ?_
                obtain ⟨hv, hq⟩ := hq
                refine j_callVvW C g_X8_81 (c_X8_know l D ca g M hv) 0 mW_0 hcl_X8 ⟨Nat.le_of_ble_eq_true rfl, Nat.le_of_ble_eq_true rfl⟩ ⟨Nat.le_of_ble_eq_true rfl, Nat.le_of_ble_eq_true rfl⟩ rfl rfl (Nat.le_of_ble_eq_true rfl) dX8_setRate_115 fst_m ?_
                refine j_aload_n C dX8_setRate_118 rfl ?_
                refine j_get C f_X8_7.F 0 dX8_setRate_119 mW_0 rfl ?_
                refine j_iconst C dX8_setRate_122 (2 : Int32) (by decide) ?_
                refine j_iload_n C dX8_setRate_123 rfl ?_
                refine j_iadd C dX8_setRate_124 ?_
                refine j_iload_n C dX8_setRate_125 rfl ?_
                obtain ⟨hv, hq⟩ := hq
                refine j_iast C 1 dX8_setRate_126 mW_1 hv ?_
                refine j_ws (ws' := (mW ca g (up2 (r_X8_know M) 0 (((2 : Int32) + w)).toNatClampNeg b))) fa_m_1 ?_
                refine j_iconst C dX8_setRate_127 (1 : Int32) (by decide) ?_
                have e9 : r_X8_setRate M w b = ((1 : Int32), (up2 (r_X8_know M) 0 (((2 : Int32) + w)).toNatClampNeg b)) := by rw [r_X8_setRate, if_neg h6, if_neg h12, if_neg h22, if_pos h47, if_neg h85, if_pos h93, if_neg h108]
                exact j_iret E dX8_setRate_128 (jD_i e9 (mW ca g))
              · have hq := hq.1 h108
                refine j_bipush C dX8_setRate_111 (-5 : Int32) (by decide) ?_
                have e9 : r_X8_setRate M w b = ((-5 : Int32), M) := by rw [r_X8_setRate, if_neg h6, if_neg h12, if_neg h22, if_pos h47, if_neg h85, if_pos h93, if_pos h108]
                exact j_iret E dX8_setRate_113 (jD_i e9 (mW ca g))
            · have hq := hq.2 h93
              refine j_bipush C dX8_setRate_96 (-2 : Int32) (by decide) ?_
              have e9 : r_X8_setRate M w b = ((-2 : Int32), M) := by rw [r_X8_setRate, if_neg h6, if_neg h12, if_neg h22, if_pos h47, if_neg h85, if_neg h93]
              exact j_iret E dX8_setRate_98 (jD_i e9 (mW ca g))
  · have hq := hq.1 h6
    refine j_iconst C dX8_setRate_9 (-1 : Int32) (by decide) ?_
    have e9 : r_X8_setRate M w b = ((-1 : Int32), M) := by rw [r_X8_setRate, if_pos h6]
    exact j_iret E dX8_setRate_10 (jD_i e9 (mW ca g))


def r_X8_setNumber (M : jB) (w : Int32) (v : Int32) : Int32 × jB := (if (r_X8_in w (0 : Int32) (2 : Int32)) = (0 : Int32) then ((-1 : Int32), M) else (if w = (2 : Int32) then (if (r_X8_in v (1 : Int32) (365 : Int32)) = (0 : Int32) then ((-2 : Int32), M) else (if (M 0 ((5 : Int32) + w).toNatClampNeg) = v then ((-5 : Int32), M) else ((M 0 ((5 : Int32) + w).toNatClampNeg), (up2 (r_X8_know M) 0 (((5 : Int32) + w)).toNatClampNeg v)))) else (if (r_X8_in v (0 : Int32) (90 : Int32)) = (0 : Int32) then ((-2 : Int32), M) else (if (M 0 ((5 : Int32) + w).toNatClampNeg) = v then ((-5 : Int32), M) else ((M 0 ((5 : Int32) + w).toNatClampNeg), (up2 (r_X8_know M) 0 (((5 : Int32) + w)).toNatClampNeg v))))))
def n_X8_setNumber (M : jB) (w : Int32) (v : Int32) : Prop := (((r_X8_in w (0 : Int32) (2 : Int32)) = (0 : Int32) → True) ∧ (¬ ((r_X8_in w (0 : Int32) (2 : Int32)) = (0 : Int32)) → ((w = (2 : Int32) → (((r_X8_in v (1 : Int32) (365 : Int32)) = (0 : Int32) → True) ∧ (¬ ((r_X8_in v (1 : Int32) (365 : Int32)) = (0 : Int32)) → (vp_in ((5 : Int32) + w) 204 ∧ (((M 0 ((5 : Int32) + w).toNatClampNeg) = v → True) ∧ (¬ ((M 0 ((5 : Int32) + w).toNatClampNeg) = v) → ((n_X8_know M) ∧ (vp_in ((5 : Int32) + w) 204 ∧ True)))))))) ∧ (¬ (w = (2 : Int32)) → (((r_X8_in v (0 : Int32) (90 : Int32)) = (0 : Int32) → True) ∧ (¬ ((r_X8_in v (0 : Int32) (90 : Int32)) = (0 : Int32)) → (vp_in ((5 : Int32) + w) 204 ∧ (((M 0 ((5 : Int32) + w).toNatClampNeg) = v → True) ∧ (¬ ((M 0 ((5 : Int32) + w).toNatClampNeg) = v) → ((n_X8_know M) ∧ (vp_in ((5 : Int32) + w) 204 ∧ True)))))))))))
set_option maxRecDepth 100000 in
set_option maxHeartbeats 4000000 in
theorem c_X8_setNumber (l : Launch) (D : va_G) (ca : Nat → ClassId) (g : Nat → Nat) (M : jB) (w : Int32) (v : Int32) (hq : n_X8_setNumber M w v) : jM l D ca yX8_setNumber cX8_setNumber 4 (some .int) 1 22 0 0 [.ref (g 0), .int w, .int v] (mW ca g M) (jD (some (.int (r_X8_setNumber M w v).1)) (mW ca g ((r_X8_setNumber M w v).2))) := by
  refine jM_of [(0, .ref (g 0)), (1, .int w), (2, .int v)] (by decide) (Nat.le_of_ble_eq_true rfl) rfl (fun X C E => ?_)
  rw [n_X8_setNumber] at hq
  refine j_iload_n C dX8_setNumber_0 rfl ?_
  refine j_iconst C dX8_setNumber_1 (0 : Int32) (by decide) ?_
  refine j_iconst C dX8_setNumber_2 (2 : Int32) (by decide) ?_
  refine j_callSiR C g_X8_38 (c_X8_in l D ca w (0 : Int32) (2 : Int32)) ⟨Nat.le_of_ble_eq_true rfl, Nat.le_of_ble_eq_true rfl⟩ ⟨Nat.le_of_ble_eq_true rfl, Nat.le_of_ble_eq_true rfl⟩ [] rfl rfl rfl rfl (Nat.le_of_ble_eq_true rfl) dX8_setNumber_3 ?_
  refine j_if_ne (tgt := 11) C dX8_setNumber_6 (by decide) (fun (h6 : ¬ ((r_X8_in w (0 : Int32) (2 : Int32)) = (0 : Int32))) => ?_) (fun (h6 : (r_X8_in w (0 : Int32) (2 : Int32)) = (0 : Int32)) => ?_)
  · have hq := hq.2 h6
    refine j_iload_n C dX8_setNumber_11 rfl ?_
    refine j_iload_n C dX8_setNumber_12 rfl ?_
    refine j_iconst C dX8_setNumber_13 (2 : Int32) (by decide) ?_
    refine j_icmp_ne (tgt := 21) C dX8_setNumber_14 (by decide) (fun (h14 : ¬ (w = (2 : Int32))) => ?_) (fun (h14 : w = (2 : Int32)) => ?_)
    · have hq := hq.2 h14
      refine j_iconst C dX8_setNumber_21 (0 : Int32) (by decide) ?_
      refine j_iload_n C dX8_setNumber_22 rfl ?_
      refine j_iconst C dX8_setNumber_23 (2 : Int32) (by decide) ?_
      refine j_icmp_ne (tgt := 33) C dX8_setNumber_24 (by decide) (fun _ => ?_) (fun h => absurd h h14)
      refine j_bipush C dX8_setNumber_33 (90 : Int32) (by decide) ?_
      refine j_callSiR C g_X8_38 (c_X8_in l D ca v (0 : Int32) (90 : Int32)) ⟨Nat.le_of_ble_eq_true rfl, Nat.le_of_ble_eq_true rfl⟩ ⟨Nat.le_of_ble_eq_true rfl, Nat.le_of_ble_eq_true rfl⟩ [] rfl rfl rfl rfl (Nat.le_of_ble_eq_true rfl) dX8_setNumber_35 ?_
      refine j_if_ne (tgt := 44) C dX8_setNumber_38 (by decide) (fun (h38 : ¬ ((r_X8_in v (0 : Int32) (90 : Int32)) = (0 : Int32))) => ?_) (fun (h38 : (r_X8_in v (0 : Int32) (90 : Int32)) = (0 : Int32)) => ?_)
      · have hq := hq.2 h38
        refine j_aload_n C dX8_setNumber_44 rfl ?_
        refine j_get C f_X8_7.F 0 dX8_setNumber_45 mW_0 rfl ?_
        refine j_iconst C dX8_setNumber_48 (5 : Int32) (by decide) ?_
        refine j_iload_n C dX8_setNumber_49 rfl ?_
        refine j_iadd C dX8_setNumber_50 ?_
        obtain ⟨hv, hq⟩ := hq
        refine j_iald C 1 dX8_setNumber_51 mW_1 hv ?_
        refine j_istore_n C [(3, _), (0, _), (1, _), (2, _)] dX8_setNumber_52 (by decide) rfl ?_
        refine j_iload_n C dX8_setNumber_53 rfl ?_
        refine j_iload_n C dX8_setNumber_54 rfl ?_
        refine j_icmp_ne (tgt := 61) C dX8_setNumber_55 (by decide) (fun (h55 : ¬ ((M 0 ((5 : Int32) + w).toNatClampNeg) = v)) => ?_) (fun (h55 : (M 0 ((5 : Int32) + w).toNatClampNeg) = v) => ?_)
        · have hq := hq.2 h55
          refine j_aload_n C dX8_setNumber_61 rfl ?_
          obtain ⟨hv, hq⟩ := hq
          refine j_callVvW C g_X8_81 (c_X8_know l D ca g M hv) 0 mW_0 hcl_X8 ⟨Nat.le_of_ble_eq_true rfl, Nat.le_of_ble_eq_true rfl⟩ ⟨Nat.le_of_ble_eq_true rfl, Nat.le_of_ble_eq_true rfl⟩ rfl rfl (Nat.le_of_ble_eq_true rfl) dX8_setNumber_62 fst_m ?_
          refine j_aload_n C dX8_setNumber_65 rfl ?_
          refine j_get C f_X8_7.F 0 dX8_setNumber_66 mW_0 rfl ?_
          refine j_iconst C dX8_setNumber_69 (5 : Int32) (by decide) ?_
          refine j_iload_n C dX8_setNumber_70 rfl ?_
          refine j_iadd C dX8_setNumber_71 ?_
          refine j_iload_n C dX8_setNumber_72 rfl ?_
          obtain ⟨hv, hq⟩ := hq
          refine j_iast C 1 dX8_setNumber_73 mW_1 hv ?_
          refine j_ws (ws' := (mW ca g (up2 (r_X8_know M) 0 (((5 : Int32) + w)).toNatClampNeg v))) fa_m_1 ?_
          refine j_iload_n C dX8_setNumber_74 rfl ?_
          have e9 : r_X8_setNumber M w v = ((M 0 ((5 : Int32) + w).toNatClampNeg), (up2 (r_X8_know M) 0 (((5 : Int32) + w)).toNatClampNeg v)) := by rw [r_X8_setNumber, if_neg h6, if_neg h14, if_neg h38, if_neg h55]
          exact j_iret E dX8_setNumber_75 (jD_i e9 (mW ca g))
        · have hq := hq.1 h55
          refine j_bipush C dX8_setNumber_58 (-5 : Int32) (by decide) ?_
          have e9 : r_X8_setNumber M w v = ((-5 : Int32), M) := by rw [r_X8_setNumber, if_neg h6, if_neg h14, if_neg h38, if_pos h55]
          exact j_iret E dX8_setNumber_60 (jD_i e9 (mW ca g))
      · have hq := hq.1 h38
        refine j_bipush C dX8_setNumber_41 (-2 : Int32) (by decide) ?_
        have e9 : r_X8_setNumber M w v = ((-2 : Int32), M) := by rw [r_X8_setNumber, if_neg h6, if_neg h14, if_pos h38]
        exact j_iret E dX8_setNumber_43 (jD_i e9 (mW ca g))
    · have hq := hq.1 h14
      refine j_iconst C dX8_setNumber_17 (1 : Int32) (by decide) ?_
      refine j_goto (tgt := 22) C dX8_setNumber_18 (by decide) ?_
      refine j_iload_n C dX8_setNumber_22 rfl ?_
      refine j_iconst C dX8_setNumber_23 (2 : Int32) (by decide) ?_
      refine j_icmp_ne (tgt := 33) C dX8_setNumber_24 (by decide) (fun h => absurd h14 h) (fun _ => ?_)
      refine j_sipush C dX8_setNumber_27 (365 : Int32) (by decide) ?_
      refine j_goto (tgt := 35) C dX8_setNumber_30 (by decide) ?_
      refine j_callSiR C g_X8_38 (c_X8_in l D ca v (1 : Int32) (365 : Int32)) ⟨Nat.le_of_ble_eq_true rfl, Nat.le_of_ble_eq_true rfl⟩ ⟨Nat.le_of_ble_eq_true rfl, Nat.le_of_ble_eq_true rfl⟩ [] rfl rfl rfl rfl (Nat.le_of_ble_eq_true rfl) dX8_setNumber_35 ?_
      refine j_if_ne (tgt := 44) C dX8_setNumber_38 (by decide) (fun (h38 : ¬ ((r_X8_in v (1 : Int32) (365 : Int32)) = (0 : Int32))) => ?_) (fun (h38 : (r_X8_in v (1 : Int32) (365 : Int32)) = (0 : Int32)) => ?_)
      · have hq := hq.2 h38
        refine j_aload_n C dX8_setNumber_44 rfl ?_
        refine j_get C f_X8_7.F 0 dX8_setNumber_45 mW_0 rfl ?_
        refine j_iconst C dX8_setNumber_48 (5 : Int32) (by decide) ?_
        refine j_iload_n C dX8_setNumber_49 rfl ?_
        refine j_iadd C dX8_setNumber_50 ?_
        obtain ⟨hv, hq⟩ := hq
        refine j_iald C 1 dX8_setNumber_51 mW_1 hv ?_
        refine j_istore_n C [(3, _), (0, _), (1, _), (2, _)] dX8_setNumber_52 (by decide) rfl ?_
        refine j_iload_n C dX8_setNumber_53 rfl ?_
        refine j_iload_n C dX8_setNumber_54 rfl ?_
        refine j_icmp_ne (tgt := 61) C dX8_setNumber_55 (by decide) (fun (h55 : ¬ ((M 0 ((5 : Int32) + w).toNatClampNeg) = v)) => ?_) (fun (h55 : (M 0 ((5 : Int32) + w).toNatClampNeg) = v) => ?_)
        · have hq := hq.2 h55
          refine j_aload_n C dX8_setNumber_61 rfl ?_
          obtain ⟨hv, hq⟩ := hq
          refine j_callVvW C g_X8_81 (c_X8_know l D ca g M hv) 0 mW_0 hcl_X8 ⟨Nat.le_of_ble_eq_true rfl, Nat.le_of_ble_eq_true rfl⟩ ⟨Nat.le_of_ble_eq_true rfl, Nat.le_of_ble_eq_true rfl⟩ rfl rfl (Nat.le_of_ble_eq_true rfl) dX8_setNumber_62 fst_m ?_
          refine j_aload_n C dX8_setNumber_65 rfl ?_
          refine j_get C f_X8_7.F 0 dX8_setNumber_66 mW_0 rfl ?_
          refine j_iconst C dX8_setNumber_69 (5 : Int32) (by decide) ?_
          refine j_iload_n C dX8_setNumber_70 rfl ?_
          refine j_iadd C dX8_setNumber_71 ?_
          refine j_iload_n C dX8_setNumber_72 rfl ?_
          obtain ⟨hv, hq⟩ := hq
          refine j_iast C 1 dX8_setNumber_73 mW_1 hv ?_
          refine j_ws (ws' := (mW ca g (up2 (r_X8_know M) 0 (((5 : Int32) + w)).toNatClampNeg v))) fa_m_1 ?_
          refine j_iload_n C dX8_setNumber_74 rfl ?_
          have e9 : r_X8_setNumber M w v = ((M 0 ((5 : Int32) + w).toNatClampNeg), (up2 (r_X8_know M) 0 (((5 : Int32) + w)).toNatClampNeg v)) := by rw [r_X8_setNumber, if_neg h6, if_pos h14, if_neg h38, if_neg h55]
          exact j_iret E dX8_setNumber_75 (jD_i e9 (mW ca g))
        · have hq := hq.1 h55
          refine j_bipush C dX8_setNumber_58 (-5 : Int32) (by decide) ?_
          have e9 : r_X8_setNumber M w v = ((-5 : Int32), M) := by rw [r_X8_setNumber, if_neg h6, if_pos h14, if_neg h38, if_pos h55]
          exact j_iret E dX8_setNumber_60 (jD_i e9 (mW ca g))
      · have hq := hq.1 h38
        refine j_bipush C dX8_setNumber_41 (-2 : Int32) (by decide) ?_
        have e9 : r_X8_setNumber M w v = ((-2 : Int32), M) := by rw [r_X8_setNumber, if_neg h6, if_pos h14, if_pos h38]
        exact j_iret E dX8_setNumber_43 (jD_i e9 (mW ca g))
  · have hq := hq.1 h6
    refine j_iconst C dX8_setNumber_9 (-1 : Int32) (by decide) ?_
    have e9 : r_X8_setNumber M w v = ((-1 : Int32), M) := by rw [r_X8_setNumber, if_pos h6]
    exact j_iret E dX8_setNumber_10 (jD_i e9 (mW ca g))


def z_X8_addMember_0 (M : jB) (w : Int32) : jB := (up2 (r_X8_know M) 0 ((r_X8_ofMember ((r_X8_know M) 0 (8 : Int32).toNatClampNeg) (0 : Int32))).toNatClampNeg w)
def z_X8_addMember_1 (M : jB) (w : Int32) : jB := (up2 (z_X8_addMember_0 M w) 0 ((r_X8_ofMember ((r_X8_know M) 0 (8 : Int32).toNatClampNeg) (1 : Int32))).toNatClampNeg (0 : Int32))
def z_X8_addMember_2 (M : jB) (w : Int32) : jB := (up2 (z_X8_addMember_1 M w) 0 ((r_X8_ofMember ((r_X8_know M) 0 (8 : Int32).toNatClampNeg) (2 : Int32))).toNatClampNeg (0 : Int32))
def z_X8_addMember_3 (M : jB) (w : Int32) : jB := (up2 (z_X8_addMember_2 M w) 0 ((r_X8_ofMember ((r_X8_know M) 0 (8 : Int32).toNatClampNeg) (3 : Int32))).toNatClampNeg (0 : Int32))
def z_X8_addMember_4 (M : jB) (w : Int32) : jB := (up2 (z_X8_addMember_3 M w) 0 ((8 : Int32)).toNatClampNeg (((z_X8_addMember_3 M w) 0 (8 : Int32).toNatClampNeg) + (1 : Int32)))
def r_X8_addMember (M : jB) (w : Int32) : Int32 × jB := (if (r_X8_in w (1 : Int32) (9 : Int32)) = (0 : Int32) then ((-2 : Int32), M) else (if (M 0 (8 : Int32).toNatClampNeg) = (8 : Int32) then ((-3 : Int32), M) else (((r_X8_know M) 0 (8 : Int32).toNatClampNeg), (z_X8_addMember_4 M w))))
def n_X8_addMember (M : jB) (w : Int32) : Prop := (((r_X8_in w (1 : Int32) (9 : Int32)) = (0 : Int32) → True) ∧ (¬ ((r_X8_in w (1 : Int32) (9 : Int32)) = (0 : Int32)) → (((M 0 (8 : Int32).toNatClampNeg) = (8 : Int32) → True) ∧ (¬ ((M 0 (8 : Int32).toNatClampNeg) = (8 : Int32)) → ((n_X8_know M) ∧ (vp_in (r_X8_ofMember ((r_X8_know M) 0 (8 : Int32).toNatClampNeg) (0 : Int32)) 204 ∧ (vp_in (r_X8_ofMember ((r_X8_know M) 0 (8 : Int32).toNatClampNeg) (1 : Int32)) 204 ∧ (vp_in (r_X8_ofMember ((r_X8_know M) 0 (8 : Int32).toNatClampNeg) (2 : Int32)) 204 ∧ (vp_in (r_X8_ofMember ((r_X8_know M) 0 (8 : Int32).toNatClampNeg) (3 : Int32)) 204 ∧ True)))))))))
set_option maxRecDepth 100000 in
set_option maxHeartbeats 4000000 in
theorem c_X8_addMember (l : Launch) (D : va_G) (ca : Nat → ClassId) (g : Nat → Nat) (M : jB) (w : Int32) (hq : n_X8_addMember M w) : jM l D ca yX8_addMember cX8_addMember 3 (some .int) 1 22 0 0 [.ref (g 0), .int w] (mW ca g M) (jD (some (.int (r_X8_addMember M w).1)) (mW ca g ((r_X8_addMember M w).2))) := by
  refine jM_of [(0, .ref (g 0)), (1, .int w)] (by decide) (Nat.le_of_ble_eq_true rfl) rfl (fun X C E => ?_)
  rw [n_X8_addMember] at hq
  refine j_iload_n C dX8_addMember_0 rfl ?_
  refine j_iconst C dX8_addMember_1 (1 : Int32) (by decide) ?_
  refine j_bipush C dX8_addMember_2 (9 : Int32) (by decide) ?_
  refine j_callSiR C g_X8_38 (c_X8_in l D ca w (1 : Int32) (9 : Int32)) ⟨Nat.le_of_ble_eq_true rfl, Nat.le_of_ble_eq_true rfl⟩ ⟨Nat.le_of_ble_eq_true rfl, Nat.le_of_ble_eq_true rfl⟩ [] rfl rfl rfl rfl (Nat.le_of_ble_eq_true rfl) dX8_addMember_4 ?_
  refine j_if_ne (tgt := 13) C dX8_addMember_7 (by decide) (fun (h7 : ¬ ((r_X8_in w (1 : Int32) (9 : Int32)) = (0 : Int32))) => ?_) (fun (h7 : (r_X8_in w (1 : Int32) (9 : Int32)) = (0 : Int32)) => ?_)
  · have hq := hq.2 h7
    refine j_aload_n C dX8_addMember_13 rfl ?_
    refine j_get C f_X8_7.F 0 dX8_addMember_14 mW_0 rfl ?_
    refine j_bipush C dX8_addMember_17 (8 : Int32) (by decide) ?_
    refine j_iald C 1 dX8_addMember_19 mW_1 (vin_c rfl) ?_
    refine j_bipush C dX8_addMember_20 (8 : Int32) (by decide) ?_
    refine j_icmp_ne (tgt := 28) C dX8_addMember_22 (by decide) (fun (h22 : ¬ ((M 0 (8 : Int32).toNatClampNeg) = (8 : Int32))) => ?_) (fun (h22 : (M 0 (8 : Int32).toNatClampNeg) = (8 : Int32)) => ?_)
    · have hq := hq.2 h22
      refine j_aload_n C dX8_addMember_28 rfl ?_
      obtain ⟨hv, hq⟩ := hq
      refine j_callVvW C g_X8_81 (c_X8_know l D ca g M hv) 0 mW_0 hcl_X8 ⟨Nat.le_of_ble_eq_true rfl, Nat.le_of_ble_eq_true rfl⟩ ⟨Nat.le_of_ble_eq_true rfl, Nat.le_of_ble_eq_true rfl⟩ rfl rfl (Nat.le_of_ble_eq_true rfl) dX8_addMember_29 fst_m ?_
      refine j_aload_n C dX8_addMember_32 rfl ?_
      refine j_get C f_X8_7.F 0 dX8_addMember_33 mW_0 rfl ?_
      refine j_bipush C dX8_addMember_36 (8 : Int32) (by decide) ?_
      refine j_iald C 1 dX8_addMember_38 mW_1 (vin_c rfl) ?_
      refine j_istore_n C [(2, _), (0, _), (1, _)] dX8_addMember_39 (by decide) rfl ?_
      refine j_aload_n C dX8_addMember_40 rfl ?_
      refine j_get C f_X8_7.F 0 dX8_addMember_41 mW_0 rfl ?_
      refine j_iload_n C dX8_addMember_44 rfl ?_
      refine j_iconst C dX8_addMember_45 (0 : Int32) (by decide) ?_
      refine j_callSiR C g_X8_84 (c_X8_ofMember l D ca ((r_X8_know M) 0 (8 : Int32).toNatClampNeg) (0 : Int32)) ⟨Nat.le_of_ble_eq_true rfl, Nat.le_of_ble_eq_true rfl⟩ ⟨Nat.le_of_ble_eq_true rfl, Nat.le_of_ble_eq_true rfl⟩ [] rfl rfl rfl rfl (Nat.le_of_ble_eq_true rfl) dX8_addMember_46 ?_
      refine j_iload_n C dX8_addMember_49 rfl ?_
      obtain ⟨hv, hq⟩ := hq
      refine j_iast C 1 dX8_addMember_50 mW_1 hv ?_
      refine j_ws (ws' := (mW ca g (z_X8_addMember_0 M w))) fa_m_1 ?_
      refine j_aload_n C dX8_addMember_51 rfl ?_
      refine j_get C f_X8_7.F 0 dX8_addMember_52 mW_0 rfl ?_
      refine j_iload_n C dX8_addMember_55 rfl ?_
      refine j_iconst C dX8_addMember_56 (1 : Int32) (by decide) ?_
      refine j_callSiR C g_X8_84 (c_X8_ofMember l D ca ((r_X8_know M) 0 (8 : Int32).toNatClampNeg) (1 : Int32)) ⟨Nat.le_of_ble_eq_true rfl, Nat.le_of_ble_eq_true rfl⟩ ⟨Nat.le_of_ble_eq_true rfl, Nat.le_of_ble_eq_true rfl⟩ [] rfl rfl rfl rfl (Nat.le_of_ble_eq_true rfl) dX8_addMember_57 ?_
      refine j_iconst C dX8_addMember_60 (0 : Int32) (by decide) ?_
      obtain ⟨hv, hq⟩ := hq
      refine j_iast C 1 dX8_addMember_61 mW_1 hv ?_
      refine j_ws (ws' := (mW ca g (z_X8_addMember_1 M w))) fa_m_1 ?_
      refine j_aload_n C dX8_addMember_62 rfl ?_
      refine j_get C f_X8_7.F 0 dX8_addMember_63 mW_0 rfl ?_
      refine j_iload_n C dX8_addMember_66 rfl ?_
      refine j_iconst C dX8_addMember_67 (2 : Int32) (by decide) ?_
      refine j_callSiR C g_X8_84 (c_X8_ofMember l D ca ((r_X8_know M) 0 (8 : Int32).toNatClampNeg) (2 : Int32)) ⟨Nat.le_of_ble_eq_true rfl, Nat.le_of_ble_eq_true rfl⟩ ⟨Nat.le_of_ble_eq_true rfl, Nat.le_of_ble_eq_true rfl⟩ [] rfl rfl rfl rfl (Nat.le_of_ble_eq_true rfl) dX8_addMember_68 ?_
      refine j_iconst C dX8_addMember_71 (0 : Int32) (by decide) ?_
      obtain ⟨hv, hq⟩ := hq
      refine j_iast C 1 dX8_addMember_72 mW_1 hv ?_
      refine j_ws (ws' := (mW ca g (z_X8_addMember_2 M w))) fa_m_1 ?_
      refine j_aload_n C dX8_addMember_73 rfl ?_
      refine j_get C f_X8_7.F 0 dX8_addMember_74 mW_0 rfl ?_
      refine j_iload_n C dX8_addMember_77 rfl ?_
      refine j_iconst C dX8_addMember_78 (3 : Int32) (by decide) ?_
      refine j_callSiR C g_X8_84 (c_X8_ofMember l D ca ((r_X8_know M) 0 (8 : Int32).toNatClampNeg) (3 : Int32)) ⟨Nat.le_of_ble_eq_true rfl, Nat.le_of_ble_eq_true rfl⟩ ⟨Nat.le_of_ble_eq_true rfl, Nat.le_of_ble_eq_true rfl⟩ [] rfl rfl rfl rfl (Nat.le_of_ble_eq_true rfl) dX8_addMember_79 ?_
      refine j_iconst C dX8_addMember_82 (0 : Int32) (by decide) ?_
      obtain ⟨hv, hq⟩ := hq
      refine j_iast C 1 dX8_addMember_83 mW_1 hv ?_
      refine j_ws (ws' := (mW ca g (z_X8_addMember_3 M w))) fa_m_1 ?_
      refine j_aload_n C dX8_addMember_84 rfl ?_
      refine j_get C f_X8_7.F 0 dX8_addMember_85 mW_0 rfl ?_
      refine j_bipush C dX8_addMember_88 (8 : Int32) (by decide) ?_
      refine j_dup2 C dX8_addMember_90 rfl rfl ?_
      refine j_iald C 1 dX8_addMember_91 mW_1 (vin_c rfl) ?_
      refine j_iconst C dX8_addMember_92 (1 : Int32) (by decide) ?_
      refine j_iadd C dX8_addMember_93 ?_
      refine j_iast C 1 dX8_addMember_94 mW_1 (vin_c rfl) ?_
      refine j_ws (ws' := (mW ca g (z_X8_addMember_4 M w))) fa_m_1 ?_
      refine j_iload_n C dX8_addMember_95 rfl ?_
      have e9 : r_X8_addMember M w = (((r_X8_know M) 0 (8 : Int32).toNatClampNeg), (z_X8_addMember_4 M w)) := by rw [r_X8_addMember, if_neg h7, if_neg h22]
      exact j_iret E dX8_addMember_96 (jD_i e9 (mW ca g))
    · have hq := hq.1 h22
      refine j_bipush C dX8_addMember_25 (-3 : Int32) (by decide) ?_
      have e9 : r_X8_addMember M w = ((-3 : Int32), M) := by rw [r_X8_addMember, if_neg h7, if_pos h22]
      exact j_iret E dX8_addMember_27 (jD_i e9 (mW ca g))
  · have hq := hq.1 h7
    refine j_bipush C dX8_addMember_10 (-2 : Int32) (by decide) ?_
    have e9 : r_X8_addMember M w = ((-2 : Int32), M) := by rw [r_X8_addMember, if_pos h7]
    exact j_iret E dX8_addMember_12 (jD_i e9 (mW ca g))


def z_X8_payDues_0 (M : jB) (i : Int32) (c : Int32) : jB := (up2 (r_X8_know M) 0 ((r_X8_ofMember i (1 : Int32))).toNatClampNeg (((r_X8_know M) 0 (r_X8_ofMember i (1 : Int32)).toNatClampNeg) + c))
def z_X8_payDues_1 (M : jB) (i : Int32) (c : Int32) : jB := (up2 (z_X8_payDues_0 M i c) 0 ((1 : Int32)).toNatClampNeg (((z_X8_payDues_0 M i c) 0 (1 : Int32).toNatClampNeg) + c))
def r_X8_payDues (M : jB) (i : Int32) (c : Int32) : Int32 × jB := (if (r_X8_isMember M i) = (0 : Int32) then ((-1 : Int32), M) else (if (r_X8_in c (1 : Int32) (1000000 : Int32)) = (0 : Int32) then ((-2 : Int32), M) else (if ((M 0 (r_X8_ofMember i (1 : Int32)).toNatClampNeg) + c) ≤ (100000000 : Int32) then (((z_X8_payDues_1 M i c) 0 (r_X8_ofMember i (1 : Int32)).toNatClampNeg), (z_X8_payDues_1 M i c)) else ((-3 : Int32), M))))
def n_X8_payDues (M : jB) (i : Int32) (c : Int32) : Prop := ((M 0 8 ≤ 8) ∧ (((0 : Int32) ≤ M 0 8) ∧ (((r_X8_isMember M i) = (0 : Int32) → True) ∧ (¬ ((r_X8_isMember M i) = (0 : Int32)) → (((r_X8_in c (1 : Int32) (1000000 : Int32)) = (0 : Int32) → True) ∧ (¬ ((r_X8_in c (1 : Int32) (1000000 : Int32)) = (0 : Int32)) → ((((M 0 (r_X8_ofMember i (1 : Int32)).toNatClampNeg) + c) ≤ (100000000 : Int32) → ((n_X8_know M) ∧ True)) ∧ (¬ (((M 0 (r_X8_ofMember i (1 : Int32)).toNatClampNeg) + c) ≤ (100000000 : Int32)) → True))))))))
set_option maxRecDepth 100000 in
set_option maxHeartbeats 4000000 in
theorem c_X8_payDues (l : Launch) (D : va_G) (ca : Nat → ClassId) (g : Nat → Nat) (M : jB) (i : Int32) (c : Int32) (hq : n_X8_payDues M i c) : jM l D ca yX8_payDues cX8_payDues 3 (some .int) 2 43 0 0 [.ref (g 0), .int i, .int c] (mW ca g M) (jD (some (.int (r_X8_payDues M i c).1)) (mW ca g ((r_X8_payDues M i c).2))) := by
  refine jM_of [(0, .ref (g 0)), (1, .int i), (2, .int c)] (by decide) (Nat.le_of_ble_eq_true rfl) rfl (fun X C E => ?_)
  rw [n_X8_payDues] at hq
  obtain ⟨hM, hq⟩ := hq
  obtain ⟨hm0, hq⟩ := hq
  refine j_aload_n C dX8_payDues_0 rfl ?_
  refine j_iload_n C dX8_payDues_1 rfl ?_
  refine j_callViRW C g_X8_87 (c_X8_isMember l D ca g M i) 0 mW_0 hcl_X8 ⟨Nat.le_of_ble_eq_true rfl, Nat.le_of_ble_eq_true rfl⟩ ⟨Nat.le_of_ble_eq_true rfl, Nat.le_of_ble_eq_true rfl⟩ rfl rfl (Nat.le_of_ble_eq_true rfl) dX8_payDues_2 ?_
  refine j_if_ne (tgt := 10) C dX8_payDues_5 (by decide) (fun (h5 : ¬ ((r_X8_isMember M i) = (0 : Int32))) => ?_) (fun (h5 : (r_X8_isMember M i) = (0 : Int32)) => ?_)
  · have hq := hq.2 h5
    refine j_iload_n C dX8_payDues_10 rfl ?_
    refine j_iconst C dX8_payDues_11 (1 : Int32) (by decide) ?_
    refine j_ldc C q_710 dX8_payDues_12 ?_
    refine j_callSiR C g_X8_38 (c_X8_in l D ca c (1 : Int32) (1000000 : Int32)) ⟨Nat.le_of_ble_eq_true rfl, Nat.le_of_ble_eq_true rfl⟩ ⟨Nat.le_of_ble_eq_true rfl, Nat.le_of_ble_eq_true rfl⟩ [] rfl rfl rfl rfl (Nat.le_of_ble_eq_true rfl) dX8_payDues_14 ?_
    refine j_if_ne (tgt := 23) C dX8_payDues_17 (by decide) (fun (h17 : ¬ ((r_X8_in c (1 : Int32) (1000000 : Int32)) = (0 : Int32))) => ?_) (fun (h17 : (r_X8_in c (1 : Int32) (1000000 : Int32)) = (0 : Int32)) => ?_)
    · have hq := hq.2 h17
      refine j_aload_n C dX8_payDues_23 rfl ?_
      refine j_get C f_X8_7.F 0 dX8_payDues_24 mW_0 rfl ?_
      refine j_iload_n C dX8_payDues_27 rfl ?_
      refine j_iconst C dX8_payDues_28 (1 : Int32) (by decide) ?_
      refine j_callSiR C g_X8_84 (c_X8_ofMember l D ca i (1 : Int32)) ⟨Nat.le_of_ble_eq_true rfl, Nat.le_of_ble_eq_true rfl⟩ ⟨Nat.le_of_ble_eq_true rfl, Nat.le_of_ble_eq_true rfl⟩ [] rfl rfl rfl rfl (Nat.le_of_ble_eq_true rfl) dX8_payDues_29 ?_
      refine j_iald C 1 dX8_payDues_32 mW_1 (vin_om (isM h5 hM hm0) (vin_c rfl)) ?_
      refine j_iload_n C dX8_payDues_33 rfl ?_
      refine j_iadd C dX8_payDues_34 ?_
      refine j_ldc C q_711 dX8_payDues_35 ?_
      refine j_icmp_le (tgt := 43) C dX8_payDues_37 (by decide) (fun (h37 : ((M 0 (r_X8_ofMember i (1 : Int32)).toNatClampNeg) + c) ≤ (100000000 : Int32)) => ?_) (fun (h37 : ¬ (((M 0 (r_X8_ofMember i (1 : Int32)).toNatClampNeg) + c) ≤ (100000000 : Int32))) => ?_)
      · have hq := hq.1 h37
        refine j_aload_n C dX8_payDues_43 rfl ?_
        obtain ⟨hv, hq⟩ := hq
        refine j_callVvW C g_X8_81 (c_X8_know l D ca g M hv) 0 mW_0 hcl_X8 ⟨Nat.le_of_ble_eq_true rfl, Nat.le_of_ble_eq_true rfl⟩ ⟨Nat.le_of_ble_eq_true rfl, Nat.le_of_ble_eq_true rfl⟩ rfl rfl (Nat.le_of_ble_eq_true rfl) dX8_payDues_44 fst_m ?_
        refine j_aload_n C dX8_payDues_47 rfl ?_
        refine j_get C f_X8_7.F 0 dX8_payDues_48 mW_0 rfl ?_
        refine j_iload_n C dX8_payDues_51 rfl ?_
        refine j_iconst C dX8_payDues_52 (1 : Int32) (by decide) ?_
        refine j_callSiR C g_X8_84 (c_X8_ofMember l D ca i (1 : Int32)) ⟨Nat.le_of_ble_eq_true rfl, Nat.le_of_ble_eq_true rfl⟩ ⟨Nat.le_of_ble_eq_true rfl, Nat.le_of_ble_eq_true rfl⟩ [] rfl rfl rfl rfl (Nat.le_of_ble_eq_true rfl) dX8_payDues_53 ?_
        refine j_dup2 C dX8_payDues_56 rfl rfl ?_
        refine j_iald C 1 dX8_payDues_57 mW_1 (vin_om (isM h5 hM hm0) (vin_c rfl)) ?_
        refine j_iload_n C dX8_payDues_58 rfl ?_
        refine j_iadd C dX8_payDues_59 ?_
        refine j_iast C 1 dX8_payDues_60 mW_1 (vin_om (isM h5 hM hm0) (vin_c rfl)) ?_
        refine j_ws (ws' := (mW ca g (z_X8_payDues_0 M i c))) fa_m_1 ?_
        refine j_aload_n C dX8_payDues_61 rfl ?_
        refine j_get C f_X8_7.F 0 dX8_payDues_62 mW_0 rfl ?_
        refine j_iconst C dX8_payDues_65 (1 : Int32) (by decide) ?_
        refine j_dup2 C dX8_payDues_66 rfl rfl ?_
        refine j_iald C 1 dX8_payDues_67 mW_1 (vin_c rfl) ?_
        refine j_iload_n C dX8_payDues_68 rfl ?_
        refine j_iadd C dX8_payDues_69 ?_
        refine j_iast C 1 dX8_payDues_70 mW_1 (vin_c rfl) ?_
        refine j_ws (ws' := (mW ca g (z_X8_payDues_1 M i c))) fa_m_1 ?_
        refine j_aload_n C dX8_payDues_71 rfl ?_
        refine j_get C f_X8_7.F 0 dX8_payDues_72 mW_0 rfl ?_
        refine j_iload_n C dX8_payDues_75 rfl ?_
        refine j_iconst C dX8_payDues_76 (1 : Int32) (by decide) ?_
        refine j_callSiR C g_X8_84 (c_X8_ofMember l D ca i (1 : Int32)) ⟨Nat.le_of_ble_eq_true rfl, Nat.le_of_ble_eq_true rfl⟩ ⟨Nat.le_of_ble_eq_true rfl, Nat.le_of_ble_eq_true rfl⟩ [] rfl rfl rfl rfl (Nat.le_of_ble_eq_true rfl) dX8_payDues_77 ?_
        refine j_iald C 1 dX8_payDues_80 mW_1 (vin_om (isM h5 hM hm0) (vin_c rfl)) ?_
        have e9 : r_X8_payDues M i c = (((z_X8_payDues_1 M i c) 0 (r_X8_ofMember i (1 : Int32)).toNatClampNeg), (z_X8_payDues_1 M i c)) := by rw [r_X8_payDues, if_neg h5, if_neg h17, if_pos h37]
        exact j_iret E dX8_payDues_81 (jD_i e9 (mW ca g))
      · have hq := hq.2 h37
        refine j_bipush C dX8_payDues_40 (-3 : Int32) (by decide) ?_
        have e9 : r_X8_payDues M i c = ((-3 : Int32), M) := by rw [r_X8_payDues, if_neg h5, if_neg h17, if_neg h37]
        exact j_iret E dX8_payDues_42 (jD_i e9 (mW ca g))
    · have hq := hq.1 h17
      refine j_bipush C dX8_payDues_20 (-2 : Int32) (by decide) ?_
      have e9 : r_X8_payDues M i c = ((-2 : Int32), M) := by rw [r_X8_payDues, if_neg h5, if_pos h17]
      exact j_iret E dX8_payDues_22 (jD_i e9 (mW ca g))
  · have hq := hq.1 h5
    refine j_iconst C dX8_payDues_8 (-1 : Int32) (by decide) ?_
    have e9 : r_X8_payDues M i c = ((-1 : Int32), M) := by rw [r_X8_payDues, if_pos h5]
    exact j_iret E dX8_payDues_9 (jD_i e9 (mW ca g))


def z_X8_addInvoice_0 (M : jB) (i : Int32) : jB := (up2 (r_X8_know M) 0 ((r_X8_of ((r_X8_know M) 0 (9 : Int32).toNatClampNeg) (0 : Int32))).toNatClampNeg i)
def z_X8_addInvoice_1 (M : jB) (i : Int32) (c : Int32) : jB := (up2 (z_X8_addInvoice_0 M i) 0 ((r_X8_of ((r_X8_know M) 0 (9 : Int32).toNatClampNeg) (1 : Int32))).toNatClampNeg c)
def z_X8_addInvoice_2 (M : jB) (i : Int32) (c : Int32) (a : Int32) : jB := (up2 (z_X8_addInvoice_1 M i c) 0 ((r_X8_of ((r_X8_know M) 0 (9 : Int32).toNatClampNeg) (2 : Int32))).toNatClampNeg a)
def z_X8_addInvoice_3 (M : jB) (i : Int32) (c : Int32) (a : Int32) (d : Int32) : jB := (up2 (z_X8_addInvoice_2 M i c a) 0 ((r_X8_of ((r_X8_know M) 0 (9 : Int32).toNatClampNeg) (3 : Int32))).toNatClampNeg d)
def z_X8_addInvoice_4 (M : jB) (i : Int32) (c : Int32) (a : Int32) (d : Int32) : jB := (up2 (z_X8_addInvoice_3 M i c a d) 0 ((r_X8_of ((r_X8_know M) 0 (9 : Int32).toNatClampNeg) (4 : Int32))).toNatClampNeg (0 : Int32))
def z_X8_addInvoice_5 (M : jB) (i : Int32) (c : Int32) (a : Int32) (d : Int32) : jB := (up2 (z_X8_addInvoice_4 M i c a d) 0 ((r_X8_of ((r_X8_know M) 0 (9 : Int32).toNatClampNeg) (5 : Int32))).toNatClampNeg (0 : Int32))
def z_X8_addInvoice_6 (M : jB) (i : Int32) (c : Int32) (a : Int32) (d : Int32) : jB := (up2 (z_X8_addInvoice_5 M i c a d) 0 ((r_X8_of ((r_X8_know M) 0 (9 : Int32).toNatClampNeg) (6 : Int32))).toNatClampNeg (0 : Int32))
def z_X8_addInvoice_7 (M : jB) (i : Int32) (c : Int32) (a : Int32) (d : Int32) : jB := (up2 (z_X8_addInvoice_6 M i c a d) 0 ((9 : Int32)).toNatClampNeg (((z_X8_addInvoice_6 M i c a d) 0 (9 : Int32).toNatClampNeg) + (1 : Int32)))
def r_X8_addInvoice (M : jB) (i : Int32) (c : Int32) (a : Int32) (d : Int32) : Int32 × jB := (if (r_X8_isMember M i) = (0 : Int32) then ((-1 : Int32), M) else (if (r_X8_isClient c) = (0 : Int32) then ((-1 : Int32), M) else (if (r_X8_in a (100 : Int32) (1000000 : Int32)) = (0 : Int32) then ((-2 : Int32), M) else (if (r_X8_in d (0 : Int32) (9999 : Int32)) = (0 : Int32) then ((-2 : Int32), M) else (if (M 0 (9 : Int32).toNatClampNeg) = (20 : Int32) then ((-3 : Int32), M) else (((r_X8_know M) 0 (9 : Int32).toNatClampNeg), (z_X8_addInvoice_7 M i c a d)))))))
def n_X8_addInvoice (M : jB) (i : Int32) (c : Int32) (a : Int32) (d : Int32) : Prop := (((r_X8_isMember M i) = (0 : Int32) → True) ∧ (¬ ((r_X8_isMember M i) = (0 : Int32)) → (((r_X8_isClient c) = (0 : Int32) → True) ∧ (¬ ((r_X8_isClient c) = (0 : Int32)) → (((r_X8_in a (100 : Int32) (1000000 : Int32)) = (0 : Int32) → True) ∧ (¬ ((r_X8_in a (100 : Int32) (1000000 : Int32)) = (0 : Int32)) → (((r_X8_in d (0 : Int32) (9999 : Int32)) = (0 : Int32) → True) ∧ (¬ ((r_X8_in d (0 : Int32) (9999 : Int32)) = (0 : Int32)) → (((M 0 (9 : Int32).toNatClampNeg) = (20 : Int32) → True) ∧ (¬ ((M 0 (9 : Int32).toNatClampNeg) = (20 : Int32)) → ((n_X8_know M) ∧ (vp_in (r_X8_of ((r_X8_know M) 0 (9 : Int32).toNatClampNeg) (0 : Int32)) 204 ∧ (vp_in (r_X8_of ((r_X8_know M) 0 (9 : Int32).toNatClampNeg) (1 : Int32)) 204 ∧ (vp_in (r_X8_of ((r_X8_know M) 0 (9 : Int32).toNatClampNeg) (2 : Int32)) 204 ∧ (vp_in (r_X8_of ((r_X8_know M) 0 (9 : Int32).toNatClampNeg) (3 : Int32)) 204 ∧ (vp_in (r_X8_of ((r_X8_know M) 0 (9 : Int32).toNatClampNeg) (4 : Int32)) 204 ∧ (vp_in (r_X8_of ((r_X8_know M) 0 (9 : Int32).toNatClampNeg) (5 : Int32)) 204 ∧ (vp_in (r_X8_of ((r_X8_know M) 0 (9 : Int32).toNatClampNeg) (6 : Int32)) 204 ∧ True))))))))))))))))))
set_option maxRecDepth 100000 in
set_option maxHeartbeats 4000000 in
theorem c_X8_addInvoice (l : Launch) (D : va_G) (ca : Nat → ClassId) (g : Nat → Nat) (M : jB) (i : Int32) (c : Int32) (a : Int32) (d : Int32) (hq : n_X8_addInvoice M i c a d) : jM l D ca yX8_addInvoice cX8_addInvoice 6 (some .int) 2 43 0 0 [.ref (g 0), .int i, .int c, .int a, .int d] (mW ca g M) (jD (some (.int (r_X8_addInvoice M i c a d).1)) (mW ca g ((r_X8_addInvoice M i c a d).2))) := by
  refine jM_of [(0, .ref (g 0)), (1, .int i), (2, .int c), (3, .int a), (4, .int d)] (by decide) (Nat.le_of_ble_eq_true rfl) rfl (fun X C E => ?_)
  rw [n_X8_addInvoice] at hq
  refine j_aload_n C dX8_addInvoice_0 rfl ?_
  refine j_iload_n C dX8_addInvoice_1 rfl ?_
  refine j_callViRW C g_X8_87 (c_X8_isMember l D ca g M i) 0 mW_0 hcl_X8 ⟨Nat.le_of_ble_eq_true rfl, Nat.le_of_ble_eq_true rfl⟩ ⟨Nat.le_of_ble_eq_true rfl, Nat.le_of_ble_eq_true rfl⟩ rfl rfl (Nat.le_of_ble_eq_true rfl) dX8_addInvoice_2 ?_
  refine j_if_eq (tgt := 15) C dX8_addInvoice_5 (by decide) (fun (h5 : (r_X8_isMember M i) = (0 : Int32)) => ?_) (fun (h5 : ¬ ((r_X8_isMember M i) = (0 : Int32))) => ?_)
  · have hq := hq.1 h5
    refine j_iconst C dX8_addInvoice_15 (-1 : Int32) (by decide) ?_
    have e9 : r_X8_addInvoice M i c a d = ((-1 : Int32), M) := by rw [r_X8_addInvoice, if_pos h5]
    exact j_iret E dX8_addInvoice_16 (jD_i e9 (mW ca g))
  · have hq := hq.2 h5
    refine j_iload_n C dX8_addInvoice_8 rfl ?_
    refine j_callSiR C g_X8_93 (c_X8_isClient l D ca c) ⟨Nat.le_of_ble_eq_true rfl, Nat.le_of_ble_eq_true rfl⟩ ⟨Nat.le_of_ble_eq_true rfl, Nat.le_of_ble_eq_true rfl⟩ [] rfl rfl rfl rfl (Nat.le_of_ble_eq_true rfl) dX8_addInvoice_9 ?_
    refine j_if_ne (tgt := 17) C dX8_addInvoice_12 (by decide) (fun (h12 : ¬ ((r_X8_isClient c) = (0 : Int32))) => ?_) (fun (h12 : (r_X8_isClient c) = (0 : Int32)) => ?_)
    · have hq := hq.2 h12
      refine j_iload_n C dX8_addInvoice_17 rfl ?_
      refine j_bipush C dX8_addInvoice_18 (100 : Int32) (by decide) ?_
      refine j_ldc C q_710 dX8_addInvoice_20 ?_
      refine j_callSiR C g_X8_38 (c_X8_in l D ca a (100 : Int32) (1000000 : Int32)) ⟨Nat.le_of_ble_eq_true rfl, Nat.le_of_ble_eq_true rfl⟩ ⟨Nat.le_of_ble_eq_true rfl, Nat.le_of_ble_eq_true rfl⟩ [] rfl rfl rfl rfl (Nat.le_of_ble_eq_true rfl) dX8_addInvoice_22 ?_
      refine j_if_eq (tgt := 40) C dX8_addInvoice_25 (by decide) (fun (h25 : (r_X8_in a (100 : Int32) (1000000 : Int32)) = (0 : Int32)) => ?_) (fun (h25 : ¬ ((r_X8_in a (100 : Int32) (1000000 : Int32)) = (0 : Int32))) => ?_)
      · have hq := hq.1 h25
        refine j_bipush C dX8_addInvoice_40 (-2 : Int32) (by decide) ?_
        have e9 : r_X8_addInvoice M i c a d = ((-2 : Int32), M) := by rw [r_X8_addInvoice, if_neg h5, if_neg h12, if_pos h25]
        exact j_iret E dX8_addInvoice_42 (jD_i e9 (mW ca g))
      · have hq := hq.2 h25
        refine j_iload C dX8_addInvoice_28 rfl ?_
        refine j_iconst C dX8_addInvoice_30 (0 : Int32) (by decide) ?_
        refine j_sipush C dX8_addInvoice_31 (9999 : Int32) (by decide) ?_
        refine j_callSiR C g_X8_38 (c_X8_in l D ca d (0 : Int32) (9999 : Int32)) ⟨Nat.le_of_ble_eq_true rfl, Nat.le_of_ble_eq_true rfl⟩ ⟨Nat.le_of_ble_eq_true rfl, Nat.le_of_ble_eq_true rfl⟩ [] rfl rfl rfl rfl (Nat.le_of_ble_eq_true rfl) dX8_addInvoice_34 ?_
        refine j_if_ne (tgt := 43) C dX8_addInvoice_37 (by decide) (fun (h37 : ¬ ((r_X8_in d (0 : Int32) (9999 : Int32)) = (0 : Int32))) => ?_) (fun (h37 : (r_X8_in d (0 : Int32) (9999 : Int32)) = (0 : Int32)) => ?_)
        · have hq := hq.2 h37
          refine j_aload_n C dX8_addInvoice_43 rfl ?_
          refine j_get C f_X8_7.F 0 dX8_addInvoice_44 mW_0 rfl ?_
          refine j_bipush C dX8_addInvoice_47 (9 : Int32) (by decide) ?_
          refine j_iald C 1 dX8_addInvoice_49 mW_1 (vin_c rfl) ?_
          refine j_bipush C dX8_addInvoice_50 (20 : Int32) (by decide) ?_
          refine j_icmp_ne (tgt := 58) C dX8_addInvoice_52 (by decide) (fun (h52 : ¬ ((M 0 (9 : Int32).toNatClampNeg) = (20 : Int32))) => ?_) (fun (h52 : (M 0 (9 : Int32).toNatClampNeg) = (20 : Int32)) => ?_)
          · have hq := hq.2 h52
            refine j_aload_n C dX8_addInvoice_58 rfl ?_
            obtain ⟨hv, hq⟩ := hq
            refine j_callVvW C g_X8_81 (c_X8_know l D ca g M hv) 0 mW_0 hcl_X8 ⟨Nat.le_of_ble_eq_true rfl, Nat.le_of_ble_eq_true rfl⟩ ⟨Nat.le_of_ble_eq_true rfl, Nat.le_of_ble_eq_true rfl⟩ rfl rfl (Nat.le_of_ble_eq_true rfl) dX8_addInvoice_59 fst_m ?_
            refine j_aload_n C dX8_addInvoice_62 rfl ?_
            refine j_get C f_X8_7.F 0 dX8_addInvoice_63 mW_0 rfl ?_
            refine j_bipush C dX8_addInvoice_66 (9 : Int32) (by decide) ?_
            refine j_iald C 1 dX8_addInvoice_68 mW_1 (vin_c rfl) ?_
            refine j_istore C [(5, _), (0, _), (1, _), (2, _), (3, _), (4, _)] dX8_addInvoice_69 (by decide) rfl ?_
            refine j_aload_n C dX8_addInvoice_71 rfl ?_
            refine j_get C f_X8_7.F 0 dX8_addInvoice_72 mW_0 rfl ?_
            refine j_iload C dX8_addInvoice_75 rfl ?_
            refine j_iconst C dX8_addInvoice_77 (0 : Int32) (by decide) ?_
            refine j_callSiR C g_X8_59 (c_X8_of l D ca ((r_X8_know M) 0 (9 : Int32).toNatClampNeg) (0 : Int32)) ⟨Nat.le_of_ble_eq_true rfl, Nat.le_of_ble_eq_true rfl⟩ ⟨Nat.le_of_ble_eq_true rfl, Nat.le_of_ble_eq_true rfl⟩ [] rfl rfl rfl rfl (Nat.le_of_ble_eq_true rfl) dX8_addInvoice_78 ?_
            refine j_iload_n C dX8_addInvoice_81 rfl ?_
            obtain ⟨hv, hq⟩ := hq
            refine j_iast C 1 dX8_addInvoice_82 mW_1 hv ?_
            refine j_ws (ws' := (mW ca g (z_X8_addInvoice_0 M i))) fa_m_1 ?_
            refine j_aload_n C dX8_addInvoice_83 rfl ?_
            refine j_get C f_X8_7.F 0 dX8_addInvoice_84 mW_0 rfl ?_
            refine j_iload C dX8_addInvoice_87 rfl ?_
            refine j_iconst C dX8_addInvoice_89 (1 : Int32) (by decide) ?_
            refine j_callSiR C g_X8_59 (c_X8_of l D ca ((r_X8_know M) 0 (9 : Int32).toNatClampNeg) (1 : Int32)) ⟨Nat.le_of_ble_eq_true rfl, Nat.le_of_ble_eq_true rfl⟩ ⟨Nat.le_of_ble_eq_true rfl, Nat.le_of_ble_eq_true rfl⟩ [] rfl rfl rfl rfl (Nat.le_of_ble_eq_true rfl) dX8_addInvoice_90 ?_
            refine j_iload_n C dX8_addInvoice_93 rfl ?_
            obtain ⟨hv, hq⟩ := hq
            refine j_iast C 1 dX8_addInvoice_94 mW_1 hv ?_
            refine j_ws (ws' := (mW ca g (z_X8_addInvoice_1 M i c))) fa_m_1 ?_
            refine j_aload_n C dX8_addInvoice_95 rfl ?_
            refine j_get C f_X8_7.F 0 dX8_addInvoice_96 mW_0 rfl ?_
            refine j_iload C dX8_addInvoice_99 rfl ?_
            refine j_iconst C dX8_addInvoice_101 (2 : Int32) (by decide) ?_
            refine j_callSiR C g_X8_59 (c_X8_of l D ca ((r_X8_know M) 0 (9 : Int32).toNatClampNeg) (2 : Int32)) ⟨Nat.le_of_ble_eq_true rfl, Nat.le_of_ble_eq_true rfl⟩ ⟨Nat.le_of_ble_eq_true rfl, Nat.le_of_ble_eq_true rfl⟩ [] rfl rfl rfl rfl (Nat.le_of_ble_eq_true rfl) dX8_addInvoice_102 ?_
            refine j_iload_n C dX8_addInvoice_105 rfl ?_
            obtain ⟨hv, hq⟩ := hq
            refine j_iast C 1 dX8_addInvoice_106 mW_1 hv ?_
            refine j_ws (ws' := (mW ca g (z_X8_addInvoice_2 M i c a))) fa_m_1 ?_
            refine j_aload_n C dX8_addInvoice_107 rfl ?_
            refine j_get C f_X8_7.F 0 dX8_addInvoice_108 mW_0 rfl ?_
            refine j_iload C dX8_addInvoice_111 rfl ?_
            refine j_iconst C dX8_addInvoice_113 (3 : Int32) (by decide) ?_
            refine j_callSiR C g_X8_59 (c_X8_of l D ca ((r_X8_know M) 0 (9 : Int32).toNatClampNeg) (3 : Int32)) ⟨Nat.le_of_ble_eq_true rfl, Nat.le_of_ble_eq_true rfl⟩ ⟨Nat.le_of_ble_eq_true rfl, Nat.le_of_ble_eq_true rfl⟩ [] rfl rfl rfl rfl (Nat.le_of_ble_eq_true rfl) dX8_addInvoice_114 ?_
            refine j_iload C dX8_addInvoice_117 rfl ?_
            obtain ⟨hv, hq⟩ := hq
            refine j_iast C 1 dX8_addInvoice_119 mW_1 hv ?_
            refine j_ws (ws' := (mW ca g (z_X8_addInvoice_3 M i c a d))) fa_m_1 ?_
            refine j_aload_n C dX8_addInvoice_120 rfl ?_
            refine j_get C f_X8_7.F 0 dX8_addInvoice_121 mW_0 rfl ?_
            refine j_iload C dX8_addInvoice_124 rfl ?_
            refine j_iconst C dX8_addInvoice_126 (4 : Int32) (by decide) ?_
            refine j_callSiR C g_X8_59 (c_X8_of l D ca ((r_X8_know M) 0 (9 : Int32).toNatClampNeg) (4 : Int32)) ⟨Nat.le_of_ble_eq_true rfl, Nat.le_of_ble_eq_true rfl⟩ ⟨Nat.le_of_ble_eq_true rfl, Nat.le_of_ble_eq_true rfl⟩ [] rfl rfl rfl rfl (Nat.le_of_ble_eq_true rfl) dX8_addInvoice_127 ?_
            refine j_iconst C dX8_addInvoice_130 (0 : Int32) (by decide) ?_
            obtain ⟨hv, hq⟩ := hq
            refine j_iast C 1 dX8_addInvoice_131 mW_1 hv ?_
            refine j_ws (ws' := (mW ca g (z_X8_addInvoice_4 M i c a d))) fa_m_1 ?_
            refine j_aload_n C dX8_addInvoice_132 rfl ?_
            refine j_get C f_X8_7.F 0 dX8_addInvoice_133 mW_0 rfl ?_
            refine j_iload C dX8_addInvoice_136 rfl ?_
            refine j_iconst C dX8_addInvoice_138 (5 : Int32) (by decide) ?_
            refine j_callSiR C g_X8_59 (c_X8_of l D ca ((r_X8_know M) 0 (9 : Int32).toNatClampNeg) (5 : Int32)) ⟨Nat.le_of_ble_eq_true rfl, Nat.le_of_ble_eq_true rfl⟩ ⟨Nat.le_of_ble_eq_true rfl, Nat.le_of_ble_eq_true rfl⟩ [] rfl rfl rfl rfl (Nat.le_of_ble_eq_true rfl) dX8_addInvoice_139 ?_
            refine j_iconst C dX8_addInvoice_142 (0 : Int32) (by decide) ?_
            obtain ⟨hv, hq⟩ := hq
            refine j_iast C 1 dX8_addInvoice_143 mW_1 hv ?_
            refine j_ws (ws' := (mW ca g (z_X8_addInvoice_5 M i c a d))) fa_m_1 ?_
            refine j_aload_n C dX8_addInvoice_144 rfl ?_
            refine j_get C f_X8_7.F 0 dX8_addInvoice_145 mW_0 rfl ?_
            refine j_iload C dX8_addInvoice_148 rfl ?_
            refine j_bipush C dX8_addInvoice_150 (6 : Int32) (by decide) ?_
            refine j_callSiR C g_X8_59 (c_X8_of l D ca ((r_X8_know M) 0 (9 : Int32).toNatClampNeg) (6 : Int32)) ⟨Nat.le_of_ble_eq_true rfl, Nat.le_of_ble_eq_true rfl⟩ ⟨Nat.le_of_ble_eq_true rfl, Nat.le_of_ble_eq_true rfl⟩ [] rfl rfl rfl rfl (Nat.le_of_ble_eq_true rfl) dX8_addInvoice_152 ?_
            refine j_iconst C dX8_addInvoice_155 (0 : Int32) (by decide) ?_
            obtain ⟨hv, hq⟩ := hq
            refine j_iast C 1 dX8_addInvoice_156 mW_1 hv ?_
            refine j_ws (ws' := (mW ca g (z_X8_addInvoice_6 M i c a d))) fa_m_1 ?_
            refine j_aload_n C dX8_addInvoice_157 rfl ?_
            refine j_get C f_X8_7.F 0 dX8_addInvoice_158 mW_0 rfl ?_
            refine j_bipush C dX8_addInvoice_161 (9 : Int32) (by decide) ?_
            refine j_dup2 C dX8_addInvoice_163 rfl rfl ?_
            refine j_iald C 1 dX8_addInvoice_164 mW_1 (vin_c rfl) ?_
            refine j_iconst C dX8_addInvoice_165 (1 : Int32) (by decide) ?_
            refine j_iadd C dX8_addInvoice_166 ?_
            refine j_iast C 1 dX8_addInvoice_167 mW_1 (vin_c rfl) ?_
            refine j_ws (ws' := (mW ca g (z_X8_addInvoice_7 M i c a d))) fa_m_1 ?_
            refine j_iload C dX8_addInvoice_168 rfl ?_
            have e9 : r_X8_addInvoice M i c a d = (((r_X8_know M) 0 (9 : Int32).toNatClampNeg), (z_X8_addInvoice_7 M i c a d)) := by rw [r_X8_addInvoice, if_neg h5, if_neg h12, if_neg h25, if_neg h37, if_neg h52]
            exact j_iret E dX8_addInvoice_170 (jD_i e9 (mW ca g))
          · have hq := hq.1 h52
            refine j_bipush C dX8_addInvoice_55 (-3 : Int32) (by decide) ?_
            have e9 : r_X8_addInvoice M i c a d = ((-3 : Int32), M) := by rw [r_X8_addInvoice, if_neg h5, if_neg h12, if_neg h25, if_neg h37, if_pos h52]
            exact j_iret E dX8_addInvoice_57 (jD_i e9 (mW ca g))
        · have hq := hq.1 h37
          refine j_bipush C dX8_addInvoice_40 (-2 : Int32) (by decide) ?_
          have e9 : r_X8_addInvoice M i c a d = ((-2 : Int32), M) := by rw [r_X8_addInvoice, if_neg h5, if_neg h12, if_neg h25, if_pos h37]
          exact j_iret E dX8_addInvoice_42 (jD_i e9 (mW ca g))
    · have hq := hq.1 h12
      refine j_iconst C dX8_addInvoice_15 (-1 : Int32) (by decide) ?_
      have e9 : r_X8_addInvoice M i c a d = ((-1 : Int32), M) := by rw [r_X8_addInvoice, if_neg h5, if_pos h12]
      exact j_iret E dX8_addInvoice_16 (jD_i e9 (mW ca g))


def z_X8_payAhead_0 (M : jB) (i : Int32) : jB := (up2 (r_X8_know M) 0 ((r_X8_of i (4 : Int32))).toNatClampNeg (1 : Int32))
def z_X8_payAhead_1 (M : jB) (i : Int32) : jB := (up2 (z_X8_payAhead_0 M i) 0 ((r_X8_of i (6 : Int32))).toNatClampNeg (r_X8_offerBehind (r_X8_know M) i (0 : Int32)))
def z_X8_payAhead_2 (M : jB) (i : Int32) : jB := (up2 (z_X8_payAhead_1 M i) 0 ((1 : Int32)).toNatClampNeg (((z_X8_payAhead_1 M i) 0 (1 : Int32).toNatClampNeg) - (r_X8_offerBehind (r_X8_know M) i (0 : Int32))))
def z_X8_payAhead_3 (M : jB) (i : Int32) : jB := (up2 (z_X8_payAhead_2 M i) 0 ((r_X8_ofMember ((z_X8_payAhead_2 M i) 0 (r_X8_of i (0 : Int32)).toNatClampNeg) (2 : Int32))).toNatClampNeg (((z_X8_payAhead_2 M i) 0 (r_X8_ofMember ((z_X8_payAhead_2 M i) 0 (r_X8_of i (0 : Int32)).toNatClampNeg) (2 : Int32)).toNatClampNeg) + (r_X8_offerBehind (r_X8_know M) i (0 : Int32))))
def z_X8_payAhead_4 (M : jB) (i : Int32) : jB := (up2 (z_X8_payAhead_3 M i) 0 ((10 : Int32)).toNatClampNeg (((z_X8_payAhead_3 M i) 0 (10 : Int32).toNatClampNeg) + (r_X8_offerBehind (r_X8_know M) i (0 : Int32))))
def r_X8_payAhead (M : jB) (i : Int32) : Int32 × jB := (if (r_X8_isInvoice M i) = (0 : Int32) then ((-1 : Int32), M) else (if (r_X8_mayAhead M i) = (0 : Int32) then ((-4 : Int32), M) else ((r_X8_offerBehind (r_X8_know M) i (0 : Int32)), (z_X8_payAhead_4 M i))))
def n_X8_payAhead (M : jB) (i : Int32) : Prop := ((M 0 9 ≤ 20) ∧ (((0 : Int32) ≤ M 0 9) ∧ (((r_X8_isInvoice M i) = (0 : Int32) → True) ∧ (¬ ((r_X8_isInvoice M i) = (0 : Int32)) → ((n_X8_mayAhead M i) ∧ (((r_X8_mayAhead M i) = (0 : Int32) → True) ∧ (¬ ((r_X8_mayAhead M i) = (0 : Int32)) → ((n_X8_know M) ∧ ((n_X8_offerBehind (r_X8_know M) i (0 : Int32)) ∧ (vp_in (r_X8_ofMember ((z_X8_payAhead_2 M i) 0 (r_X8_of i (0 : Int32)).toNatClampNeg) (2 : Int32)) 204 ∧ (vp_in (r_X8_ofMember ((z_X8_payAhead_2 M i) 0 (r_X8_of i (0 : Int32)).toNatClampNeg) (2 : Int32)) 204 ∧ True)))))))))))
set_option maxRecDepth 100000 in
set_option maxHeartbeats 4000000 in
theorem c_X8_payAhead (l : Launch) (D : va_G) (ca : Nat → ClassId) (g : Nat → Nat) (M : jB) (i : Int32) (hq : n_X8_payAhead M i) : jM l D ca yX8_payAhead cX8_payAhead 3 (some .int) 5 113 0 0 [.ref (g 0), .int i] (mW ca g M) (jD (some (.int (r_X8_payAhead M i).1)) (mW ca g ((r_X8_payAhead M i).2))) := by
  refine jM_of [(0, .ref (g 0)), (1, .int i)] (by decide) (Nat.le_of_ble_eq_true rfl) rfl (fun X C E => ?_)
  rw [n_X8_payAhead] at hq
  obtain ⟨hI, hq⟩ := hq
  obtain ⟨hi0, hq⟩ := hq
  refine j_aload_n C dX8_payAhead_0 rfl ?_
  refine j_iload_n C dX8_payAhead_1 rfl ?_
  refine j_callViRW C g_X8_105 (c_X8_isInvoice l D ca g M i) 0 mW_0 hcl_X8 ⟨Nat.le_of_ble_eq_true rfl, Nat.le_of_ble_eq_true rfl⟩ ⟨Nat.le_of_ble_eq_true rfl, Nat.le_of_ble_eq_true rfl⟩ rfl rfl (Nat.le_of_ble_eq_true rfl) dX8_payAhead_2 ?_
  refine j_if_ne (tgt := 10) C dX8_payAhead_5 (by decide) (fun (h5 : ¬ ((r_X8_isInvoice M i) = (0 : Int32))) => ?_) (fun (h5 : (r_X8_isInvoice M i) = (0 : Int32)) => ?_)
  · have hq := hq.2 h5
    refine j_aload_n C dX8_payAhead_10 rfl ?_
    refine j_iload_n C dX8_payAhead_11 rfl ?_
    obtain ⟨hv, hq⟩ := hq
    refine j_callViRW C g_X8_108 (c_X8_mayAhead l D ca g M i hv) 0 mW_0 hcl_X8 ⟨Nat.le_of_ble_eq_true rfl, Nat.le_of_ble_eq_true rfl⟩ ⟨Nat.le_of_ble_eq_true rfl, Nat.le_of_ble_eq_true rfl⟩ rfl rfl (Nat.le_of_ble_eq_true rfl) dX8_payAhead_12 ?_
    refine j_if_ne (tgt := 21) C dX8_payAhead_15 (by decide) (fun (h15 : ¬ ((r_X8_mayAhead M i) = (0 : Int32))) => ?_) (fun (h15 : (r_X8_mayAhead M i) = (0 : Int32)) => ?_)
    · have hq := hq.2 h15
      refine j_aload_n C dX8_payAhead_21 rfl ?_
      obtain ⟨hv, hq⟩ := hq
      refine j_callVvW C g_X8_81 (c_X8_know l D ca g M hv) 0 mW_0 hcl_X8 ⟨Nat.le_of_ble_eq_true rfl, Nat.le_of_ble_eq_true rfl⟩ ⟨Nat.le_of_ble_eq_true rfl, Nat.le_of_ble_eq_true rfl⟩ rfl rfl (Nat.le_of_ble_eq_true rfl) dX8_payAhead_22 fst_m ?_
      refine j_aload_n C dX8_payAhead_25 rfl ?_
      refine j_iload_n C dX8_payAhead_26 rfl ?_
      refine j_iconst C dX8_payAhead_27 (0 : Int32) (by decide) ?_
      obtain ⟨hv, hq⟩ := hq
      refine j_callViRW C g_X8_75 (c_X8_offerBehind l D ca g (r_X8_know M) i (0 : Int32) hv) 0 mW_0 hcl_X8 ⟨Nat.le_of_ble_eq_true rfl, Nat.le_of_ble_eq_true rfl⟩ ⟨Nat.le_of_ble_eq_true rfl, Nat.le_of_ble_eq_true rfl⟩ rfl rfl (Nat.le_of_ble_eq_true rfl) dX8_payAhead_28 ?_
      refine j_istore_n C [(2, _), (0, _), (1, _)] dX8_payAhead_31 (by decide) rfl ?_
      refine j_aload_n C dX8_payAhead_32 rfl ?_
      refine j_get C f_X8_7.F 0 dX8_payAhead_33 mW_0 rfl ?_
      refine j_iload_n C dX8_payAhead_36 rfl ?_
      refine j_iconst C dX8_payAhead_37 (4 : Int32) (by decide) ?_
      refine j_callSiR C g_X8_59 (c_X8_of l D ca i (4 : Int32)) ⟨Nat.le_of_ble_eq_true rfl, Nat.le_of_ble_eq_true rfl⟩ ⟨Nat.le_of_ble_eq_true rfl, Nat.le_of_ble_eq_true rfl⟩ [] rfl rfl rfl rfl (Nat.le_of_ble_eq_true rfl) dX8_payAhead_38 ?_
      refine j_iconst C dX8_payAhead_41 (1 : Int32) (by decide) ?_
      refine j_iast C 1 dX8_payAhead_42 mW_1 (vin_of (isI h5 hI hi0) (vin_c rfl)) ?_
      refine j_ws (ws' := (mW ca g (z_X8_payAhead_0 M i))) fa_m_1 ?_
      refine j_aload_n C dX8_payAhead_43 rfl ?_
      refine j_get C f_X8_7.F 0 dX8_payAhead_44 mW_0 rfl ?_
      refine j_iload_n C dX8_payAhead_47 rfl ?_
      refine j_bipush C dX8_payAhead_48 (6 : Int32) (by decide) ?_
      refine j_callSiR C g_X8_59 (c_X8_of l D ca i (6 : Int32)) ⟨Nat.le_of_ble_eq_true rfl, Nat.le_of_ble_eq_true rfl⟩ ⟨Nat.le_of_ble_eq_true rfl, Nat.le_of_ble_eq_true rfl⟩ [] rfl rfl rfl rfl (Nat.le_of_ble_eq_true rfl) dX8_payAhead_50 ?_
      refine j_iload_n C dX8_payAhead_53 rfl ?_
      refine j_iast C 1 dX8_payAhead_54 mW_1 (vin_of (isI h5 hI hi0) (vin_c rfl)) ?_
      refine j_ws (ws' := (mW ca g (z_X8_payAhead_1 M i))) fa_m_1 ?_
      refine j_aload_n C dX8_payAhead_55 rfl ?_
      refine j_get C f_X8_7.F 0 dX8_payAhead_56 mW_0 rfl ?_
      refine j_iconst C dX8_payAhead_59 (1 : Int32) (by decide) ?_
      refine j_dup2 C dX8_payAhead_60 rfl rfl ?_
      refine j_iald C 1 dX8_payAhead_61 mW_1 (vin_c rfl) ?_
      refine j_iload_n C dX8_payAhead_62 rfl ?_
      refine j_isub C dX8_payAhead_63 ?_
      refine j_iast C 1 dX8_payAhead_64 mW_1 (vin_c rfl) ?_
      refine j_ws (ws' := (mW ca g (z_X8_payAhead_2 M i))) fa_m_1 ?_
      refine j_aload_n C dX8_payAhead_65 rfl ?_
      refine j_get C f_X8_7.F 0 dX8_payAhead_66 mW_0 rfl ?_
      refine j_aload_n C dX8_payAhead_69 rfl ?_
      refine j_get C f_X8_7.F 0 dX8_payAhead_70 mW_0 rfl ?_
      refine j_iload_n C dX8_payAhead_73 rfl ?_
      refine j_iconst C dX8_payAhead_74 (0 : Int32) (by decide) ?_
      refine j_callSiR C g_X8_59 (c_X8_of l D ca i (0 : Int32)) ⟨Nat.le_of_ble_eq_true rfl, Nat.le_of_ble_eq_true rfl⟩ ⟨Nat.le_of_ble_eq_true rfl, Nat.le_of_ble_eq_true rfl⟩ [] rfl rfl rfl rfl (Nat.le_of_ble_eq_true rfl) dX8_payAhead_75 ?_
      refine j_iald C 1 dX8_payAhead_78 mW_1 (vin_of (isI h5 hI hi0) (vin_c rfl)) ?_
      refine j_iconst C dX8_payAhead_79 (2 : Int32) (by decide) ?_
      refine j_callSiR C g_X8_84 (c_X8_ofMember l D ca ((z_X8_payAhead_2 M i) 0 (r_X8_of i (0 : Int32)).toNatClampNeg) (2 : Int32)) ⟨Nat.le_of_ble_eq_true rfl, Nat.le_of_ble_eq_true rfl⟩ ⟨Nat.le_of_ble_eq_true rfl, Nat.le_of_ble_eq_true rfl⟩ [] rfl rfl rfl rfl (Nat.le_of_ble_eq_true rfl) dX8_payAhead_80 ?_
      refine j_dup2 C dX8_payAhead_83 rfl rfl ?_
      obtain ⟨hv, hq⟩ := hq
      refine j_iald C 1 dX8_payAhead_84 mW_1 hv ?_
      refine j_iload_n C dX8_payAhead_85 rfl ?_
      refine j_iadd C dX8_payAhead_86 ?_
      obtain ⟨hv, hq⟩ := hq
      refine j_iast C 1 dX8_payAhead_87 mW_1 hv ?_
      refine j_ws (ws' := (mW ca g (z_X8_payAhead_3 M i))) fa_m_1 ?_
      refine j_aload_n C dX8_payAhead_88 rfl ?_
      refine j_get C f_X8_7.F 0 dX8_payAhead_89 mW_0 rfl ?_
      refine j_bipush C dX8_payAhead_92 (10 : Int32) (by decide) ?_
      refine j_dup2 C dX8_payAhead_94 rfl rfl ?_
      refine j_iald C 1 dX8_payAhead_95 mW_1 (vin_c rfl) ?_
      refine j_iload_n C dX8_payAhead_96 rfl ?_
      refine j_iadd C dX8_payAhead_97 ?_
      refine j_iast C 1 dX8_payAhead_98 mW_1 (vin_c rfl) ?_
      refine j_ws (ws' := (mW ca g (z_X8_payAhead_4 M i))) fa_m_1 ?_
      refine j_iload_n C dX8_payAhead_99 rfl ?_
      have e9 : r_X8_payAhead M i = ((r_X8_offerBehind (r_X8_know M) i (0 : Int32)), (z_X8_payAhead_4 M i)) := by rw [r_X8_payAhead, if_neg h5, if_neg h15]
      exact j_iret E dX8_payAhead_100 (jD_i e9 (mW ca g))
    · have hq := hq.1 h15
      refine j_bipush C dX8_payAhead_18 (-4 : Int32) (by decide) ?_
      have e9 : r_X8_payAhead M i = ((-4 : Int32), M) := by rw [r_X8_payAhead, if_neg h5, if_pos h15]
      exact j_iret E dX8_payAhead_20 (jD_i e9 (mW ca g))
  · have hq := hq.1 h5
    refine j_iconst C dX8_payAhead_8 (-1 : Int32) (by decide) ?_
    have e9 : r_X8_payAhead M i = ((-1 : Int32), M) := by rw [r_X8_payAhead, if_pos h5]
    exact j_iret E dX8_payAhead_9 (jD_i e9 (mW ca g))


def r_X8_pay (M : jB) (i : Int32) (c : Int32) : Int32 × jB := (if (0 : Int32) ≤ (r_X8_payFault M i c) then ((r_X8_pays (r_X8_know M) i c).1, (r_X8_pays (r_X8_know M) i c).2) else ((r_X8_payFault M i c), M))
def n_X8_pay (M : jB) (i : Int32) (c : Int32) : Prop := ((n_X8_payFault M i c) ∧ (((0 : Int32) ≤ (r_X8_payFault M i c) → ((n_X8_know M) ∧ ((n_X8_pays (r_X8_know M) i c) ∧ True))) ∧ (¬ ((0 : Int32) ≤ (r_X8_payFault M i c)) → True)))
set_option maxRecDepth 100000 in
set_option maxHeartbeats 4000000 in
theorem c_X8_pay (l : Launch) (D : va_G) (ca : Nat → ClassId) (g : Nat → Nat) (M : jB) (i : Int32) (c : Int32) (hq : n_X8_pay M i c) : jM l D ca yX8_pay cX8_pay 4 (some .int) 3 72 0 0 [.ref (g 0), .int i, .int c] (mW ca g M) (jD (some (.int (r_X8_pay M i c).1)) (mW ca g ((r_X8_pay M i c).2))) := by
  refine jM_of [(0, .ref (g 0)), (1, .int i), (2, .int c)] (by decide) (Nat.le_of_ble_eq_true rfl) rfl (fun X C E => ?_)
  rw [n_X8_pay] at hq
  refine j_aload_n C dX8_pay_0 rfl ?_
  refine j_iload_n C dX8_pay_1 rfl ?_
  refine j_iload_n C dX8_pay_2 rfl ?_
  obtain ⟨hv, hq⟩ := hq
  refine j_callViRW C g_X8_111 (c_X8_payFault l D ca g M i c hv) 0 mW_0 hcl_X8 ⟨Nat.le_of_ble_eq_true rfl, Nat.le_of_ble_eq_true rfl⟩ ⟨Nat.le_of_ble_eq_true rfl, Nat.le_of_ble_eq_true rfl⟩ rfl rfl (Nat.le_of_ble_eq_true rfl) dX8_pay_3 ?_
  refine j_istore_n C [(3, _), (0, _), (1, _), (2, _)] dX8_pay_6 (by decide) rfl ?_
  refine j_iload_n C dX8_pay_7 rfl ?_
  refine j_if_ge (tgt := 13) C dX8_pay_8 (by decide) (fun (h8 : (0 : Int32) ≤ (r_X8_payFault M i c)) => ?_) (fun (h8 : ¬ ((0 : Int32) ≤ (r_X8_payFault M i c))) => ?_)
  · have hq := hq.1 h8
    refine j_aload_n C dX8_pay_13 rfl ?_
    obtain ⟨hv, hq⟩ := hq
    refine j_callVvW C g_X8_81 (c_X8_know l D ca g M hv) 0 mW_0 hcl_X8 ⟨Nat.le_of_ble_eq_true rfl, Nat.le_of_ble_eq_true rfl⟩ ⟨Nat.le_of_ble_eq_true rfl, Nat.le_of_ble_eq_true rfl⟩ rfl rfl (Nat.le_of_ble_eq_true rfl) dX8_pay_14 fst_m ?_
    refine j_aload_n C dX8_pay_17 rfl ?_
    refine j_iload_n C dX8_pay_18 rfl ?_
    refine j_iload_n C dX8_pay_19 rfl ?_
    obtain ⟨hv, hq⟩ := hq
    refine j_callViW C g_X8_114 (c_X8_pays l D ca g (r_X8_know M) i c hv) 0 mW_0 hcl_X8 ⟨Nat.le_of_ble_eq_true rfl, Nat.le_of_ble_eq_true rfl⟩ ⟨Nat.le_of_ble_eq_true rfl, Nat.le_of_ble_eq_true rfl⟩ rfl rfl (Nat.le_of_ble_eq_true rfl) dX8_pay_20 fst_m ?_
    have e9 : r_X8_pay M i c = ((r_X8_pays (r_X8_know M) i c).1, (r_X8_pays (r_X8_know M) i c).2) := by rw [r_X8_pay, if_pos h8]
    exact j_iret E dX8_pay_23 (jD_i e9 (mW ca g))
  · have hq := hq.2 h8
    refine j_iload_n C dX8_pay_11 rfl ?_
    have e9 : r_X8_pay M i c = ((r_X8_payFault M i c), M) := by rw [r_X8_pay, if_neg h8]
    exact j_iret E dX8_pay_12 (jD_i e9 (mW ca g))
theorem rem_in {a N : Int32} (h : vp_in a 8) (h0 : 0 < N) (h8 : N ≤ 8) : vp_in ((a + 1) - (a + 1) / N * N) 8 := by
  obtain ⟨j, hj, rfl⟩ := vp_in_of h (by decide)
  have e8 : (8 : Int32).toInt = 8 := rfl
  have e0 : (0 : Int32).toInt = 0 := rfl
  have h1 := Int32.lt_iff_toInt_lt.mp h0
  have h2 := Int32.le_iff_toInt_le.mp h8
  obtain ⟨q, hq, rfl⟩ := nI_of (x := N) (fun z => by have := Int32.lt_iff_toInt_lt.mp z; omega)
  rw [nI_toInt hq] at h1 h2
  rw [nI_1, pk_rem (by omega) (by omega) hq]
  exact vp_in_nI (by have := Nat.mod_lt (j + 1) (show 0 < q by omega); omega) (by decide)
theorem pos_ne {N : Int32} (h0 : 0 < N) : ¬ N = 0 := fun z => by rw [z] at h0; exact absurd h0 (by decide)
theorem nab_p {q : Int32} {n : Nat} (h : ¬ q ≤ 0) (hm : q.toInt.natAbs < n + 1) : (q - 1).toInt.natAbs < n := by
  have h1 := Int32.lt_iff_toInt_lt.mp (Int32.not_le.mp h)
  have h3 : q.toInt ≤ 2147483647 := Int32.toInt_le q
  have e0 : (0 : Int32).toInt = 0 := rfl
  have e5 : (q - 1).toInt = q.toInt - 1 := by
    rw [Int32.toInt_sub, show (1 : Int32).toInt = 1 from rfl, Int.bmod_eq_of_le] <;> omega
  omega
theorem nab_n {q : Int32} {n : Nat} (hn : ¬ q = 0) (h : q ≤ 0) (hm : q.toInt.natAbs < n + 1) : (q - (-1)).toInt.natAbs < n := by
  have h1 := Int32.le_iff_toInt_le.mp h
  have h3 : -2147483648 ≤ q.toInt := Int32.le_toInt q
  have e0 : (0 : Int32).toInt = 0 := rfl
  have h2 : q.toInt ≠ 0 := fun z => hn (Int32.toInt_inj.mp (z.trans e0.symm))
  have e5 : (q - (-1)).toInt = q.toInt + 1 := by
    rw [Int32.toInt_sub, show (-1 : Int32).toInt = -1 from rfl, Int.bmod_eq_of_le] <;> omega
  omega
set_option maxRecDepth 100000 in
set_option maxHeartbeats 4000000 in
theorem rd_29 {S : jB} {k0 : Nat} {v0 : Int32} {i : Nat} : (up2 S 0 k0 v0) 5 i = S 5 i := rfl
set_option maxRecDepth 100000 in
set_option maxHeartbeats 4000000 in
theorem fa_m_6 {ca : Nat → ClassId} {g : Nat → Nat} {M : jB} {i : Nat} {v : Int32} : (mW ca g M).set 6 (g 6, .inl (ca 0, 8, .inl (upd (M 5) i v))) = mW ca g (up2 M 5 i v) := rfl

def z_X8_share_0 (loss : Int32) (M152 : jB) : jB := (up2 M152 0 ((1 : Int32)).toNatClampNeg ((M152 0 (1 : Int32).toNatClampNeg) + loss))
def z_X8_share_1 (loss : Int32) (M152 : jB) : jB := (up2 (z_X8_share_0 loss M152) 0 ((13 : Int32)).toNatClampNeg (((z_X8_share_0 loss M152) 0 (13 : Int32).toNatClampNeg) + loss))
def z_X8_share_2 (x152_5 : Int32) (M152 : jB) : jB := (up2 M152 0 ((r_X8_ofMember x152_5 (2 : Int32))).toNatClampNeg ((M152 0 (r_X8_ofMember x152_5 (2 : Int32)).toNatClampNeg) - (M152 5 x152_5.toNatClampNeg)))
def z_X8_share_3 (x152_5 : Int32) (M152 : jB) : jB := (up2 (z_X8_share_2 x152_5 M152) 0 ((r_X8_ofMember x152_5 (3 : Int32))).toNatClampNeg (((z_X8_share_2 x152_5 M152) 0 (r_X8_ofMember x152_5 (3 : Int32)).toNatClampNeg) + (M152 5 x152_5.toNatClampNeg)))
def L_X8_share_152 (M : jB) (loss : Int32) : Nat → Int32 → jB → jB
  | 0, _, _ => M
  | n152 + 1, x152_5, M152 => (if (M 0 (8 : Int32).toNatClampNeg) ≤ x152_5 then (z_X8_share_1 loss M152) else L_X8_share_152 M loss n152 (x152_5 + (1 : Int32)) (z_X8_share_3 x152_5 M152))
def NL_X8_share_152 (M : jB) (loss : Int32) : Nat → Int32 → jB → Prop
  | 0, _, _ => True
  | n152 + 1, x152_5, M152 => (((M 0 (8 : Int32).toNatClampNeg) ≤ x152_5 → True) ∧ (¬ ((M 0 (8 : Int32).toNatClampNeg) ≤ x152_5) → NL_X8_share_152 M loss n152 (x152_5 + (1 : Int32)) (z_X8_share_3 x152_5 M152)))
def z_X8_share_4 (x102_5 : Int32) (M102 : jB) : jB := (up2 M102 5 (x102_5).toNatClampNeg ((M102 5 x102_5.toNatClampNeg) + (-1 : Int32)))
def z_X8_share_5 (x102_5 : Int32) (M102 : jB) : jB := (up2 M102 5 (x102_5).toNatClampNeg ((M102 5 x102_5.toNatClampNeg) + (1 : Int32)))
def L_X8_share_102 (M : jB) (loss : Int32) : Nat → Int32 → Int32 → jB → jB
  | 0, _, _, _ => M
  | n102 + 1, x102_4, x102_5, M102 => (if x102_4 = (0 : Int32) then L_X8_share_152 M loss (((M 0 8).toInt - (0 : Int32).toInt).toNat + 1) (0 : Int32) M102 else (if x102_4 ≤ (0 : Int32) then L_X8_share_102 M loss n102 (x102_4 - (-1 : Int32)) ((x102_5 + (1 : Int32)) - (x102_5 + (1 : Int32)) / (M 0 (8 : Int32).toNatClampNeg) * (M 0 (8 : Int32).toNatClampNeg)) (z_X8_share_4 x102_5 M102) else L_X8_share_102 M loss n102 (x102_4 - (1 : Int32)) ((x102_5 + (1 : Int32)) - (x102_5 + (1 : Int32)) / (M 0 (8 : Int32).toNatClampNeg) * (M 0 (8 : Int32).toNatClampNeg)) (z_X8_share_5 x102_5 M102)))
def NL_X8_share_102 (M : jB) (loss : Int32) : Nat → Int32 → Int32 → jB → Prop
  | 0, _, _, _ => True
  | n102 + 1, x102_4, x102_5, M102 => ((x102_4 = (0 : Int32) → NL_X8_share_152 M loss (((M 0 8).toInt - (0 : Int32).toInt).toNat + 1) (0 : Int32) M102) ∧ (¬ (x102_4 = (0 : Int32)) → ((x102_4 ≤ (0 : Int32) → NL_X8_share_102 M loss n102 (x102_4 - (-1 : Int32)) ((x102_5 + (1 : Int32)) - (x102_5 + (1 : Int32)) / (M 0 (8 : Int32).toNatClampNeg) * (M 0 (8 : Int32).toNatClampNeg)) (z_X8_share_4 x102_5 M102)) ∧ (¬ (x102_4 ≤ (0 : Int32)) → NL_X8_share_102 M loss n102 (x102_4 - (1 : Int32)) ((x102_5 + (1 : Int32)) - (x102_5 + (1 : Int32)) / (M 0 (8 : Int32).toNatClampNeg) * (M 0 (8 : Int32).toNatClampNeg)) (z_X8_share_5 x102_5 M102)))))
def z_X8_share_6 (loss : Int32) (x45_3 : Int32) (x45_5 : Int32) (M45 : jB) : jB := (up2 M45 5 (x45_5).toNatClampNeg (FP.f2i (FP.fdiv (FP.fmul (FP.i2f loss) (FP.i2f (M45 0 (r_X8_ofMember x45_5 (0 : Int32)).toNatClampNeg))) (FP.i2f x45_3))))
def L_X8_share_45 (M : jB) (loss : Int32) : Nat → Int32 → Int32 → Int32 → jB → jB
  | 0, _, _, _, _ => M
  | n45 + 1, x45_3, x45_4, x45_5, M45 => (if (M 0 (8 : Int32).toNatClampNeg) ≤ x45_5 then L_X8_share_102 M loss (x45_4.toInt.natAbs + 1) x45_4 (0 : Int32) M45 else L_X8_share_45 M loss n45 x45_3 (x45_4 - ((z_X8_share_6 loss x45_3 x45_5 M45) 5 x45_5.toNatClampNeg)) (x45_5 + (1 : Int32)) (z_X8_share_6 loss x45_3 x45_5 M45))
def NL_X8_share_45 (M : jB) (loss : Int32) : Nat → Int32 → Int32 → Int32 → jB → Prop
  | 0, _, _, _, _ => True
  | n45 + 1, x45_3, x45_4, x45_5, M45 => (((M 0 (8 : Int32).toNatClampNeg) ≤ x45_5 → NL_X8_share_102 M loss (x45_4.toInt.natAbs + 1) x45_4 (0 : Int32) M45) ∧ (¬ ((M 0 (8 : Int32).toNatClampNeg) ≤ x45_5) → (vf_n32 (FP.fmul (FP.i2f loss) (FP.i2f (M45 0 (r_X8_ofMember x45_5 (0 : Int32)).toNatClampNeg))) ∧ (vf_n32 (FP.fdiv (FP.fmul (FP.i2f loss) (FP.i2f (M45 0 (r_X8_ofMember x45_5 (0 : Int32)).toNatClampNeg))) (FP.i2f x45_3)) ∧ NL_X8_share_45 M loss n45 x45_3 (x45_4 - ((z_X8_share_6 loss x45_3 x45_5 M45) 5 x45_5.toNatClampNeg)) (x45_5 + (1 : Int32)) (z_X8_share_6 loss x45_3 x45_5 M45)))))
def L_X8_share_13 (M : jB) (loss : Int32) : Nat → Int32 → Int32 → jB
  | 0, _, _ => M
  | n13 + 1, x13_3, x13_4 => (if (M 0 (8 : Int32).toNatClampNeg) ≤ x13_4 then L_X8_share_45 M loss (((M 0 8).toInt - (0 : Int32).toInt).toNat + 1) x13_3 loss (0 : Int32) M else L_X8_share_13 M loss n13 (x13_3 + (M 0 (r_X8_ofMember x13_4 (0 : Int32)).toNatClampNeg)) (x13_4 + (1 : Int32)))
def NL_X8_share_13 (M : jB) (loss : Int32) : Nat → Int32 → Int32 → Prop
  | 0, _, _ => True
  | n13 + 1, x13_3, x13_4 => (((M 0 (8 : Int32).toNatClampNeg) ≤ x13_4 → NL_X8_share_45 M loss (((M 0 8).toInt - (0 : Int32).toInt).toNat + 1) x13_3 loss (0 : Int32) M) ∧ (¬ ((M 0 (8 : Int32).toNatClampNeg) ≤ x13_4) → NL_X8_share_13 M loss n13 (x13_3 + (M 0 (r_X8_ofMember x13_4 (0 : Int32)).toNatClampNeg)) (x13_4 + (1 : Int32))))
def r_X8_share (M : jB) (loss : Int32) : jB := L_X8_share_13 M loss (((M 0 8).toInt - (0 : Int32).toInt).toNat + 1) (0 : Int32) (0 : Int32)
def n_X8_share (M : jB) (loss : Int32) : Prop := ((M 0 8 ≤ 8) ∧ (((0 : Int32) < M 0 8) ∧ NL_X8_share_13 M loss (((M 0 8).toInt - (0 : Int32).toInt).toNat + 1) (0 : Int32) (0 : Int32)))
set_option maxRecDepth 100000 in
set_option maxHeartbeats 4000000 in
theorem c_X8_share (l : Launch) (D : va_G) (ca : Nat → ClassId) (g : Nat → Nat) (M : jB) (loss : Int32) (hq : n_X8_share M loss) : jM l D ca yX8_share cX8_share 7 (none : Option FieldType) 1 21 0 0 [.ref (g 0), .int loss] (mW ca g M) (jD none (mW ca g (r_X8_share M loss))) := by
  refine jM_of [(0, .ref (g 0)), (1, .int loss)] (by decide) (Nat.le_of_ble_eq_true rfl) rfl (fun X C E => ?_)
  rw [n_X8_share] at hq
  obtain ⟨hM, hq⟩ := hq
  obtain ⟨hm0, hq⟩ := hq
  refine j_aload_n C dX8_share_0 rfl ?_
  refine j_get C f_X8_7.F 0 dX8_share_1 mW_0 rfl ?_
  refine j_bipush C dX8_share_4 (8 : Int32) (by decide) ?_
  refine j_iald C 1 dX8_share_6 mW_1 (vin_c rfl) ?_
  refine j_istore_n C [(2, _), (0, _), (1, _)] dX8_share_7 (by decide) rfl ?_
  refine j_iconst C dX8_share_8 (0 : Int32) (by decide) ?_
  refine j_istore_n C [(3, _), (2, _), (0, _), (1, _)] dX8_share_9 (by decide) rfl ?_
  refine j_iconst C dX8_share_10 (0 : Int32) (by decide) ?_
  refine j_istore C [(4, _), (3, _), (2, _), (0, _), (1, _)] dX8_share_11 (by decide) rfl ?_
  have K13 : ∀ (n13 : Nat) (x13_3 : Int32) (x13_4 : Int32), ((M 0 8).toInt - x13_4.toInt).toNat < n13 → ((0 : Int32) ≤ x13_4) → NL_X8_share_13 M loss n13 x13_3 x13_4 → r_X8_share M loss = L_X8_share_13 M loss n13 x13_3 x13_4 → J l { frames := 1, cells := 0, slots := 0, locals := 21 } D 7 X 0 0 (mW ca g M) [(0, .ref (g 0)), (1, .int loss), (2, .int (M 0 (8 : Int32).toNatClampNeg)), (3, .int x13_3), (4, .int x13_4)] [] 13 := by
    intro n13
    induction n13 with
    | zero =>
      intro x13_3 x13_4 hm13
      exact absurd hm13 (Nat.not_lt_zero _)
    | succ n13 ih13 =>
      intro x13_3 x13_4 hm13 hp13 hq hr13
      rw [NL_X8_share_13] at hq
      refine j_iload C dX8_share_13 rfl ?_
      refine j_iload_n C dX8_share_15 rfl ?_
      refine j_icmp_ge (tgt := 39) C dX8_share_16 (by decide) (fun (h16 : (M 0 (8 : Int32).toNatClampNeg) ≤ x13_4) => ?_) (fun (h16 : ¬ ((M 0 (8 : Int32).toNatClampNeg) ≤ x13_4)) => ?_)
      · have hq := hq.1 h16
        refine j_iload_n C dX8_share_39 rfl ?_
        refine j_istore C [(4, _), (0, _), (1, _), (2, _), (3, _)] dX8_share_40 (by decide) rfl ?_
        refine j_iconst C dX8_share_42 (0 : Int32) (by decide) ?_
        refine j_istore C [(5, _), (4, _), (0, _), (1, _), (2, _), (3, _)] dX8_share_43 (by decide) rfl ?_
        have K45 : ∀ (n45 : Nat) (x45_3 : Int32) (x45_4 : Int32) (x45_5 : Int32) (M45 : jB), ((M 0 8).toInt - x45_5.toInt).toNat < n45 → ((0 : Int32) ≤ x45_5) → NL_X8_share_45 M loss n45 x45_3 x45_4 x45_5 M45 → r_X8_share M loss = L_X8_share_45 M loss n45 x45_3 x45_4 x45_5 M45 → J l { frames := 1, cells := 0, slots := 0, locals := 21 } D 7 X 0 0 (mW ca g M45) [(0, .ref (g 0)), (1, .int loss), (2, .int (M 0 (8 : Int32).toNatClampNeg)), (3, .int x45_3), (4, .int x45_4), (5, .int x45_5)] [] 45 := by
          intro n45
          induction n45 with
          | zero =>
            intro x45_3 x45_4 x45_5 M45 hm45
            exact absurd hm45 (Nat.not_lt_zero _)
          | succ n45 ih45 =>
            intro x45_3 x45_4 x45_5 M45 hm45 hp45 hq hr45
            rw [NL_X8_share_45] at hq
            refine j_iload C dX8_share_45 rfl ?_
            refine j_iload_n C dX8_share_47 rfl ?_
            refine j_icmp_ge (tgt := 99) C dX8_share_48 (by decide) (fun (h48 : (M 0 (8 : Int32).toNatClampNeg) ≤ x45_5) => ?_) (fun (h48 : ¬ ((M 0 (8 : Int32).toNatClampNeg) ≤ x45_5)) => ?_)
            · have hq := hq.1 h48
              refine j_iconst C dX8_share_99 (0 : Int32) (by decide) ?_
              refine j_istore C [(5, _), (0, _), (1, _), (2, _), (3, _), (4, _)] dX8_share_100 (by decide) rfl ?_
              have K102 : ∀ (n102 : Nat) (x102_4 : Int32) (x102_5 : Int32) (M102 : jB), x102_4.toInt.natAbs < n102 → (vp_in x102_5 8) → NL_X8_share_102 M loss n102 x102_4 x102_5 M102 → r_X8_share M loss = L_X8_share_102 M loss n102 x102_4 x102_5 M102 → J l { frames := 1, cells := 0, slots := 0, locals := 21 } D 7 X 0 0 (mW ca g M102) [(0, .ref (g 0)), (1, .int loss), (2, .int (M 0 (8 : Int32).toNatClampNeg)), (3, .int x45_3), (4, .int x102_4), (5, .int x102_5)] [] 102 := by
                intro n102
                induction n102 with
                | zero =>
                  intro x102_4 x102_5 M102 hm102
                  exact absurd hm102 (Nat.not_lt_zero _)
                | succ n102 ih102 =>
                  intro x102_4 x102_5 M102 hm102 hv102 hq hr102
                  rw [NL_X8_share_102] at hq
                  refine j_iload C dX8_share_102 rfl ?_
                  refine j_if_eq (tgt := 149) C dX8_share_104 (by decide) (fun (h104 : x102_4 = (0 : Int32)) => ?_) (fun (h104 : ¬ (x102_4 = (0 : Int32))) => ?_)
                  · have hq := hq.1 h104
                    refine j_iconst C dX8_share_149 (0 : Int32) (by decide) ?_
                    refine j_istore C [(5, _), (0, _), (1, _), (2, _), (3, _), (4, _)] dX8_share_150 (by decide) rfl ?_
                    have K152 : ∀ (n152 : Nat) (x152_5 : Int32) (M152 : jB), ((M 0 8).toInt - x152_5.toInt).toNat < n152 → ((0 : Int32) ≤ x152_5) → NL_X8_share_152 M loss n152 x152_5 M152 → r_X8_share M loss = L_X8_share_152 M loss n152 x152_5 M152 → J l { frames := 1, cells := 0, slots := 0, locals := 21 } D 7 X 0 0 (mW ca g M152) [(0, .ref (g 0)), (1, .int loss), (2, .int (M 0 (8 : Int32).toNatClampNeg)), (3, .int x45_3), (4, .int x102_4), (5, .int x152_5)] [] 152 := by
                      intro n152
                      induction n152 with
                      | zero =>
                        intro x152_5 M152 hm152
                        exact absurd hm152 (Nat.not_lt_zero _)
                      | succ n152 ih152 =>
                        intro x152_5 M152 hm152 hp152 hq hr152
                        rw [NL_X8_share_152] at hq
                        refine j_iload C dX8_share_152 rfl ?_
                        refine j_iload_n C dX8_share_154 rfl ?_
                        refine j_icmp_ge (tgt := 206) C dX8_share_155 (by decide) (fun (h155 : (M 0 (8 : Int32).toNatClampNeg) ≤ x152_5) => ?_) (fun (h155 : ¬ ((M 0 (8 : Int32).toNatClampNeg) ≤ x152_5)) => ?_)
                        · have hq := hq.1 h155
                          refine j_aload_n C dX8_share_206 rfl ?_
                          refine j_get C f_X8_7.F 0 dX8_share_207 mW_0 rfl ?_
                          refine j_iconst C dX8_share_210 (1 : Int32) (by decide) ?_
                          refine j_dup2 C dX8_share_211 rfl rfl ?_
                          refine j_iald C 1 dX8_share_212 mW_1 (vin_c rfl) ?_
                          refine j_iload_n C dX8_share_213 rfl ?_
                          refine j_iadd C dX8_share_214 ?_
                          refine j_iast C 1 dX8_share_215 mW_1 (vin_c rfl) ?_
                          refine j_ws (ws' := (mW ca g (z_X8_share_0 loss M152))) fa_m_1 ?_
                          refine j_aload_n C dX8_share_216 rfl ?_
                          refine j_get C f_X8_7.F 0 dX8_share_217 mW_0 rfl ?_
                          refine j_bipush C dX8_share_220 (13 : Int32) (by decide) ?_
                          refine j_dup2 C dX8_share_222 rfl rfl ?_
                          refine j_iald C 1 dX8_share_223 mW_1 (vin_c rfl) ?_
                          refine j_iload_n C dX8_share_224 rfl ?_
                          refine j_iadd C dX8_share_225 ?_
                          refine j_iast C 1 dX8_share_226 mW_1 (vin_c rfl) ?_
                          refine j_ws (ws' := (mW ca g (z_X8_share_1 loss M152))) fa_m_1 ?_
                          have e9 : r_X8_share M loss = (z_X8_share_1 loss M152) := by rw [hr152, L_X8_share_152, if_pos h155]
                          exact j_vret E dX8_share_227 (by rw [e9]; exact ⟨rfl, rfl⟩)
                        · have hq := hq.2 h155
                          refine j_aload_n C dX8_share_158 rfl ?_
                          refine j_get C f_X8_7.F 0 dX8_share_159 mW_0 rfl ?_
                          refine j_iload C dX8_share_162 rfl ?_
                          refine j_iconst C dX8_share_164 (2 : Int32) (by decide) ?_
                          refine j_callSiR C g_X8_84 (c_X8_ofMember l D ca x152_5 (2 : Int32)) ⟨Nat.le_of_ble_eq_true rfl, Nat.le_of_ble_eq_true rfl⟩ ⟨Nat.le_of_ble_eq_true rfl, Nat.le_of_ble_eq_true rfl⟩ [] rfl rfl rfl rfl (Nat.le_of_ble_eq_true rfl) dX8_share_165 ?_
                          refine j_dup2 C dX8_share_168 rfl rfl ?_
                          refine j_iald C 1 dX8_share_169 mW_1 (vin_om (vin_b 8 rfl hp152 h155 hM) (vin_c rfl)) ?_
                          refine j_aload_n C dX8_share_170 rfl ?_
                          refine j_get C f_X8_32.F 0 dX8_share_171 mW_0 rfl ?_
                          refine j_iload C dX8_share_174 rfl ?_
                          refine j_iald C 6 dX8_share_176 mW_6 (vin_b 8 rfl hp152 h155 hM) ?_
                          refine j_isub C dX8_share_177 ?_
                          refine j_iast C 1 dX8_share_178 mW_1 (vin_om (vin_b 8 rfl hp152 h155 hM) (vin_c rfl)) ?_
                          refine j_ws (ws' := (mW ca g (z_X8_share_2 x152_5 M152))) fa_m_1 ?_
                          refine j_aload_n C dX8_share_179 rfl ?_
                          refine j_get C f_X8_7.F 0 dX8_share_180 mW_0 rfl ?_
                          refine j_iload C dX8_share_183 rfl ?_
                          refine j_iconst C dX8_share_185 (3 : Int32) (by decide) ?_
                          refine j_callSiR C g_X8_84 (c_X8_ofMember l D ca x152_5 (3 : Int32)) ⟨Nat.le_of_ble_eq_true rfl, Nat.le_of_ble_eq_true rfl⟩ ⟨Nat.le_of_ble_eq_true rfl, Nat.le_of_ble_eq_true rfl⟩ [] rfl rfl rfl rfl (Nat.le_of_ble_eq_true rfl) dX8_share_186 ?_
                          refine j_dup2 C dX8_share_189 rfl rfl ?_
                          refine j_iald C 1 dX8_share_190 mW_1 (vin_om (vin_b 8 rfl hp152 h155 hM) (vin_c rfl)) ?_
                          refine j_aload_n C dX8_share_191 rfl ?_
                          refine j_get C f_X8_32.F 0 dX8_share_192 mW_0 rfl ?_
                          refine j_iload C dX8_share_195 rfl ?_
                          refine j_iald C 6 dX8_share_197 mW_6 (vin_b 8 rfl hp152 h155 hM) ?_
                          refine j_sti rd_29 ?_
                          refine j_iadd C dX8_share_198 ?_
                          refine j_iast C 1 dX8_share_199 mW_1 (vin_om (vin_b 8 rfl hp152 h155 hM) (vin_c rfl)) ?_
                          refine j_ws (ws' := (mW ca g (z_X8_share_3 x152_5 M152))) fa_m_1 ?_
                          refine j_iinc C [(5, _), (0, _), (1, _), (2, _), (3, _), (4, _)] (v := (x152_5 + (1 : Int32))) dX8_share_200 rfl (iinc_1 _) (by decide) rfl ?_
                          refine j_goto (tgt := 152) C dX8_share_203 (by decide) ?_
                          refine j_lv [(0, .ref (g 0)), (1, .int loss), (2, .int (M 0 (8 : Int32).toNatClampNeg)), (3, .int x45_3), (4, .int x102_4), (5, .int (x152_5 + (1 : Int32)))] rfl ?_
                          exact ih152 (x152_5 + (1 : Int32)) (z_X8_share_3 x152_5 M152) (jms h155 hm152) (i_pos' h155 hp152) hq (by rw [hr152, L_X8_share_152, if_neg h155])
                    refine j_lv [(0, .ref (g 0)), (1, .int loss), (2, .int (M 0 (8 : Int32).toNatClampNeg)), (3, .int x45_3), (4, .int x102_4), (5, .int (0 : Int32))] rfl ?_
                    exact K152 (((M 0 8).toInt - (0 : Int32).toInt).toNat + 1) (0 : Int32) M102 (Nat.lt_succ_self _) (by decide) hq (by rw [hr102, L_X8_share_102, if_pos h104])
                  · have hq := hq.2 h104
                    refine j_iload C dX8_share_107 rfl ?_
                    refine j_if_le (tgt := 116) C dX8_share_109 (by decide) (fun (h109 : x102_4 ≤ (0 : Int32)) => ?_) (fun (h109 : ¬ (x102_4 ≤ (0 : Int32))) => ?_)
                    · have hq := hq.1 h109
                      refine j_iconst C dX8_share_116 (-1 : Int32) (by decide) ?_
                      refine j_istore C [(6, _), (0, _), (1, _), (2, _), (3, _), (4, _), (5, _)] dX8_share_117 (by decide) rfl ?_
                      refine j_aload_n C dX8_share_119 rfl ?_
                      refine j_get C f_X8_32.F 0 dX8_share_120 mW_0 rfl ?_
                      refine j_iload C dX8_share_123 rfl ?_
                      refine j_dup2 C dX8_share_125 rfl rfl ?_
                      refine j_iald C 6 dX8_share_126 mW_6 hv102 ?_
                      refine j_iload C dX8_share_127 rfl ?_
                      refine j_iadd C dX8_share_129 ?_
                      refine j_iast C 6 dX8_share_130 mW_6 hv102 ?_
                      refine j_ws (ws' := (mW ca g (z_X8_share_4 x102_5 M102))) fa_m_6 ?_
                      refine j_iload C dX8_share_131 rfl ?_
                      refine j_iload C dX8_share_133 rfl ?_
                      refine j_isub C dX8_share_135 ?_
                      refine j_istore C [(4, _), (6, _), (0, _), (1, _), (2, _), (3, _), (5, _)] dX8_share_136 (by decide) rfl ?_
                      refine j_iload C dX8_share_138 rfl ?_
                      refine j_iconst C dX8_share_140 (1 : Int32) (by decide) ?_
                      refine j_iadd C dX8_share_141 ?_
                      refine j_iload_n C dX8_share_142 rfl ?_
                      refine j_irem C dX8_share_143 (pos_ne hm0) ?_
                      refine j_istore C [(5, _), (4, _), (6, _), (0, _), (1, _), (2, _), (3, _)] dX8_share_144 (by decide) rfl ?_
                      refine j_goto (tgt := 102) C dX8_share_146 (by decide) ?_
                      refine j_lv [(0, .ref (g 0)), (1, .int loss), (2, .int (M 0 (8 : Int32).toNatClampNeg)), (3, .int x45_3), (4, .int (x102_4 - (-1 : Int32))), (5, .int ((x102_5 + (1 : Int32)) - (x102_5 + (1 : Int32)) / (M 0 (8 : Int32).toNatClampNeg) * (M 0 (8 : Int32).toNatClampNeg)))] rfl ?_
                      exact ih102 (x102_4 - (-1 : Int32)) ((x102_5 + (1 : Int32)) - (x102_5 + (1 : Int32)) / (M 0 (8 : Int32).toNatClampNeg) * (M 0 (8 : Int32).toNatClampNeg)) (z_X8_share_4 x102_5 M102) (by first | exact nab_p h109 hm102 | exact nab_n h104 h109 hm102) (rem_in hv102 hm0 hM) hq (by rw [hr102, L_X8_share_102, if_neg h104, if_pos h109])
                    · have hq := hq.2 h109
                      refine j_iconst C dX8_share_112 (1 : Int32) (by decide) ?_
                      refine j_goto (tgt := 117) C dX8_share_113 (by decide) ?_
                      refine j_istore C [(6, _), (0, _), (1, _), (2, _), (3, _), (4, _), (5, _)] dX8_share_117 (by decide) rfl ?_
                      refine j_aload_n C dX8_share_119 rfl ?_
                      refine j_get C f_X8_32.F 0 dX8_share_120 mW_0 rfl ?_
                      refine j_iload C dX8_share_123 rfl ?_
                      refine j_dup2 C dX8_share_125 rfl rfl ?_
                      refine j_iald C 6 dX8_share_126 mW_6 hv102 ?_
                      refine j_iload C dX8_share_127 rfl ?_
                      refine j_iadd C dX8_share_129 ?_
                      refine j_iast C 6 dX8_share_130 mW_6 hv102 ?_
                      refine j_ws (ws' := (mW ca g (z_X8_share_5 x102_5 M102))) fa_m_6 ?_
                      refine j_iload C dX8_share_131 rfl ?_
                      refine j_iload C dX8_share_133 rfl ?_
                      refine j_isub C dX8_share_135 ?_
                      refine j_istore C [(4, _), (6, _), (0, _), (1, _), (2, _), (3, _), (5, _)] dX8_share_136 (by decide) rfl ?_
                      refine j_iload C dX8_share_138 rfl ?_
                      refine j_iconst C dX8_share_140 (1 : Int32) (by decide) ?_
                      refine j_iadd C dX8_share_141 ?_
                      refine j_iload_n C dX8_share_142 rfl ?_
                      refine j_irem C dX8_share_143 (pos_ne hm0) ?_
                      refine j_istore C [(5, _), (4, _), (6, _), (0, _), (1, _), (2, _), (3, _)] dX8_share_144 (by decide) rfl ?_
                      refine j_goto (tgt := 102) C dX8_share_146 (by decide) ?_
                      refine j_lv [(0, .ref (g 0)), (1, .int loss), (2, .int (M 0 (8 : Int32).toNatClampNeg)), (3, .int x45_3), (4, .int (x102_4 - (1 : Int32))), (5, .int ((x102_5 + (1 : Int32)) - (x102_5 + (1 : Int32)) / (M 0 (8 : Int32).toNatClampNeg) * (M 0 (8 : Int32).toNatClampNeg)))] rfl ?_
                      exact ih102 (x102_4 - (1 : Int32)) ((x102_5 + (1 : Int32)) - (x102_5 + (1 : Int32)) / (M 0 (8 : Int32).toNatClampNeg) * (M 0 (8 : Int32).toNatClampNeg)) (z_X8_share_5 x102_5 M102) (by first | exact nab_p h109 hm102 | exact nab_n h104 h109 hm102) (rem_in hv102 hm0 hM) hq (by rw [hr102, L_X8_share_102, if_neg h104, if_neg h109])
              refine j_lv [(0, .ref (g 0)), (1, .int loss), (2, .int (M 0 (8 : Int32).toNatClampNeg)), (3, .int x45_3), (4, .int x45_4), (5, .int (0 : Int32))] rfl ?_
              exact K102 (x45_4.toInt.natAbs + 1) x45_4 (0 : Int32) M45 (Nat.lt_succ_self _) (vin_c rfl) hq (by rw [hr45, L_X8_share_45, if_pos h48])
            · have hq := hq.2 h48
              refine j_iload_n C dX8_share_51 rfl ?_
              refine j_i2f C dX8_share_52 ?_
              refine j_aload_n C dX8_share_53 rfl ?_
              refine j_get C f_X8_7.F 0 dX8_share_54 mW_0 rfl ?_
              refine j_iload C dX8_share_57 rfl ?_
              refine j_iconst C dX8_share_59 (0 : Int32) (by decide) ?_
              refine j_callSiR C g_X8_84 (c_X8_ofMember l D ca x45_5 (0 : Int32)) ⟨Nat.le_of_ble_eq_true rfl, Nat.le_of_ble_eq_true rfl⟩ ⟨Nat.le_of_ble_eq_true rfl, Nat.le_of_ble_eq_true rfl⟩ [] rfl rfl rfl rfl (Nat.le_of_ble_eq_true rfl) dX8_share_60 ?_
              refine j_iald C 1 dX8_share_63 mW_1 (vin_om (vin_b 8 rfl hp45 h48 hM) (vin_c rfl)) ?_
              refine j_i2f C dX8_share_64 ?_
              obtain ⟨hv, hq⟩ := hq
              refine j_fmul C dX8_share_65 hv ?_
              refine j_fstore C [(6, _), (0, _), (1, _), (2, _), (3, _), (4, _), (5, _)] dX8_share_66 (by decide) rfl ?_
              refine j_aload_n C dX8_share_68 rfl ?_
              refine j_get C f_X8_32.F 0 dX8_share_69 mW_0 rfl ?_
              refine j_iload C dX8_share_72 rfl ?_
              refine j_fload C dX8_share_74 rfl ?_
              refine j_iload_n C dX8_share_76 rfl ?_
              refine j_i2f C dX8_share_77 ?_
              obtain ⟨hv, hq⟩ := hq
              refine j_fdiv C dX8_share_78 hv ?_
              refine j_f2i C dX8_share_79 ?_
              refine j_iast C 6 dX8_share_80 mW_6 (vin_b 8 rfl hp45 h48 hM) ?_
              refine j_ws (ws' := (mW ca g (z_X8_share_6 loss x45_3 x45_5 M45))) fa_m_6 ?_
              refine j_iload C dX8_share_81 rfl ?_
              refine j_aload_n C dX8_share_83 rfl ?_
              refine j_get C f_X8_32.F 0 dX8_share_84 mW_0 rfl ?_
              refine j_iload C dX8_share_87 rfl ?_
              refine j_iald C 6 dX8_share_89 mW_6 (vin_b 8 rfl hp45 h48 hM) ?_
              refine j_isub C dX8_share_90 ?_
              refine j_istore C [(4, _), (6, _), (0, _), (1, _), (2, _), (3, _), (5, _)] dX8_share_91 (by decide) rfl ?_
              refine j_iinc C [(5, _), (4, _), (6, _), (0, _), (1, _), (2, _), (3, _)] (v := (x45_5 + (1 : Int32))) dX8_share_93 rfl (iinc_1 _) (by decide) rfl ?_
              refine j_goto (tgt := 45) C dX8_share_96 (by decide) ?_
              refine j_lv [(0, .ref (g 0)), (1, .int loss), (2, .int (M 0 (8 : Int32).toNatClampNeg)), (3, .int x45_3), (4, .int (x45_4 - ((z_X8_share_6 loss x45_3 x45_5 M45) 5 x45_5.toNatClampNeg))), (5, .int (x45_5 + (1 : Int32)))] rfl ?_
              exact ih45 x45_3 (x45_4 - ((z_X8_share_6 loss x45_3 x45_5 M45) 5 x45_5.toNatClampNeg)) (x45_5 + (1 : Int32)) (z_X8_share_6 loss x45_3 x45_5 M45) (jms h48 hm45) (i_pos' h48 hp45) hq (by rw [hr45, L_X8_share_45, if_neg h48])
        refine j_lv [(0, .ref (g 0)), (1, .int loss), (2, .int (M 0 (8 : Int32).toNatClampNeg)), (3, .int x13_3), (4, .int loss), (5, .int (0 : Int32))] rfl ?_
        exact K45 (((M 0 8).toInt - (0 : Int32).toInt).toNat + 1) x13_3 loss (0 : Int32) M (Nat.lt_succ_self _) (by decide) hq (by rw [hr13, L_X8_share_13, if_pos h16])
      · have hq := hq.2 h16
        refine j_iload_n C dX8_share_19 rfl ?_
        refine j_aload_n C dX8_share_20 rfl ?_
        refine j_get C f_X8_7.F 0 dX8_share_21 mW_0 rfl ?_
        refine j_iload C dX8_share_24 rfl ?_
        refine j_iconst C dX8_share_26 (0 : Int32) (by decide) ?_
        refine j_callSiR C g_X8_84 (c_X8_ofMember l D ca x13_4 (0 : Int32)) ⟨Nat.le_of_ble_eq_true rfl, Nat.le_of_ble_eq_true rfl⟩ ⟨Nat.le_of_ble_eq_true rfl, Nat.le_of_ble_eq_true rfl⟩ [] rfl rfl rfl rfl (Nat.le_of_ble_eq_true rfl) dX8_share_27 ?_
        refine j_iald C 1 dX8_share_30 mW_1 (vin_om (vin_b 8 rfl hp13 h16 hM) (vin_c rfl)) ?_
        refine j_iadd C dX8_share_31 ?_
        refine j_istore_n C [(3, _), (0, _), (1, _), (2, _), (4, _)] dX8_share_32 (by decide) rfl ?_
        refine j_iinc C [(4, _), (3, _), (0, _), (1, _), (2, _)] (v := (x13_4 + (1 : Int32))) dX8_share_33 rfl (iinc_1 _) (by decide) rfl ?_
        refine j_goto (tgt := 13) C dX8_share_36 (by decide) ?_
        refine j_lv [(0, .ref (g 0)), (1, .int loss), (2, .int (M 0 (8 : Int32).toNatClampNeg)), (3, .int (x13_3 + (M 0 (r_X8_ofMember x13_4 (0 : Int32)).toNatClampNeg))), (4, .int (x13_4 + (1 : Int32)))] rfl ?_
        exact ih13 (x13_3 + (M 0 (r_X8_ofMember x13_4 (0 : Int32)).toNatClampNeg)) (x13_4 + (1 : Int32)) (jms h16 hm13) (i_pos' h16 hp13) hq (by rw [hr13, L_X8_share_13, if_neg h16])
  refine j_lv [(0, .ref (g 0)), (1, .int loss), (2, .int (M 0 (8 : Int32).toNatClampNeg)), (3, .int (0 : Int32)), (4, .int (0 : Int32))] rfl ?_
  exact K13 (((M 0 8).toInt - (0 : Int32).toInt).toNat + 1) (0 : Int32) (0 : Int32) (Nat.lt_succ_self _) (by decide) hq (by rw [r_X8_share])
