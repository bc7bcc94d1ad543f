

def r_X3_has (B : jB) (i : Int32) : Int32 := (if i < (0 : Int32) then (0 : Int32) else (if (B 16 1) ≤ i then (0 : Int32) else (if (20 : Int32) ≤ i then (0 : Int32) else (1 : Int32))))
set_option maxRecDepth 100000 in
set_option maxHeartbeats 4000000 in
theorem c_X3_has (l : Launch) (D : va_G) (ca : Nat → ClassId) (g : Nat → Nat) (B : jB) (i : Int32) : jM l D ca yX3_has cX3_has 2 (Option.some FieldType.boolean) 0 0 0 0 [.ref (g 3), .int i] (ivW ca g B) (jD (some (.int (r_X3_has B i))) (ivW ca g B)) := by
  refine jM_of [(0, .ref (g 3)), (1, .int i)] (by decide) (Nat.le_of_ble_eq_true rfl) rfl (fun X C E => ?_)
  refine j_iload_n C dX3_has_0 rfl ?_
  refine j_if_lt (tgt := 22) C dX3_has_1 (by decide) (fun (h1 : i < (0 : Int32)) => ?_) (fun (h1 : ¬ (i < (0 : Int32))) => ?_)
  · refine j_iconst C dX3_has_22 (0 : Int32) (by decide) ?_
    have e9 : r_X3_has B i = (0 : Int32) := by rw [r_X3_has, if_pos h1]
    exact j_zret E rfl dX3_has_23 (by rw [e9]; exact ⟨rfl, rfl⟩)
  · refine j_iload_n C dX3_has_4 rfl ?_
    refine j_aload_n C dX3_has_5 rfl ?_
    refine j_get C f_X3_33.F 0 dX3_has_6 ivW_0 rfl ?_
    refine j_icmp_ge (tgt := 22) C dX3_has_9 (by decide) (fun (h9 : (B 16 1) ≤ i) => ?_) (fun (h9 : ¬ ((B 16 1) ≤ i)) => ?_)
    · refine j_iconst C dX3_has_22 (0 : Int32) (by decide) ?_
      have e9 : r_X3_has B i = (0 : Int32) := by rw [r_X3_has, if_neg h1, if_pos h9]
      exact j_zret E rfl dX3_has_23 (by rw [e9]; exact ⟨rfl, rfl⟩)
    · refine j_iload_n C dX3_has_12 rfl ?_
      refine j_bipush C dX3_has_13 (20 : Int32) (by decide) ?_
      refine j_icmp_ge (tgt := 22) C dX3_has_15 (by decide) (fun (h15 : (20 : Int32) ≤ i) => ?_) (fun (h15 : ¬ ((20 : Int32) ≤ i)) => ?_)
      · refine j_iconst C dX3_has_22 (0 : Int32) (by decide) ?_
        have e9 : r_X3_has B i = (0 : Int32) := by rw [r_X3_has, if_neg h1, if_neg h9, if_pos h15]
        exact j_zret E rfl dX3_has_23 (by rw [e9]; exact ⟨rfl, rfl⟩)
      · refine j_iconst C dX3_has_18 (1 : Int32) (by decide) ?_
        refine j_goto (tgt := 23) C dX3_has_19 (by decide) ?_
        have e9 : r_X3_has B i = (1 : Int32) := by rw [r_X3_has, if_neg h1, if_neg h9, if_neg h15]
        exact j_zret E rfl dX3_has_23 (by rw [e9]; exact ⟨rfl, rfl⟩)


def r_X4_has (B : jB) (i : Int32) : Int32 := (if i < (0 : Int32) then (0 : Int32) else (if (B 16 0) ≤ i then (0 : Int32) else (if (8 : Int32) ≤ i then (0 : Int32) else (1 : Int32))))
set_option maxRecDepth 100000 in
set_option maxHeartbeats 4000000 in
theorem c_X4_has (l : Launch) (D : va_G) (ca : Nat → ClassId) (g : Nat → Nat) (B : jB) (i : Int32) : jM l D ca yX4_has cX4_has 2 (Option.some FieldType.boolean) 0 0 0 0 [.ref (g 1), .int i] (mbW ca g B) (jD (some (.int (r_X4_has B i))) (mbW ca g B)) := by
  refine jM_of [(0, .ref (g 1)), (1, .int i)] (by decide) (Nat.le_of_ble_eq_true rfl) rfl (fun X C E => ?_)
  refine j_iload_n C dX4_has_0 rfl ?_
  refine j_if_lt (tgt := 22) C dX4_has_1 (by decide) (fun (h1 : i < (0 : Int32)) => ?_) (fun (h1 : ¬ (i < (0 : Int32))) => ?_)
  · refine j_iconst C dX4_has_22 (0 : Int32) (by decide) ?_
    have e9 : r_X4_has B i = (0 : Int32) := by rw [r_X4_has, if_pos h1]
    exact j_zret E rfl dX4_has_23 (by rw [e9]; exact ⟨rfl, rfl⟩)
  · refine j_iload_n C dX4_has_4 rfl ?_
    refine j_aload_n C dX4_has_5 rfl ?_
    refine j_get C f_X4_24.F 0 dX4_has_6 mbW_0 rfl ?_
    refine j_icmp_ge (tgt := 22) C dX4_has_9 (by decide) (fun (h9 : (B 16 0) ≤ i) => ?_) (fun (h9 : ¬ ((B 16 0) ≤ i)) => ?_)
    · refine j_iconst C dX4_has_22 (0 : Int32) (by decide) ?_
      have e9 : r_X4_has B i = (0 : Int32) := by rw [r_X4_has, if_neg h1, if_pos h9]
      exact j_zret E rfl dX4_has_23 (by rw [e9]; exact ⟨rfl, rfl⟩)
    · refine j_iload_n C dX4_has_12 rfl ?_
      refine j_bipush C dX4_has_13 (8 : Int32) (by decide) ?_
      refine j_icmp_ge (tgt := 22) C dX4_has_15 (by decide) (fun (h15 : (8 : Int32) ≤ i) => ?_) (fun (h15 : ¬ ((8 : Int32) ≤ i)) => ?_)
      · refine j_iconst C dX4_has_22 (0 : Int32) (by decide) ?_
        have e9 : r_X4_has B i = (0 : Int32) := by rw [r_X4_has, if_neg h1, if_neg h9, if_pos h15]
        exact j_zret E rfl dX4_has_23 (by rw [e9]; exact ⟨rfl, rfl⟩)
      · refine j_iconst C dX4_has_18 (1 : Int32) (by decide) ?_
        refine j_goto (tgt := 23) C dX4_has_19 (by decide) ?_
        have e9 : r_X4_has B i = (1 : Int32) := by rw [r_X4_has, if_neg h1, if_neg h9, if_neg h15]
        exact j_zret E rfl dX4_has_23 (by rw [e9]; exact ⟨rfl, rfl⟩)


def r_X1_has (B : jB) (i : Int32) : Int32 := (if i < (0 : Int32) then (0 : Int32) else (if (6 : Int32) ≤ i then (0 : Int32) else (1 : Int32)))
set_option maxRecDepth 100000 in
set_option maxHeartbeats 4000000 in
theorem c_X1_has (l : Launch) (D : va_G) (ca : Nat → ClassId) (g : Nat → Nat) (B : jB) (i : Int32) : jM l D ca yX1_has cX1_has 2 (Option.some FieldType.boolean) 0 0 0 0 [.ref (g 2), .int i] (clW ca g B) (jD (some (.int (r_X1_has B i))) (clW ca g B)) := by
  refine jM_of [(0, .ref (g 2)), (1, .int i)] (by decide) (Nat.le_of_ble_eq_true rfl) rfl (fun X C E => ?_)
  refine j_iload_n C dX1_has_0 rfl ?_
  refine j_if_lt (tgt := 14) C dX1_has_1 (by decide) (fun (h1 : i < (0 : Int32)) => ?_) (fun (h1 : ¬ (i < (0 : Int32))) => ?_)
  · refine j_iconst C dX1_has_14 (0 : Int32) (by decide) ?_
    have e9 : r_X1_has B i = (0 : Int32) := by rw [r_X1_has, if_pos h1]
    exact j_zret E rfl dX1_has_15 (by rw [e9]; exact ⟨rfl, rfl⟩)
  · refine j_iload_n C dX1_has_4 rfl ?_
    refine j_bipush C dX1_has_5 (6 : Int32) (by decide) ?_
    refine j_icmp_ge (tgt := 14) C dX1_has_7 (by decide) (fun (h7 : (6 : Int32) ≤ i) => ?_) (fun (h7 : ¬ ((6 : Int32) ≤ i)) => ?_)
    · refine j_iconst C dX1_has_14 (0 : Int32) (by decide) ?_
      have e9 : r_X1_has B i = (0 : Int32) := by rw [r_X1_has, if_neg h1, if_pos h7]
      exact j_zret E rfl dX1_has_15 (by rw [e9]; exact ⟨rfl, rfl⟩)
    · refine j_iconst C dX1_has_10 (1 : Int32) (by decide) ?_
      refine j_goto (tgt := 15) C dX1_has_11 (by decide) ?_
      have e9 : r_X1_has B i = (1 : Int32) := by rw [r_X1_has, if_neg h1, if_neg h7]
      exact j_zret E rfl dX1_has_15 (by rw [e9]; exact ⟨rfl, rfl⟩)
theorem has_X3 {B : jB} {i : Int32} (h : ¬ r_X3_has B i = 0) : vp_in i 20 := by
  unfold r_X3_has at h
  by_cases h1 : i < 0
  · rw [if_pos h1] at h; exact absurd rfl h
  · rw [if_neg h1] at h
    by_cases h2 : B 16 1 ≤ i
    · rw [if_pos h2] at h; exact absurd rfl h
    · rw [if_neg h2] at h
      by_cases h3 : (20 : Int32) ≤ i
      · rw [if_pos h3] at h; exact absurd rfl h
      · exact vin_lt 20 rfl (Int32.not_lt.mp h1) (Int32.not_le.mp h3)
theorem has_X4 {B : jB} {i : Int32} (h : ¬ r_X4_has B i = 0) : vp_in i 8 := by
  unfold r_X4_has at h
  by_cases h1 : i < 0
  · rw [if_pos h1] at h; exact absurd rfl h
  · rw [if_neg h1] at h
    by_cases h2 : B 16 0 ≤ i
    · rw [if_pos h2] at h; exact absurd rfl h
    · rw [if_neg h2] at h
      by_cases h3 : (8 : Int32) ≤ i
      · rw [if_pos h3] at h; exact absurd rfl h
      · exact vin_lt 8 rfl (Int32.not_lt.mp h1) (Int32.not_le.mp h3)
theorem has_X1 {B : jB} {i : Int32} (h : ¬ r_X1_has B i = 0) : vp_in i 6 := by
  unfold r_X1_has at h
  by_cases h1 : i < 0
  · rw [if_pos h1] at h; exact absurd rfl h
  · rw [if_neg h1] at h
    by_cases h3 : (6 : Int32) ≤ i
    · rw [if_pos h3] at h; exact absurd rfl h
    · exact vin_lt 6 rfl (Int32.not_lt.mp h1) (Int32.not_le.mp h3)


def r_X3_isUnsettled (B : jB) (i : Int32) : Int32 := (if (r_X3_has B i) = (0 : Int32) then (0 : Int32) else (if (B 11 i.toNatClampNeg) = (0 : Int32) then (1 : Int32) else (if (B 11 i.toNatClampNeg) = (1 : Int32) then (1 : Int32) else (0 : Int32))))
set_option maxRecDepth 100000 in
set_option maxHeartbeats 4000000 in
theorem c_X3_isUnsettled (l : Launch) (D : va_G) (ca : Nat → ClassId) (g : Nat → Nat) (B : jB) (i : Int32) : jM l D ca yX3_isUnsettled cX3_isUnsettled 2 (Option.some FieldType.boolean) 1 21 0 0 [.ref (g 3), .int i] (ivW ca g B) (jD (some (.int (r_X3_isUnsettled B i))) (ivW ca g B)) := by
  refine jM_of [(0, .ref (g 3)), (1, .int i)] (by decide) (Nat.le_of_ble_eq_true rfl) rfl (fun X C E => ?_)
  refine j_aload_n C dX3_isUnsettled_0 rfl ?_
  refine j_iload_n C dX3_isUnsettled_1 rfl ?_
  refine j_callViRW C g_X3_37 (c_X3_has l D ca g B i) 0 ivW_0 hcl_X3 ⟨Nat.le_of_ble_eq_true rfl, Nat.le_of_ble_eq_true rfl⟩ ⟨Nat.le_of_ble_eq_true rfl, Nat.le_of_ble_eq_true rfl⟩ rfl rfl (Nat.le_of_ble_eq_true rfl) dX3_isUnsettled_2 ?_
  refine j_if_eq (tgt := 31) C dX3_isUnsettled_5 (by decide) (fun (h5 : (r_X3_has B i) = (0 : Int32)) => ?_) (fun (h5 : ¬ ((r_X3_has B i) = (0 : Int32))) => ?_)
  · refine j_iconst C dX3_isUnsettled_31 (0 : Int32) (by decide) ?_
    have e9 : r_X3_isUnsettled B i = (0 : Int32) := by rw [r_X3_isUnsettled, if_pos h5]
    exact j_zret E rfl dX3_isUnsettled_32 (by rw [e9]; exact ⟨rfl, rfl⟩)
  · refine j_aload_n C dX3_isUnsettled_8 rfl ?_
    refine j_get C f_X3_24.F 0 dX3_isUnsettled_9 ivW_0 rfl ?_
    refine j_iload_n C dX3_isUnsettled_12 rfl ?_
    refine j_iald C 5 dX3_isUnsettled_13 ivW_5 (has_X3 h5) ?_
    refine j_if_eq (tgt := 27) C dX3_isUnsettled_14 (by decide) (fun (h14 : (B 11 i.toNatClampNeg) = (0 : Int32)) => ?_) (fun (h14 : ¬ ((B 11 i.toNatClampNeg) = (0 : Int32))) => ?_)
    · refine j_iconst C dX3_isUnsettled_27 (1 : Int32) (by decide) ?_
      refine j_goto (tgt := 32) C dX3_isUnsettled_28 (by decide) ?_
      have e9 : r_X3_isUnsettled B i = (1 : Int32) := by rw [r_X3_isUnsettled, if_neg h5, if_pos h14]
      exact j_zret E rfl dX3_isUnsettled_32 (by rw [e9]; exact ⟨rfl, rfl⟩)
    · refine j_aload_n C dX3_isUnsettled_17 rfl ?_
      refine j_get C f_X3_24.F 0 dX3_isUnsettled_18 ivW_0 rfl ?_
      refine j_iload_n C dX3_isUnsettled_21 rfl ?_
      refine j_iald C 5 dX3_isUnsettled_22 ivW_5 (has_X3 h5) ?_
      refine j_iconst C dX3_isUnsettled_23 (1 : Int32) (by decide) ?_
      refine j_icmp_ne (tgt := 31) C dX3_isUnsettled_24 (by decide) (fun (h24 : ¬ ((B 11 i.toNatClampNeg) = (1 : Int32))) => ?_) (fun (h24 : (B 11 i.toNatClampNeg) = (1 : Int32)) => ?_)
      · refine j_iconst C dX3_isUnsettled_31 (0 : Int32) (by decide) ?_
        have e9 : r_X3_isUnsettled B i = (0 : Int32) := by rw [r_X3_isUnsettled, if_neg h5, if_neg h14, if_neg h24]
        exact j_zret E rfl dX3_isUnsettled_32 (by rw [e9]; exact ⟨rfl, rfl⟩)
      · refine j_iconst C dX3_isUnsettled_27 (1 : Int32) (by decide) ?_
        refine j_goto (tgt := 32) C dX3_isUnsettled_28 (by decide) ?_
        have e9 : r_X3_isUnsettled B i = (1 : Int32) := by rw [r_X3_isUnsettled, if_neg h5, if_neg h14, if_pos h24]
        exact j_zret E rfl dX3_isUnsettled_32 (by rw [e9]; exact ⟨rfl, rfl⟩)
set_option maxRecDepth 100000 in
set_option maxHeartbeats 4000000 in
theorem fa_mb_3 {ca : Nat → ClassId} {g : Nat → Nat} {B : jB} {i : Nat} {v : Int32} : (mbW ca g B).set 3 (g 8, .inl (ca 0, 8, .inl (upd (B 2) i v))) = mbW ca g (up2 B 2 i v) := rfl

def r_X4_intoPurse (B : jB) (i : Int32) (c : Int32) : jB := (if (r_X4_has B i) = (0 : Int32) then B else (up2 B 2 (i).toNatClampNeg ((B 2 i.toNatClampNeg) + c)))
set_option maxRecDepth 100000 in
set_option maxHeartbeats 4000000 in
theorem c_X4_intoPurse (l : Launch) (D : va_G) (ca : Nat → ClassId) (g : Nat → Nat) (B : jB) (i : Int32) (c : Int32) : jM l D ca yX4_intoPurse cX4_intoPurse 3 (none : Option FieldType) 1 21 0 0 [.ref (g 1), .int i, .int c] (mbW ca g B) (jD none (mbW ca g (r_X4_intoPurse B i c))) := by
  refine jM_of [(0, .ref (g 1)), (1, .int i), (2, .int c)] (by decide) (Nat.le_of_ble_eq_true rfl) rfl (fun X C E => ?_)
  refine j_aload_n C dX4_intoPurse_0 rfl ?_
  refine j_iload_n C dX4_intoPurse_1 rfl ?_
  refine j_callViRW C g_X4_28 (c_X4_has l D ca g B i) 0 mbW_0 hcl_X4 ⟨Nat.le_of_ble_eq_true rfl, Nat.le_of_ble_eq_true rfl⟩ ⟨Nat.le_of_ble_eq_true rfl, Nat.le_of_ble_eq_true rfl⟩ rfl rfl (Nat.le_of_ble_eq_true rfl) dX4_intoPurse_2 ?_
  refine j_if_eq (tgt := 18) C dX4_intoPurse_5 (by decide) (fun (h5 : (r_X4_has B i) = (0 : Int32)) => ?_) (fun (h5 : ¬ ((r_X4_has B i) = (0 : Int32))) => ?_)
  · have e9 : r_X4_intoPurse B i c = B := by rw [r_X4_intoPurse, if_pos h5]
    exact j_vret E dX4_intoPurse_18 (by rw [e9]; exact ⟨rfl, rfl⟩)
  · refine j_aload_n C dX4_intoPurse_8 rfl ?_
    refine j_get C f_X4_18.F 0 dX4_intoPurse_9 mbW_0 rfl ?_
    refine j_iload_n C dX4_intoPurse_12 rfl ?_
    refine j_dup2 C dX4_intoPurse_13 rfl rfl ?_
    refine j_iald C 3 dX4_intoPurse_14 mbW_3 (has_X4 h5) ?_
    refine j_iload_n C dX4_intoPurse_15 rfl ?_
    refine j_iadd C dX4_intoPurse_16 ?_
    refine j_iast C 3 dX4_intoPurse_17 mbW_3 (has_X4 h5) ?_
    refine j_ws (ws' := (mbW ca g (up2 B 2 (i).toNatClampNeg ((B 2 i.toNatClampNeg) + c)))) fa_mb_3 ?_
    have e9 : r_X4_intoPurse B i c = (up2 B 2 (i).toNatClampNeg ((B 2 i.toNatClampNeg) + c)) := by rw [r_X4_intoPurse, if_neg h5]
    exact j_vret E dX4_intoPurse_18 (by rw [e9]; exact ⟨rfl, rfl⟩)
set_option maxRecDepth 100000 in
set_option maxHeartbeats 4000000 in
theorem rd_0 {S : jB} {k0 : Nat} {v0 : Int32} {i : Nat} : (up2 S 2 k0 v0) 3 i = S 3 i := rfl
set_option maxRecDepth 100000 in
set_option maxHeartbeats 4000000 in
theorem fa_mb_4 {ca : Nat → ClassId} {g : Nat → Nat} {B : jB} {i : Nat} {v : Int32} : (mbW ca g B).set 4 (g 9, .inl (ca 0, 8, .inl (upd (B 3) i v))) = mbW ca g (up2 B 3 i v) := rfl

def z_X4_bear_0 (B : jB) (i : Int32) (c : Int32) : jB := (up2 (up2 B 2 (i).toNatClampNeg ((B 2 i.toNatClampNeg) - c)) 3 (i).toNatClampNeg ((B 3 i.toNatClampNeg) + c))
def r_X4_bear (B : jB) (i : Int32) (c : Int32) : jB := (if (r_X4_has B i) = (0 : Int32) then B else (z_X4_bear_0 B i c))
set_option maxRecDepth 100000 in
set_option maxHeartbeats 4000000 in
theorem c_X4_bear (l : Launch) (D : va_G) (ca : Nat → ClassId) (g : Nat → Nat) (B : jB) (i : Int32) (c : Int32) : jM l D ca yX4_bear cX4_bear 3 (none : Option FieldType) 1 21 0 0 [.ref (g 1), .int i, .int c] (mbW ca g B) (jD none (mbW ca g (r_X4_bear B i c))) := by
  refine jM_of [(0, .ref (g 1)), (1, .int i), (2, .int c)] (by decide) (Nat.le_of_ble_eq_true rfl) rfl (fun X C E => ?_)
  refine j_aload_n C dX4_bear_0 rfl ?_
  refine j_iload_n C dX4_bear_1 rfl ?_
  refine j_callViRW C g_X4_28 (c_X4_has l D ca g B i) 0 mbW_0 hcl_X4 ⟨Nat.le_of_ble_eq_true rfl, Nat.le_of_ble_eq_true rfl⟩ ⟨Nat.le_of_ble_eq_true rfl, Nat.le_of_ble_eq_true rfl⟩ rfl rfl (Nat.le_of_ble_eq_true rfl) dX4_bear_2 ?_
  refine j_if_ne (tgt := 9) C dX4_bear_5 (by decide) (fun (h5 : ¬ ((r_X4_has B i) = (0 : Int32))) => ?_) (fun (h5 : (r_X4_has B i) = (0 : Int32)) => ?_)
  · refine j_aload_n C dX4_bear_9 rfl ?_
    refine j_get C f_X4_18.F 0 dX4_bear_10 mbW_0 rfl ?_
    refine j_iload_n C dX4_bear_13 rfl ?_
    refine j_dup2 C dX4_bear_14 rfl rfl ?_
    refine j_iald C 3 dX4_bear_15 mbW_3 (has_X4 h5) ?_
    refine j_iload_n C dX4_bear_16 rfl ?_
    refine j_isub C dX4_bear_17 ?_
    refine j_iast C 3 dX4_bear_18 mbW_3 (has_X4 h5) ?_
    refine j_ws (ws' := (mbW ca g (up2 B 2 (i).toNatClampNeg ((B 2 i.toNatClampNeg) - c)))) fa_mb_3 ?_
    refine j_aload_n C dX4_bear_19 rfl ?_
    refine j_get C f_X4_21.F 0 dX4_bear_20 mbW_0 rfl ?_
    refine j_iload_n C dX4_bear_23 rfl ?_
    refine j_dup2 C dX4_bear_24 rfl rfl ?_
    refine j_iald C 4 dX4_bear_25 mbW_4 (has_X4 h5) ?_
    refine j_sti rd_0 ?_
    refine j_iload_n C dX4_bear_26 rfl ?_
    refine j_iadd C dX4_bear_27 ?_
    refine j_iast C 4 dX4_bear_28 mbW_4 (has_X4 h5) ?_
    refine j_ws (ws' := (mbW ca g (z_X4_bear_0 B i c))) fa_mb_4 ?_
    have e9 : r_X4_bear B i c = (z_X4_bear_0 B i c) := by rw [r_X4_bear, if_neg h5]
    exact j_vret E dX4_bear_29 (by rw [e9]; exact ⟨rfl, rfl⟩)
  · have e9 : r_X4_bear B i c = B := by rw [r_X4_bear, if_pos h5]
    exact j_vret E dX4_bear_8 (by rw [e9]; exact ⟨rfl, rfl⟩)
set_option maxRecDepth 100000 in
set_option maxHeartbeats 4000000 in
theorem fa_cl_1 {ca : Nat → ClassId} {g : Nat → Nat} {B : jB} {i : Nat} {v : Int32} : (clW ca g B).set 1 (g 10, .inl (ca 0, 6, .inl (upd (B 4) i v))) = clW ca g (up2 B 4 i v) := rfl
set_option maxRecDepth 100000 in
set_option maxHeartbeats 4000000 in
theorem rd_1 {S : jB} {k0 : Nat} {v0 : Int32} {i : Nat} : (up2 S 4 k0 v0) 6 i = S 6 i := rfl
set_option maxRecDepth 100000 in
set_option maxHeartbeats 4000000 in
theorem fa_cl_3 {ca : Nat → ClassId} {g : Nat → Nat} {B : jB} {i : Nat} {v : Int32} : (clW ca g B).set 3 (g 12, .inl (ca 0, 6, .inl (upd (B 6) i v))) = clW ca g (up2 B 6 i v) := rfl

def z_X1_addSettled_0 (B : jB) (i : Int32) (c : Int32) : jB := (up2 (up2 B 4 (i).toNatClampNeg ((B 4 i.toNatClampNeg) + (1 : Int32))) 6 (i).toNatClampNeg ((B 6 i.toNatClampNeg) + c))
def r_X1_addSettled (B : jB) (i : Int32) (c : Int32) : jB := (if (r_X1_has B i) = (0 : Int32) then B else (z_X1_addSettled_0 B i c))
set_option maxRecDepth 100000 in
set_option maxHeartbeats 4000000 in
theorem c_X1_addSettled (l : Launch) (D : va_G) (ca : Nat → ClassId) (g : Nat → Nat) (B : jB) (i : Int32) (c : Int32) : jM l D ca yX1_addSettled cX1_addSettled 3 (none : Option FieldType) 1 21 0 0 [.ref (g 2), .int i, .int c] (clW ca g B) (jD none (clW ca g (r_X1_addSettled B i c))) := by
  refine jM_of [(0, .ref (g 2)), (1, .int i), (2, .int c)] (by decide) (Nat.le_of_ble_eq_true rfl) rfl (fun X C E => ?_)
  refine j_aload_n C dX1_addSettled_0 rfl ?_
  refine j_iload_n C dX1_addSettled_1 rfl ?_
  refine j_callViRW C g_X1_21 (c_X1_has l D ca g B i) 0 clW_0 hcl_X1 ⟨Nat.le_of_ble_eq_true rfl, Nat.le_of_ble_eq_true rfl⟩ ⟨Nat.le_of_ble_eq_true rfl, Nat.le_of_ble_eq_true rfl⟩ rfl rfl (Nat.le_of_ble_eq_true rfl) dX1_addSettled_2 ?_
  refine j_if_ne (tgt := 9) C dX1_addSettled_5 (by decide) (fun (h5 : ¬ ((r_X1_has B i) = (0 : Int32))) => ?_) (fun (h5 : (r_X1_has B i) = (0 : Int32)) => ?_)
  · refine j_aload_n C dX1_addSettled_9 rfl ?_
    refine j_get C f_X1_9.F 0 dX1_addSettled_10 clW_0 rfl ?_
    refine j_iload_n C dX1_addSettled_13 rfl ?_
    refine j_dup2 C dX1_addSettled_14 rfl rfl ?_
    refine j_iald C 1 dX1_addSettled_15 clW_1 (has_X1 h5) ?_
    refine j_iconst C dX1_addSettled_16 (1 : Int32) (by decide) ?_
    refine j_iadd C dX1_addSettled_17 ?_
    refine j_iast C 1 dX1_addSettled_18 clW_1 (has_X1 h5) ?_
    refine j_ws (ws' := (clW ca g (up2 B 4 (i).toNatClampNeg ((B 4 i.toNatClampNeg) + (1 : Int32))))) fa_cl_1 ?_
    refine j_aload_n C dX1_addSettled_19 rfl ?_
    refine j_get C f_X1_18.F 0 dX1_addSettled_20 clW_0 rfl ?_
    refine j_iload_n C dX1_addSettled_23 rfl ?_
    refine j_dup2 C dX1_addSettled_24 rfl rfl ?_
    refine j_iald C 3 dX1_addSettled_25 clW_3 (has_X1 h5) ?_
    refine j_sti rd_1 ?_
    refine j_iload_n C dX1_addSettled_26 rfl ?_
    refine j_iadd C dX1_addSettled_27 ?_
    refine j_iast C 3 dX1_addSettled_28 clW_3 (has_X1 h5) ?_
    refine j_ws (ws' := (clW ca g (z_X1_addSettled_0 B i c))) fa_cl_3 ?_
    have e9 : r_X1_addSettled B i c = (z_X1_addSettled_0 B i c) := by rw [r_X1_addSettled, if_neg h5]
    exact j_vret E dX1_addSettled_29 (by rw [e9]; exact ⟨rfl, rfl⟩)
  · have e9 : r_X1_addSettled B i c = B := by rw [r_X1_addSettled, if_pos h5]
    exact j_vret E dX1_addSettled_8 (by rw [e9]; exact ⟨rfl, rfl⟩)
set_option maxRecDepth 100000 in
set_option maxHeartbeats 4000000 in
theorem fa_cl_2 {ca : Nat → ClassId} {g : Nat → Nat} {B : jB} {i : Nat} {v : Int32} : (clW ca g B).set 2 (g 11, .inl (ca 0, 6, .inl (upd (B 5) i v))) = clW ca g (up2 B 5 i v) := rfl

def r_X1_addLost (B : jB) (i : Int32) : jB := (if (r_X1_has B i) = (0 : Int32) then B else (up2 B 5 (i).toNatClampNeg ((B 5 i.toNatClampNeg) + (1 : Int32))))
set_option maxRecDepth 100000 in
set_option maxHeartbeats 4000000 in
theorem c_X1_addLost (l : Launch) (D : va_G) (ca : Nat → ClassId) (g : Nat → Nat) (B : jB) (i : Int32) : jM l D ca yX1_addLost cX1_addLost 2 (none : Option FieldType) 1 21 0 0 [.ref (g 2), .int i] (clW ca g B) (jD none (clW ca g (r_X1_addLost B i))) := by
  refine jM_of [(0, .ref (g 2)), (1, .int i)] (by decide) (Nat.le_of_ble_eq_true rfl) rfl (fun X C E => ?_)
  refine j_aload_n C dX1_addLost_0 rfl ?_
  refine j_iload_n C dX1_addLost_1 rfl ?_
  refine j_callViRW C g_X1_21 (c_X1_has l D ca g B i) 0 clW_0 hcl_X1 ⟨Nat.le_of_ble_eq_true rfl, Nat.le_of_ble_eq_true rfl⟩ ⟨Nat.le_of_ble_eq_true rfl, Nat.le_of_ble_eq_true rfl⟩ rfl rfl (Nat.le_of_ble_eq_true rfl) dX1_addLost_2 ?_
  refine j_if_eq (tgt := 18) C dX1_addLost_5 (by decide) (fun (h5 : (r_X1_has B i) = (0 : Int32)) => ?_) (fun (h5 : ¬ ((r_X1_has B i) = (0 : Int32))) => ?_)
  · have e9 : r_X1_addLost B i = B := by rw [r_X1_addLost, if_pos h5]
    exact j_vret E dX1_addLost_18 (by rw [e9]; exact ⟨rfl, rfl⟩)
  · refine j_aload_n C dX1_addLost_8 rfl ?_
    refine j_get C f_X1_15.F 0 dX1_addLost_9 clW_0 rfl ?_
    refine j_iload_n C dX1_addLost_12 rfl ?_
    refine j_dup2 C dX1_addLost_13 rfl rfl ?_
    refine j_iald C 2 dX1_addLost_14 clW_2 (has_X1 h5) ?_
    refine j_iconst C dX1_addLost_15 (1 : Int32) (by decide) ?_
    refine j_iadd C dX1_addLost_16 ?_
    refine j_iast C 2 dX1_addLost_17 clW_2 (has_X1 h5) ?_
    refine j_ws (ws' := (clW ca g (up2 B 5 (i).toNatClampNeg ((B 5 i.toNatClampNeg) + (1 : Int32))))) fa_cl_2 ?_
    have e9 : r_X1_addLost B i = (up2 B 5 (i).toNatClampNeg ((B 5 i.toNatClampNeg) + (1 : Int32))) := by rw [r_X1_addLost, if_neg h5]
    exact j_vret E dX1_addLost_18 (by rw [e9]; exact ⟨rfl, rfl⟩)


def L_X4_allDues_4 (B : jB) : Nat → Int32 → Int32 → Int32
  | 0, _, _ => 0
  | n4 + 1, x4_1, x4_2 => (if (8 : Int32) ≤ x4_2 then x4_1 else (if (r_X4_has B x4_2) = (0 : Int32) then L_X4_allDues_4 B n4 x4_1 (x4_2 + (1 : Int32)) else L_X4_allDues_4 B n4 (x4_1 + (B 1 x4_2.toNatClampNeg)) (x4_2 + (1 : Int32))))
def r_X4_allDues (B : jB) : Int32 := L_X4_allDues_4 B 9 (0 : Int32) (0 : Int32)
set_option maxRecDepth 100000 in
set_option maxHeartbeats 4000000 in
theorem c_X4_allDues (l : Launch) (D : va_G) (ca : Nat → ClassId) (g : Nat → Nat) (B : jB) : jM l D ca yX4_allDues cX4_allDues 3 (some .int) 1 21 0 0 [.ref (g 1)] (mbW ca g B) (jD (some (.int (r_X4_allDues B))) (mbW ca g B)) := by
  refine jM_of [(0, .ref (g 1))] (by decide) (Nat.le_of_ble_eq_true rfl) rfl (fun X C E => ?_)
  refine j_iconst C dX4_allDues_0 (0 : Int32) (by decide) ?_
  refine j_istore_n C [(1, _), (0, _)] dX4_allDues_1 (by decide) rfl ?_
  refine j_iconst C dX4_allDues_2 (0 : Int32) (by decide) ?_
  refine j_istore_n C [(2, _), (1, _), (0, _)] dX4_allDues_3 (by decide) rfl ?_
  have K4 : ∀ (n4 : Nat) (x4_1 : Int32) (x4_2 : Int32), ((8 : Int32).toInt - x4_2.toInt).toNat < n4 → r_X4_allDues B = L_X4_allDues_4 B n4 x4_1 x4_2 → J l { frames := 1, cells := 0, slots := 0, locals := 21 } D 3 X 0 0 (mbW ca g B) [(0, .ref (g 1)), (1, .int x4_1), (2, .int x4_2)] [] 4 := by
    intro n4
    induction n4 with
    | zero =>
      intro x4_1 x4_2 hm4
      exact absurd hm4 (Nat.not_lt_zero _)
    | succ n4 ih4 =>
      intro x4_1 x4_2 hm4 hr4
      refine j_iload_n C dX4_allDues_4 rfl ?_
      refine j_bipush C dX4_allDues_5 (8 : Int32) (by decide) ?_
      refine j_icmp_ge (tgt := 33) C dX4_allDues_7 (by decide) (fun (h7 : (8 : Int32) ≤ x4_2) => ?_) (fun (h7 : ¬ ((8 : Int32) ≤ x4_2)) => ?_)
      · refine j_iload_n C dX4_allDues_33 rfl ?_
        have e9 : r_X4_allDues B = x4_1 := by rw [hr4, L_X4_allDues_4, if_pos h7]
        exact j_iret E dX4_allDues_34 (by rw [e9]; exact ⟨rfl, rfl⟩)
      · refine j_aload_n C dX4_allDues_10 rfl ?_
        refine j_iload_n C dX4_allDues_11 rfl ?_
        refine j_callViRW C g_X4_28 (c_X4_has l D ca g B x4_2) 0 mbW_0 hcl_X4 ⟨Nat.le_of_ble_eq_true rfl, Nat.le_of_ble_eq_true rfl⟩ ⟨Nat.le_of_ble_eq_true rfl, Nat.le_of_ble_eq_true rfl⟩ rfl rfl (Nat.le_of_ble_eq_true rfl) dX4_allDues_12 ?_
        refine j_if_eq (tgt := 27) C dX4_allDues_15 (by decide) (fun (h15 : (r_X4_has B x4_2) = (0 : Int32)) => ?_) (fun (h15 : ¬ ((r_X4_has B x4_2) = (0 : Int32))) => ?_)
        · refine j_iinc C [(2, _), (0, _), (1, _)] (v := (x4_2 + (1 : Int32))) dX4_allDues_27 rfl (iinc_1 _) (by decide) rfl ?_
          refine j_goto (tgt := 4) C dX4_allDues_30 (by decide) ?_
          refine j_lv [(0, .ref (g 1)), (1, .int x4_1), (2, .int (x4_2 + (1 : Int32)))] rfl ?_
          exact ih4 x4_1 (x4_2 + (1 : Int32)) (jms h7 hm4) (by rw [hr4, L_X4_allDues_4, if_neg h7, if_pos h15])
        · refine j_iload_n C dX4_allDues_18 rfl ?_
          refine j_aload_n C dX4_allDues_19 rfl ?_
          refine j_get C f_X4_15.F 0 dX4_allDues_20 mbW_0 rfl ?_
          refine j_iload_n C dX4_allDues_23 rfl ?_
          refine j_iald C 2 dX4_allDues_24 mbW_2 (has_X4 h15) ?_
          refine j_iadd C dX4_allDues_25 ?_
          refine j_istore_n C [(1, _), (0, _), (2, _)] dX4_allDues_26 (by decide) rfl ?_
          refine j_iinc C [(2, _), (1, _), (0, _)] (v := (x4_2 + (1 : Int32))) dX4_allDues_27 rfl (iinc_1 _) (by decide) rfl ?_
          refine j_goto (tgt := 4) C dX4_allDues_30 (by decide) ?_
          refine j_lv [(0, .ref (g 1)), (1, .int (x4_1 + (B 1 x4_2.toNatClampNeg))), (2, .int (x4_2 + (1 : Int32)))] rfl ?_
          exact ih4 (x4_1 + (B 1 x4_2.toNatClampNeg)) (x4_2 + (1 : Int32)) (jms h7 hm4) (by rw [hr4, L_X4_allDues_4, if_neg h7, if_neg h15])
  refine j_lv [(0, .ref (g 1)), (1, .int (0 : Int32)), (2, .int (0 : Int32))] rfl ?_
  exact K4 9 (0 : Int32) (0 : Int32) (by decide) (by rw [r_X4_allDues])
