set_option maxRecDepth 100000 in
set_option maxHeartbeats 4000000 in
theorem fa_tx_1 {ca : Nat → ClassId} {g : Nat → Nat} {K : (Nat → jB)} {i : Nat} {v : Int32} : (txW ca g K).set 1 (g 4, .inl (ca 2, 60, .inl (upd (K 7 0) i v))) = txW ca g (up3 K 7 0 i v) := rfl
set_option maxRecDepth 100000 in
set_option maxHeartbeats 4000000 in
theorem rd_27 {S : (Nat → jB)} {k0 : Nat} {v0 : Int32} : (up3 S 7 0 k0 v0) 7 5 0 = S 7 5 0 := rfl
set_option maxRecDepth 100000 in
set_option maxHeartbeats 4000000 in
theorem fo_tx_0_3 {ca : Nat → ClassId} {g : Nat → Nat} {K : (Nat → jB)} {v : Int32} : (txW ca g K).set 0 (g 3, .inr (6, [.ref (g 4), .ref (g 5), .ref (g 6), .int (K 7 5 0), .int (K 7 5 1)].set 3 (.int v))) = txW ca g (up3 K 7 5 0 v) := rfl
set_option maxRecDepth 100000 in
set_option maxHeartbeats 4000000 in
theorem rd_28 {S : (Nat → jB)} {v0 : Int32} : (up3 S 7 5 0 v0) 7 5 0 = v0 := rfl

def z_X6_append_0 (K : (Nat → jB)) (c : Int32) : (Nat → jB) := (up3 (up3 K 7 0 ((K 7 5 0)).toNatClampNeg (vp_nar .char c)) 7 5 0 ((K 7 5 0) + (1 : Int32)))
def r_X6_append (K : (Nat → jB)) (c : Int32) : Int32 × (Nat → jB) := (if (K 7 5 0) < (0 : Int32) then ((-3 : Int32), K) else (if (K 7 5 0) < (60 : Int32) then (((K 7 5 0) + (1 : Int32)), (z_X6_append_0 K c)) else ((-3 : Int32), K)))
set_option maxRecDepth 100000 in
set_option maxHeartbeats 4000000 in
theorem c_X6_append (l : Launch) (D : va_G) (ca : Nat → ClassId) (g : Nat → Nat) (K : (Nat → jB)) (c : Int32) : jM l D ca yX6_append cX6_append 2 (some .int) 0 0 0 0 [.ref (g 3), .int c] (txW ca g K) (jD (some (.int (r_X6_append K c).1)) (txW ca g ((r_X6_append K c).2))) := by
  refine jM_of [(0, .ref (g 3)), (1, .int c)] (by decide) (Nat.le_of_ble_eq_true rfl) rfl (fun X C E => ?_)
  refine j_aload_n C dX6_append_0 rfl ?_
  refine j_get C f_X6_22.F 0 dX6_append_1 txW_0 rfl ?_
  refine j_if_lt (tgt := 16) C dX6_append_4 (by decide) (fun (h4 : (K 7 5 0) < (0 : Int32)) => ?_) (fun (h4 : ¬ ((K 7 5 0) < (0 : Int32))) => ?_)
  · refine j_bipush C dX6_append_16 (-3 : Int32) (by decide) ?_
    have e9 : r_X6_append K c = ((-3 : Int32), K) := by rw [r_X6_append, if_pos h4]
    exact j_iret E dX6_append_18 (jD_k e9 (txW ca g))
  · refine j_aload_n C dX6_append_7 rfl ?_
    refine j_get C f_X6_22.F 0 dX6_append_8 txW_0 rfl ?_
    refine j_bipush C dX6_append_11 (60 : Int32) (by decide) ?_
    refine j_icmp_lt (tgt := 19) C dX6_append_13 (by decide) (fun (h13 : (K 7 5 0) < (60 : Int32)) => ?_) (fun (h13 : ¬ ((K 7 5 0) < (60 : Int32))) => ?_)
    · refine j_aload_n C dX6_append_19 rfl ?_
      refine j_get C f_X6_9.F 0 dX6_append_20 txW_0 rfl ?_
      refine j_aload_n C dX6_append_23 rfl ?_
      refine j_get C f_X6_22.F 0 dX6_append_24 txW_0 rfl ?_
      refine j_iload_n C dX6_append_27 rfl ?_
      refine j_cast C 1 dX6_append_28 txW_1 (vin_lt 60 rfl (Int32.not_lt.mp h4) h13) ?_
      refine j_ws (ws' := (txW ca g (up3 K 7 0 ((K 7 5 0)).toNatClampNeg (vp_nar .char c)))) fa_tx_1 ?_
      refine j_aload_n C dX6_append_29 rfl ?_
      refine j_dup C dX6_append_30 rfl ?_
      refine j_get C f_X6_22.F 0 dX6_append_31 txW_0 rfl ?_
      refine j_sti rd_27 ?_
      refine j_iconst C dX6_append_34 (1 : Int32) (by decide) ?_
      refine j_iadd C dX6_append_35 ?_
      refine j_put C f_X6_22 0 dX6_append_36 txW_0 (Nat.le_of_ble_eq_true rfl) rfl rfl ?_
      refine j_ws (ws' := (txW ca g (z_X6_append_0 K c))) fo_tx_0_3 ?_
      refine j_aload_n C dX6_append_39 rfl ?_
      refine j_get C f_X6_22.F 0 dX6_append_40 txW_0 rfl ?_
      refine j_sti rd_28 ?_
      have e9 : r_X6_append K c = (((K 7 5 0) + (1 : Int32)), (z_X6_append_0 K c)) := by rw [r_X6_append, if_neg h4, if_pos h13]
      exact j_iret E dX6_append_43 (jD_k e9 (txW ca g))
    · refine j_bipush C dX6_append_16 (-3 : Int32) (by decide) ?_
      have e9 : r_X6_append K c = ((-3 : Int32), K) := by rw [r_X6_append, if_neg h4, if_neg h13]
      exact j_iret E dX6_append_18 (jD_k e9 (txW ca g))


def r_X6_invoiceOf (K : (Nat → jB)) (p : Int32) : Int32 := (if p < (0 : Int32) then (-1 : Int32) else (if p < (60 : Int32) then (K 7 1 p.toNatClampNeg) else (-1 : Int32)))
set_option maxRecDepth 100000 in
set_option maxHeartbeats 4000000 in
theorem c_X6_invoiceOf (l : Launch) (D : va_G) (ca : Nat → ClassId) (g : Nat → Nat) (K : (Nat → jB)) (p : Int32) : jM l D ca yX6_invoiceOf cX6_invoiceOf 2 (some .int) 0 0 0 0 [.ref (g 3), .int p] (txW ca g K) (jD (some (.int (r_X6_invoiceOf K p))) (txW ca g K)) := by
  refine jM_of [(0, .ref (g 3)), (1, .int p)] (by decide) (Nat.le_of_ble_eq_true rfl) rfl (fun X C E => ?_)
  refine j_iload_n C dX6_invoiceOf_0 rfl ?_
  refine j_if_lt (tgt := 10) C dX6_invoiceOf_1 (by decide) (fun (h1 : p < (0 : Int32)) => ?_) (fun (h1 : ¬ (p < (0 : Int32))) => ?_)
  · refine j_iconst C dX6_invoiceOf_10 (-1 : Int32) (by decide) ?_
    refine j_goto (tgt := 20) C dX6_invoiceOf_11 (by decide) ?_
    have e9 : r_X6_invoiceOf K p = (-1 : Int32) := by rw [r_X6_invoiceOf, if_pos h1]
    exact j_iret E dX6_invoiceOf_20 (by rw [e9]; exact ⟨rfl, rfl⟩)
  · refine j_iload_n C dX6_invoiceOf_4 rfl ?_
    refine j_bipush C dX6_invoiceOf_5 (60 : Int32) (by decide) ?_
    refine j_icmp_lt (tgt := 14) C dX6_invoiceOf_7 (by decide) (fun (h7 : p < (60 : Int32)) => ?_) (fun (h7 : ¬ (p < (60 : Int32))) => ?_)
    · refine j_aload_n C dX6_invoiceOf_14 rfl ?_
      refine j_get C f_X6_15.F 0 dX6_invoiceOf_15 txW_0 rfl ?_
      refine j_iload_n C dX6_invoiceOf_18 rfl ?_
      refine j_iald C 2 dX6_invoiceOf_19 txW_2 (vin_lt 60 rfl (Int32.not_lt.mp h1) h7) ?_
      have e9 : r_X6_invoiceOf K p = (K 7 1 p.toNatClampNeg) := by rw [r_X6_invoiceOf, if_neg h1, if_pos h7]
      exact j_iret E dX6_invoiceOf_20 (by rw [e9]; exact ⟨rfl, rfl⟩)
    · refine j_iconst C dX6_invoiceOf_10 (-1 : Int32) (by decide) ?_
      refine j_goto (tgt := 20) C dX6_invoiceOf_11 (by decide) ?_
      have e9 : r_X6_invoiceOf K p = (-1 : Int32) := by rw [r_X6_invoiceOf, if_neg h1, if_neg h7]
      exact j_iret E dX6_invoiceOf_20 (by rw [e9]; exact ⟨rfl, rfl⟩)


def r_X6_centsOf (K : (Nat → jB)) (p : Int32) : Int32 := (if p < (0 : Int32) then (0 : Int32) else (if p < (60 : Int32) then (K 7 2 p.toNatClampNeg) else (0 : Int32)))
set_option maxRecDepth 100000 in
set_option maxHeartbeats 4000000 in
theorem c_X6_centsOf (l : Launch) (D : va_G) (ca : Nat → ClassId) (g : Nat → Nat) (K : (Nat → jB)) (p : Int32) : jM l D ca yX6_centsOf cX6_centsOf 2 (some .int) 0 0 0 0 [.ref (g 3), .int p] (txW ca g K) (jD (some (.int (r_X6_centsOf K p))) (txW ca g K)) := by
  refine jM_of [(0, .ref (g 3)), (1, .int p)] (by decide) (Nat.le_of_ble_eq_true rfl) rfl (fun X C E => ?_)
  refine j_iload_n C dX6_centsOf_0 rfl ?_
  refine j_if_lt (tgt := 10) C dX6_centsOf_1 (by decide) (fun (h1 : p < (0 : Int32)) => ?_) (fun (h1 : ¬ (p < (0 : Int32))) => ?_)
  · refine j_iconst C dX6_centsOf_10 (0 : Int32) (by decide) ?_
    refine j_goto (tgt := 20) C dX6_centsOf_11 (by decide) ?_
    have e9 : r_X6_centsOf K p = (0 : Int32) := by rw [r_X6_centsOf, if_pos h1]
    exact j_iret E dX6_centsOf_20 (by rw [e9]; exact ⟨rfl, rfl⟩)
  · refine j_iload_n C dX6_centsOf_4 rfl ?_
    refine j_bipush C dX6_centsOf_5 (60 : Int32) (by decide) ?_
    refine j_icmp_lt (tgt := 14) C dX6_centsOf_7 (by decide) (fun (h7 : p < (60 : Int32)) => ?_) (fun (h7 : ¬ (p < (60 : Int32))) => ?_)
    · refine j_aload_n C dX6_centsOf_14 rfl ?_
      refine j_get C f_X6_19.F 0 dX6_centsOf_15 txW_0 rfl ?_
      refine j_iload_n C dX6_centsOf_18 rfl ?_
      refine j_iald C 3 dX6_centsOf_19 txW_3 (vin_lt 60 rfl (Int32.not_lt.mp h1) h7) ?_
      have e9 : r_X6_centsOf K p = (K 7 2 p.toNatClampNeg) := by rw [r_X6_centsOf, if_neg h1, if_pos h7]
      exact j_iret E dX6_centsOf_20 (by rw [e9]; exact ⟨rfl, rfl⟩)
    · refine j_iconst C dX6_centsOf_10 (0 : Int32) (by decide) ?_
      refine j_goto (tgt := 20) C dX6_centsOf_11 (by decide) ?_
      have e9 : r_X6_centsOf K p = (0 : Int32) := by rw [r_X6_centsOf, if_neg h1, if_neg h7]
      exact j_iret E dX6_centsOf_20 (by rw [e9]; exact ⟨rfl, rfl⟩)


def r_X6_placeBehind (p : Int32) (c : Int32) : Int32 := (if c < (48 : Int32) then (if p = (0 : Int32) then (if c = (48 : Int32) then (2 : Int32) else (-1 : Int32)) else (if p = (1 : Int32) then (if c = (61 : Int32) then (3 : Int32) else (-1 : Int32)) else (if p = (2 : Int32) then (if c = (61 : Int32) then (3 : Int32) else (-1 : Int32)) else (if p = (3 : Int32) then (-1 : Int32) else (if c = (44 : Int32) then (0 : Int32) else (-1 : Int32)))))) else (if (57 : Int32) < c then (if p = (0 : Int32) then (if c = (48 : Int32) then (2 : Int32) else (-1 : Int32)) else (if p = (1 : Int32) then (if c = (61 : Int32) then (3 : Int32) else (-1 : Int32)) else (if p = (2 : Int32) then (if c = (61 : Int32) then (3 : Int32) else (-1 : Int32)) else (if p = (3 : Int32) then (-1 : Int32) else (if c = (44 : Int32) then (0 : Int32) else (-1 : Int32)))))) else (if p = (0 : Int32) then (if c = (48 : Int32) then (2 : Int32) else (1 : Int32)) else (if p = (1 : Int32) then (if c = (61 : Int32) then (3 : Int32) else (2 : Int32)) else (if p = (2 : Int32) then (if c = (61 : Int32) then (3 : Int32) else (-1 : Int32)) else (if p = (3 : Int32) then (if c = (48 : Int32) then (-1 : Int32) else (4 : Int32)) else (if c = (44 : Int32) then (0 : Int32) else (if (10 : Int32) ≤ p then (-1 : Int32) else (p + (1 : Int32))))))))))
set_option maxRecDepth 100000 in
set_option maxHeartbeats 4000000 in
theorem c_X6_placeBehind (l : Launch) (D : va_G) (ca : Nat → ClassId) (p : Int32) (c : Int32) : jM l D ca yX6_placeBehind cX6_placeBehind 3 (some .int) 0 0 0 0 [.int p, .int c] [] (jD (some (.int (r_X6_placeBehind p c))) []) := by
  refine jM_of [(0, .int p), (1, .int c)] (by decide) (Nat.le_of_ble_eq_true rfl) rfl (fun X C E => ?_)
  refine j_iload_n C dX6_placeBehind_0 rfl ?_
  refine j_bipush C dX6_placeBehind_1 (48 : Int32) (by decide) ?_
  refine j_icmp_lt (tgt := 16) C dX6_placeBehind_3 (by decide) (fun (h3 : c < (48 : Int32)) => ?_) (fun (h3 : ¬ (c < (48 : Int32))) => ?_)
  · refine j_iconst C dX6_placeBehind_16 (0 : Int32) (by decide) ?_
    refine j_istore_n C [(2, _), (0, _), (1, _)] dX6_placeBehind_17 (by decide) rfl ?_
    refine j_iload_n C dX6_placeBehind_18 rfl ?_
    by_cases h19_0 : p = (0 : Int32)
    · refine j_tabEq (tgt := 48) C h19_0 dX6_placeBehind_19 (by decide) (by decide) (off := 29) rfl (by decide) ?_
      refine j_iload_n C dX6_placeBehind_48 rfl ?_
      refine j_bipush C dX6_placeBehind_49 (48 : Int32) (by decide) ?_
      refine j_icmp_ne (tgt := 56) C dX6_placeBehind_51 (by decide) (fun (h51 : ¬ (c = (48 : Int32))) => ?_) (fun (h51 : c = (48 : Int32)) => ?_)
      · refine j_iload_n C dX6_placeBehind_56 rfl ?_
        refine j_if_eq (tgt := 64) C dX6_placeBehind_57 (by decide) (fun _ => ?_) (fun h => absurd (by decide) h)
        refine j_iconst C dX6_placeBehind_64 (-1 : Int32) (by decide) ?_
        have e9 : r_X6_placeBehind p c = (-1 : Int32) := by rw [r_X6_placeBehind, if_pos h3, if_pos h19_0, if_neg h51]
        exact j_iret E dX6_placeBehind_65 (by rw [e9]; exact ⟨rfl, rfl⟩)
      · refine j_iconst C dX6_placeBehind_54 (2 : Int32) (by decide) ?_
        have e9 : r_X6_placeBehind p c = (2 : Int32) := by rw [r_X6_placeBehind, if_pos h3, if_pos h19_0, if_pos h51]
        exact j_iret E dX6_placeBehind_55 (by rw [e9]; exact ⟨rfl, rfl⟩)
    by_cases h19_1 : p = (1 : Int32)
    · refine j_tabEq (tgt := 66) C h19_1 dX6_placeBehind_19 (by decide) (by decide) (off := 47) rfl (by decide) ?_
      refine j_iload_n C dX6_placeBehind_66 rfl ?_
      refine j_bipush C dX6_placeBehind_67 (61 : Int32) (by decide) ?_
      refine j_icmp_ne (tgt := 74) C dX6_placeBehind_69 (by decide) (fun (h69 : ¬ (c = (61 : Int32))) => ?_) (fun (h69 : c = (61 : Int32)) => ?_)
      · refine j_iload_n C dX6_placeBehind_74 rfl ?_
        refine j_if_eq (tgt := 82) C dX6_placeBehind_75 (by decide) (fun _ => ?_) (fun h => absurd (by decide) h)
        refine j_iconst C dX6_placeBehind_82 (-1 : Int32) (by decide) ?_
        have e9 : r_X6_placeBehind p c = (-1 : Int32) := by rw [r_X6_placeBehind, if_pos h3, if_neg h19_0, if_pos h19_1, if_neg h69]
        exact j_iret E dX6_placeBehind_83 (by rw [e9]; exact ⟨rfl, rfl⟩)
      · refine j_iconst C dX6_placeBehind_72 (3 : Int32) (by decide) ?_
        have e9 : r_X6_placeBehind p c = (3 : Int32) := by rw [r_X6_placeBehind, if_pos h3, if_neg h19_0, if_pos h19_1, if_pos h69]
        exact j_iret E dX6_placeBehind_73 (by rw [e9]; exact ⟨rfl, rfl⟩)
    by_cases h19_2 : p = (2 : Int32)
    · refine j_tabEq (tgt := 84) C h19_2 dX6_placeBehind_19 (by decide) (by decide) (off := 65) rfl (by decide) ?_
      refine j_iload_n C dX6_placeBehind_84 rfl ?_
      refine j_bipush C dX6_placeBehind_85 (61 : Int32) (by decide) ?_
      refine j_icmp_ne (tgt := 94) C dX6_placeBehind_87 (by decide) (fun (h87 : ¬ (c = (61 : Int32))) => ?_) (fun (h87 : c = (61 : Int32)) => ?_)
      · refine j_iconst C dX6_placeBehind_94 (-1 : Int32) (by decide) ?_
        have e9 : r_X6_placeBehind p c = (-1 : Int32) := by rw [r_X6_placeBehind, if_pos h3, if_neg h19_0, if_neg h19_1, if_pos h19_2, if_neg h87]
        exact j_iret E dX6_placeBehind_95 (by rw [e9]; exact ⟨rfl, rfl⟩)
      · refine j_iconst C dX6_placeBehind_90 (3 : Int32) (by decide) ?_
        refine j_goto (tgt := 95) C dX6_placeBehind_91 (by decide) ?_
        have e9 : r_X6_placeBehind p c = (3 : Int32) := by rw [r_X6_placeBehind, if_pos h3, if_neg h19_0, if_neg h19_1, if_pos h19_2, if_pos h87]
        exact j_iret E dX6_placeBehind_95 (by rw [e9]; exact ⟨rfl, rfl⟩)
    by_cases h19_3 : p = (3 : Int32)
    · refine j_tabEq (tgt := 96) C h19_3 dX6_placeBehind_19 (by decide) (by decide) (off := 77) rfl (by decide) ?_
      refine j_iload_n C dX6_placeBehind_96 rfl ?_
      refine j_if_eq (tgt := 110) C dX6_placeBehind_97 (by decide) (fun _ => ?_) (fun h => absurd (by decide) h)
      refine j_iconst C dX6_placeBehind_110 (-1 : Int32) (by decide) ?_
      have e9 : r_X6_placeBehind p c = (-1 : Int32) := by rw [r_X6_placeBehind, if_pos h3, if_neg h19_0, if_neg h19_1, if_neg h19_2, if_pos h19_3]
      exact j_iret E dX6_placeBehind_111 (by rw [e9]; exact ⟨rfl, rfl⟩)
    refine j_tabOut (tgt := 112) C dX6_placeBehind_19 (by have e0 := tab_ne h19_0 0 rfl; have e1 := tab_ne h19_1 1 rfl; have e2 := tab_ne h19_2 2 rfl; have e3 := tab_ne h19_3 3 rfl; omega) (by decide) ?_
    refine j_iload_n C dX6_placeBehind_112 rfl ?_
    refine j_bipush C dX6_placeBehind_113 (44 : Int32) (by decide) ?_
    refine j_icmp_ne (tgt := 120) C dX6_placeBehind_115 (by decide) (fun (h115 : ¬ (c = (44 : Int32))) => ?_) (fun (h115 : c = (44 : Int32)) => ?_)
    · refine j_iload_n C dX6_placeBehind_120 rfl ?_
      refine j_if_eq (tgt := 136) C dX6_placeBehind_121 (by decide) (fun _ => ?_) (fun h => absurd (by decide) h)
      refine j_iconst C dX6_placeBehind_136 (-1 : Int32) (by decide) ?_
      have e9 : r_X6_placeBehind p c = (-1 : Int32) := by rw [r_X6_placeBehind, if_pos h3, if_neg h19_0, if_neg h19_1, if_neg h19_2, if_neg h19_3, if_neg h115]
      exact j_iret E dX6_placeBehind_137 (by rw [e9]; exact ⟨rfl, rfl⟩)
    · refine j_iconst C dX6_placeBehind_118 (0 : Int32) (by decide) ?_
      have e9 : r_X6_placeBehind p c = (0 : Int32) := by rw [r_X6_placeBehind, if_pos h3, if_neg h19_0, if_neg h19_1, if_neg h19_2, if_neg h19_3, if_pos h115]
      exact j_iret E dX6_placeBehind_119 (by rw [e9]; exact ⟨rfl, rfl⟩)
  · refine j_iload_n C dX6_placeBehind_6 rfl ?_
    refine j_bipush C dX6_placeBehind_7 (57 : Int32) (by decide) ?_
    refine j_icmp_gt (tgt := 16) C dX6_placeBehind_9 (by decide) (fun (h9 : (57 : Int32) < c) => ?_) (fun (h9 : ¬ ((57 : Int32) < c)) => ?_)
    · refine j_iconst C dX6_placeBehind_16 (0 : Int32) (by decide) ?_
      refine j_istore_n C [(2, _), (0, _), (1, _)] dX6_placeBehind_17 (by decide) rfl ?_
      refine j_iload_n C dX6_placeBehind_18 rfl ?_
      by_cases h19_0 : p = (0 : Int32)
      · refine j_tabEq (tgt := 48) C h19_0 dX6_placeBehind_19 (by decide) (by decide) (off := 29) rfl (by decide) ?_
        refine j_iload_n C dX6_placeBehind_48 rfl ?_
        refine j_bipush C dX6_placeBehind_49 (48 : Int32) (by decide) ?_
        refine j_icmp_ne (tgt := 56) C dX6_placeBehind_51 (by decide) (fun (h51 : ¬ (c = (48 : Int32))) => ?_) (fun (h51 : c = (48 : Int32)) => ?_)
        · refine j_iload_n C dX6_placeBehind_56 rfl ?_
          refine j_if_eq (tgt := 64) C dX6_placeBehind_57 (by decide) (fun _ => ?_) (fun h => absurd (by decide) h)
          refine j_iconst C dX6_placeBehind_64 (-1 : Int32) (by decide) ?_
          have e9 : r_X6_placeBehind p c = (-1 : Int32) := by rw [r_X6_placeBehind, if_neg h3, if_pos h9, if_pos h19_0, if_neg h51]
          exact j_iret E dX6_placeBehind_65 (by rw [e9]; exact ⟨rfl, rfl⟩)
        · refine j_iconst C dX6_placeBehind_54 (2 : Int32) (by decide) ?_
          have e9 : r_X6_placeBehind p c = (2 : Int32) := by rw [r_X6_placeBehind, if_neg h3, if_pos h9, if_pos h19_0, if_pos h51]
          exact j_iret E dX6_placeBehind_55 (by rw [e9]; exact ⟨rfl, rfl⟩)
      by_cases h19_1 : p = (1 : Int32)
      · refine j_tabEq (tgt := 66) C h19_1 dX6_placeBehind_19 (by decide) (by decide) (off := 47) rfl (by decide) ?_
        refine j_iload_n C dX6_placeBehind_66 rfl ?_
        refine j_bipush C dX6_placeBehind_67 (61 : Int32) (by decide) ?_
        refine j_icmp_ne (tgt := 74) C dX6_placeBehind_69 (by decide) (fun (h69 : ¬ (c = (61 : Int32))) => ?_) (fun (h69 : c = (61 : Int32)) => ?_)
        · refine j_iload_n C dX6_placeBehind_74 rfl ?_
          refine j_if_eq (tgt := 82) C dX6_placeBehind_75 (by decide) (fun _ => ?_) (fun h => absurd (by decide) h)
          refine j_iconst C dX6_placeBehind_82 (-1 : Int32) (by decide) ?_
          have e9 : r_X6_placeBehind p c = (-1 : Int32) := by rw [r_X6_placeBehind, if_neg h3, if_pos h9, if_neg h19_0, if_pos h19_1, if_neg h69]
          exact j_iret E dX6_placeBehind_83 (by rw [e9]; exact ⟨rfl, rfl⟩)
        · refine j_iconst C dX6_placeBehind_72 (3 : Int32) (by decide) ?_
          have e9 : r_X6_placeBehind p c = (3 : Int32) := by rw [r_X6_placeBehind, if_neg h3, if_pos h9, if_neg h19_0, if_pos h19_1, if_pos h69]
          exact j_iret E dX6_placeBehind_73 (by rw [e9]; exact ⟨rfl, rfl⟩)
      by_cases h19_2 : p = (2 : Int32)
      · refine j_tabEq (tgt := 84) C h19_2 dX6_placeBehind_19 (by decide) (by decide) (off := 65) rfl (by decide) ?_
        refine j_iload_n C dX6_placeBehind_84 rfl ?_
        refine j_bipush C dX6_placeBehind_85 (61 : Int32) (by decide) ?_
        refine j_icmp_ne (tgt := 94) C dX6_placeBehind_87 (by decide) (fun (h87 : ¬ (c = (61 : Int32))) => ?_) (fun (h87 : c = (61 : Int32)) => ?_)
        · refine j_iconst C dX6_placeBehind_94 (-1 : Int32) (by decide) ?_
          have e9 : r_X6_placeBehind p c = (-1 : Int32) := by rw [r_X6_placeBehind, if_neg h3, if_pos h9, if_neg h19_0, if_neg h19_1, if_pos h19_2, if_neg h87]
          exact j_iret E dX6_placeBehind_95 (by rw [e9]; exact ⟨rfl, rfl⟩)
        · refine j_iconst C dX6_placeBehind_90 (3 : Int32) (by decide) ?_
          refine j_goto (tgt := 95) C dX6_placeBehind_91 (by decide) ?_
          have e9 : r_X6_placeBehind p c = (3 : Int32) := by rw [r_X6_placeBehind, if_neg h3, if_pos h9, if_neg h19_0, if_neg h19_1, if_pos h19_2, if_pos h87]
          exact j_iret E dX6_placeBehind_95 (by rw [e9]; exact ⟨rfl, rfl⟩)
      by_cases h19_3 : p = (3 : Int32)
      · refine j_tabEq (tgt := 96) C h19_3 dX6_placeBehind_19 (by decide) (by decide) (off := 77) rfl (by decide) ?_
        refine j_iload_n C dX6_placeBehind_96 rfl ?_
        refine j_if_eq (tgt := 110) C dX6_placeBehind_97 (by decide) (fun _ => ?_) (fun h => absurd (by decide) h)
        refine j_iconst C dX6_placeBehind_110 (-1 : Int32) (by decide) ?_
        have e9 : r_X6_placeBehind p c = (-1 : Int32) := by rw [r_X6_placeBehind, if_neg h3, if_pos h9, if_neg h19_0, if_neg h19_1, if_neg h19_2, if_pos h19_3]
        exact j_iret E dX6_placeBehind_111 (by rw [e9]; exact ⟨rfl, rfl⟩)
      refine j_tabOut (tgt := 112) C dX6_placeBehind_19 (by have e0 := tab_ne h19_0 0 rfl; have e1 := tab_ne h19_1 1 rfl; have e2 := tab_ne h19_2 2 rfl; have e3 := tab_ne h19_3 3 rfl; omega) (by decide) ?_
      refine j_iload_n C dX6_placeBehind_112 rfl ?_
      refine j_bipush C dX6_placeBehind_113 (44 : Int32) (by decide) ?_
      refine j_icmp_ne (tgt := 120) C dX6_placeBehind_115 (by decide) (fun (h115 : ¬ (c = (44 : Int32))) => ?_) (fun (h115 : c = (44 : Int32)) => ?_)
      · refine j_iload_n C dX6_placeBehind_120 rfl ?_
        refine j_if_eq (tgt := 136) C dX6_placeBehind_121 (by decide) (fun _ => ?_) (fun h => absurd (by decide) h)
        refine j_iconst C dX6_placeBehind_136 (-1 : Int32) (by decide) ?_
        have e9 : r_X6_placeBehind p c = (-1 : Int32) := by rw [r_X6_placeBehind, if_neg h3, if_pos h9, if_neg h19_0, if_neg h19_1, if_neg h19_2, if_neg h19_3, if_neg h115]
        exact j_iret E dX6_placeBehind_137 (by rw [e9]; exact ⟨rfl, rfl⟩)
      · refine j_iconst C dX6_placeBehind_118 (0 : Int32) (by decide) ?_
        have e9 : r_X6_placeBehind p c = (0 : Int32) := by rw [r_X6_placeBehind, if_neg h3, if_pos h9, if_neg h19_0, if_neg h19_1, if_neg h19_2, if_neg h19_3, if_pos h115]
        exact j_iret E dX6_placeBehind_119 (by rw [e9]; exact ⟨rfl, rfl⟩)
    · refine j_iconst C dX6_placeBehind_12 (1 : Int32) (by decide) ?_
      refine j_goto (tgt := 17) C dX6_placeBehind_13 (by decide) ?_
      refine j_istore_n C [(2, _), (0, _), (1, _)] dX6_placeBehind_17 (by decide) rfl ?_
      refine j_iload_n C dX6_placeBehind_18 rfl ?_
      by_cases h19_0 : p = (0 : Int32)
      · refine j_tabEq (tgt := 48) C h19_0 dX6_placeBehind_19 (by decide) (by decide) (off := 29) rfl (by decide) ?_
        refine j_iload_n C dX6_placeBehind_48 rfl ?_
        refine j_bipush C dX6_placeBehind_49 (48 : Int32) (by decide) ?_
        refine j_icmp_ne (tgt := 56) C dX6_placeBehind_51 (by decide) (fun (h51 : ¬ (c = (48 : Int32))) => ?_) (fun (h51 : c = (48 : Int32)) => ?_)
        · refine j_iload_n C dX6_placeBehind_56 rfl ?_
          refine j_if_eq (tgt := 64) C dX6_placeBehind_57 (by decide) (fun h => absurd h (by decide)) (fun _ => ?_)
          refine j_iconst C dX6_placeBehind_60 (1 : Int32) (by decide) ?_
          refine j_goto (tgt := 65) C dX6_placeBehind_61 (by decide) ?_
          have e9 : r_X6_placeBehind p c = (1 : Int32) := by rw [r_X6_placeBehind, if_neg h3, if_neg h9, if_pos h19_0, if_neg h51]
          exact j_iret E dX6_placeBehind_65 (by rw [e9]; exact ⟨rfl, rfl⟩)
        · refine j_iconst C dX6_placeBehind_54 (2 : Int32) (by decide) ?_
          have e9 : r_X6_placeBehind p c = (2 : Int32) := by rw [r_X6_placeBehind, if_neg h3, if_neg h9, if_pos h19_0, if_pos h51]
          exact j_iret E dX6_placeBehind_55 (by rw [e9]; exact ⟨rfl, rfl⟩)
      by_cases h19_1 : p = (1 : Int32)
      · refine j_tabEq (tgt := 66) C h19_1 dX6_placeBehind_19 (by decide) (by decide) (off := 47) rfl (by decide) ?_
        refine j_iload_n C dX6_placeBehind_66 rfl ?_
        refine j_bipush C dX6_placeBehind_67 (61 : Int32) (by decide) ?_
        refine j_icmp_ne (tgt := 74) C dX6_placeBehind_69 (by decide) (fun (h69 : ¬ (c = (61 : Int32))) => ?_) (fun (h69 : c = (61 : Int32)) => ?_)
        · refine j_iload_n C dX6_placeBehind_74 rfl ?_
          refine j_if_eq (tgt := 82) C dX6_placeBehind_75 (by decide) (fun h => absurd h (by decide)) (fun _ => ?_)
          refine j_iconst C dX6_placeBehind_78 (2 : Int32) (by decide) ?_
          refine j_goto (tgt := 83) C dX6_placeBehind_79 (by decide) ?_
          have e9 : r_X6_placeBehind p c = (2 : Int32) := by rw [r_X6_placeBehind, if_neg h3, if_neg h9, if_neg h19_0, if_pos h19_1, if_neg h69]
          exact j_iret E dX6_placeBehind_83 (by rw [e9]; exact ⟨rfl, rfl⟩)
        · refine j_iconst C dX6_placeBehind_72 (3 : Int32) (by decide) ?_
          have e9 : r_X6_placeBehind p c = (3 : Int32) := by rw [r_X6_placeBehind, if_neg h3, if_neg h9, if_neg h19_0, if_pos h19_1, if_pos h69]
          exact j_iret E dX6_placeBehind_73 (by rw [e9]; exact ⟨rfl, rfl⟩)
      by_cases h19_2 : p = (2 : Int32)
      · refine j_tabEq (tgt := 84) C h19_2 dX6_placeBehind_19 (by decide) (by decide) (off := 65) rfl (by decide) ?_
        refine j_iload_n C dX6_placeBehind_84 rfl ?_
        refine j_bipush C dX6_placeBehind_85 (61 : Int32) (by decide) ?_
        refine j_icmp_ne (tgt := 94) C dX6_placeBehind_87 (by decide) (fun (h87 : ¬ (c = (61 : Int32))) => ?_) (fun (h87 : c = (61 : Int32)) => ?_)
        · refine j_iconst C dX6_placeBehind_94 (-1 : Int32) (by decide) ?_
          have e9 : r_X6_placeBehind p c = (-1 : Int32) := by rw [r_X6_placeBehind, if_neg h3, if_neg h9, if_neg h19_0, if_neg h19_1, if_pos h19_2, if_neg h87]
          exact j_iret E dX6_placeBehind_95 (by rw [e9]; exact ⟨rfl, rfl⟩)
        · refine j_iconst C dX6_placeBehind_90 (3 : Int32) (by decide) ?_
          refine j_goto (tgt := 95) C dX6_placeBehind_91 (by decide) ?_
          have e9 : r_X6_placeBehind p c = (3 : Int32) := by rw [r_X6_placeBehind, if_neg h3, if_neg h9, if_neg h19_0, if_neg h19_1, if_pos h19_2, if_pos h87]
          exact j_iret E dX6_placeBehind_95 (by rw [e9]; exact ⟨rfl, rfl⟩)
      by_cases h19_3 : p = (3 : Int32)
      · refine j_tabEq (tgt := 96) C h19_3 dX6_placeBehind_19 (by decide) (by decide) (off := 77) rfl (by decide) ?_
        refine j_iload_n C dX6_placeBehind_96 rfl ?_
        refine j_if_eq (tgt := 110) C dX6_placeBehind_97 (by decide) (fun h => absurd h (by decide)) (fun _ => ?_)
        refine j_iload_n C dX6_placeBehind_100 rfl ?_
        refine j_bipush C dX6_placeBehind_101 (48 : Int32) (by decide) ?_
        refine j_icmp_eq (tgt := 110) C dX6_placeBehind_103 (by decide) (fun (h103 : c = (48 : Int32)) => ?_) (fun (h103 : ¬ (c = (48 : Int32))) => ?_)
        · refine j_iconst C dX6_placeBehind_110 (-1 : Int32) (by decide) ?_
          have e9 : r_X6_placeBehind p c = (-1 : Int32) := by rw [r_X6_placeBehind, if_neg h3, if_neg h9, if_neg h19_0, if_neg h19_1, if_neg h19_2, if_pos h19_3, if_pos h103]
          exact j_iret E dX6_placeBehind_111 (by rw [e9]; exact ⟨rfl, rfl⟩)
        · refine j_iconst C dX6_placeBehind_106 (4 : Int32) (by decide) ?_
          refine j_goto (tgt := 111) C dX6_placeBehind_107 (by decide) ?_
          have e9 : r_X6_placeBehind p c = (4 : Int32) := by rw [r_X6_placeBehind, if_neg h3, if_neg h9, if_neg h19_0, if_neg h19_1, if_neg h19_2, if_pos h19_3, if_neg h103]
          exact j_iret E dX6_placeBehind_111 (by rw [e9]; exact ⟨rfl, rfl⟩)
      refine j_tabOut (tgt := 112) C dX6_placeBehind_19 (by have e0 := tab_ne h19_0 0 rfl; have e1 := tab_ne h19_1 1 rfl; have e2 := tab_ne h19_2 2 rfl; have e3 := tab_ne h19_3 3 rfl; omega) (by decide) ?_
      refine j_iload_n C dX6_placeBehind_112 rfl ?_
      refine j_bipush C dX6_placeBehind_113 (44 : Int32) (by decide) ?_
      refine j_icmp_ne (tgt := 120) C dX6_placeBehind_115 (by decide) (fun (h115 : ¬ (c = (44 : Int32))) => ?_) (fun (h115 : c = (44 : Int32)) => ?_)
      · refine j_iload_n C dX6_placeBehind_120 rfl ?_
        refine j_if_eq (tgt := 136) C dX6_placeBehind_121 (by decide) (fun h => absurd h (by decide)) (fun _ => ?_)
        refine j_iload_n C dX6_placeBehind_124 rfl ?_
        refine j_bipush C dX6_placeBehind_125 (10 : Int32) (by decide) ?_
        refine j_icmp_ge (tgt := 136) C dX6_placeBehind_127 (by decide) (fun (h127 : (10 : Int32) ≤ p) => ?_) (fun (h127 : ¬ ((10 : Int32) ≤ p)) => ?_)
        · refine j_iconst C dX6_placeBehind_136 (-1 : Int32) (by decide) ?_
          have e9 : r_X6_placeBehind p c = (-1 : Int32) := by rw [r_X6_placeBehind, if_neg h3, if_neg h9, if_neg h19_0, if_neg h19_1, if_neg h19_2, if_neg h19_3, if_neg h115, if_pos h127]
          exact j_iret E dX6_placeBehind_137 (by rw [e9]; exact ⟨rfl, rfl⟩)
        · refine j_iload_n C dX6_placeBehind_130 rfl ?_
          refine j_iconst C dX6_placeBehind_131 (1 : Int32) (by decide) ?_
          refine j_iadd C dX6_placeBehind_132 ?_
          refine j_goto (tgt := 137) C dX6_placeBehind_133 (by decide) ?_
          have e9 : r_X6_placeBehind p c = (p + (1 : Int32)) := by rw [r_X6_placeBehind, if_neg h3, if_neg h9, if_neg h19_0, if_neg h19_1, if_neg h19_2, if_neg h19_3, if_neg h115, if_neg h127]
          exact j_iret E dX6_placeBehind_137 (by rw [e9]; exact ⟨rfl, rfl⟩)
      · refine j_iconst C dX6_placeBehind_118 (0 : Int32) (by decide) ?_
        have e9 : r_X6_placeBehind p c = (0 : Int32) := by rw [r_X6_placeBehind, if_neg h3, if_neg h9, if_neg h19_0, if_neg h19_1, if_neg h19_2, if_neg h19_3, if_pos h115]
        exact j_iret E dX6_placeBehind_119 (by rw [e9]; exact ⟨rfl, rfl⟩)
