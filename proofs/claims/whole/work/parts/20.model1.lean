

def r_X8_in (v : Int32) (lo : Int32) (hi : Int32) : Int32 := (if v < lo then (0 : Int32) else (if hi < v then (0 : Int32) else (1 : Int32)))
set_option maxRecDepth 100000 in
set_option maxHeartbeats 4000000 in
theorem c_X8_in (l : Launch) (D : va_G) (ca : Nat → ClassId) (v : Int32) (lo : Int32) (hi : Int32) : jM l D ca yX8_in cX8_in 3 (Option.some FieldType.boolean) 0 0 0 0 [.int v, .int lo, .int hi] [] (jD (some (.int (r_X8_in v lo hi))) []) := by
  refine jM_of [(0, .int v), (1, .int lo), (2, .int hi)] (by decide) (Nat.le_of_ble_eq_true rfl) rfl (fun X C E => ?_)
  refine j_iload_n C dX8_in_0 rfl ?_
  refine j_iload_n C dX8_in_1 rfl ?_
  refine j_icmp_lt (tgt := 14) C dX8_in_2 (by decide) (fun (h2 : v < lo) => ?_) (fun (h2 : ¬ (v < lo)) => ?_)
  · refine j_iconst C dX8_in_14 (0 : Int32) (by decide) ?_
    have e9 : r_X8_in v lo hi = (0 : Int32) := by rw [r_X8_in, if_pos h2]
    exact j_zret E rfl dX8_in_15 (by rw [e9]; exact ⟨rfl, rfl⟩)
  · refine j_iload_n C dX8_in_5 rfl ?_
    refine j_iload_n C dX8_in_6 rfl ?_
    refine j_icmp_gt (tgt := 14) C dX8_in_7 (by decide) (fun (h7 : hi < v) => ?_) (fun (h7 : ¬ (hi < v)) => ?_)
    · refine j_iconst C dX8_in_14 (0 : Int32) (by decide) ?_
      have e9 : r_X8_in v lo hi = (0 : Int32) := by rw [r_X8_in, if_neg h2, if_pos h7]
      exact j_zret E rfl dX8_in_15 (by rw [e9]; exact ⟨rfl, rfl⟩)
    · refine j_iconst C dX8_in_10 (1 : Int32) (by decide) ?_
      refine j_goto (tgt := 15) C dX8_in_11 (by decide) ?_
      have e9 : r_X8_in v lo hi = (1 : Int32) := by rw [r_X8_in, if_neg h2, if_neg h7]
      exact j_zret E rfl dX8_in_15 (by rw [e9]; exact ⟨rfl, rfl⟩)


def r_X8_of (i : Int32) (w : Int32) : Int32 := (((64 : Int32) + ((7 : Int32) * i)) + w)
set_option maxRecDepth 100000 in
set_option maxHeartbeats 4000000 in
theorem c_X8_of (l : Launch) (D : va_G) (ca : Nat → ClassId) (i : Int32) (w : Int32) : jM l D ca yX8_of cX8_of 2 (some .int) 0 0 0 0 [.int i, .int w] [] (jD (some (.int (r_X8_of i w))) []) := by
  refine jM_of [(0, .int i), (1, .int w)] (by decide) (Nat.le_of_ble_eq_true rfl) rfl (fun X C E => ?_)
  refine j_bipush C dX8_of_0 (64 : Int32) (by decide) ?_
  refine j_bipush C dX8_of_2 (7 : Int32) (by decide) ?_
  refine j_iload_n C dX8_of_4 rfl ?_
  refine j_imul C dX8_of_5 ?_
  refine j_iadd C dX8_of_6 ?_
  refine j_iload_n C dX8_of_7 rfl ?_
  refine j_iadd C dX8_of_8 ?_
  have e9 : r_X8_of i w = (((64 : Int32) + ((7 : Int32) * i)) + w) := by rw [r_X8_of]
  exact j_iret E dX8_of_9 (by rw [e9]; exact ⟨rfl, rfl⟩)


def r_X8_ofMember (i : Int32) (w : Int32) : Int32 := (((14 : Int32) + ((4 : Int32) * i)) + w)
set_option maxRecDepth 100000 in
set_option maxHeartbeats 4000000 in
theorem c_X8_ofMember (l : Launch) (D : va_G) (ca : Nat → ClassId) (i : Int32) (w : Int32) : jM l D ca yX8_ofMember cX8_ofMember 2 (some .int) 0 0 0 0 [.int i, .int w] [] (jD (some (.int (r_X8_ofMember i w))) []) := by
  refine jM_of [(0, .int i), (1, .int w)] (by decide) (Nat.le_of_ble_eq_true rfl) rfl (fun X C E => ?_)
  refine j_bipush C dX8_ofMember_0 (14 : Int32) (by decide) ?_
  refine j_iconst C dX8_ofMember_2 (4 : Int32) (by decide) ?_
  refine j_iload_n C dX8_ofMember_3 rfl ?_
  refine j_imul C dX8_ofMember_4 ?_
  refine j_iadd C dX8_ofMember_5 ?_
  refine j_iload_n C dX8_ofMember_6 rfl ?_
  refine j_iadd C dX8_ofMember_7 ?_
  have e9 : r_X8_ofMember i w = (((14 : Int32) + ((4 : Int32) * i)) + w) := by rw [r_X8_ofMember]
  exact j_iret E dX8_ofMember_8 (by rw [e9]; exact ⟨rfl, rfl⟩)


def r_X8_ofClient (i : Int32) (w : Int32) : Int32 := (((46 : Int32) + ((3 : Int32) * i)) + w)
set_option maxRecDepth 100000 in
set_option maxHeartbeats 4000000 in
theorem c_X8_ofClient (l : Launch) (D : va_G) (ca : Nat → ClassId) (i : Int32) (w : Int32) : jM l D ca yX8_ofClient cX8_ofClient 2 (some .int) 0 0 0 0 [.int i, .int w] [] (jD (some (.int (r_X8_ofClient i w))) []) := by
  refine jM_of [(0, .int i), (1, .int w)] (by decide) (Nat.le_of_ble_eq_true rfl) rfl (fun X C E => ?_)
  refine j_bipush C dX8_ofClient_0 (46 : Int32) (by decide) ?_
  refine j_iconst C dX8_ofClient_2 (3 : Int32) (by decide) ?_
  refine j_iload_n C dX8_ofClient_3 rfl ?_
  refine j_imul C dX8_ofClient_4 ?_
  refine j_iadd C dX8_ofClient_5 ?_
  refine j_iload_n C dX8_ofClient_6 rfl ?_
  refine j_iadd C dX8_ofClient_7 ?_
  have e9 : r_X8_ofClient i w = (((46 : Int32) + ((3 : Int32) * i)) + w) := by rw [r_X8_ofClient]
  exact j_iret E dX8_ofClient_8 (by rw [e9]; exact ⟨rfl, rfl⟩)
theorem vin_lin {i w : Int32} {a n p : Nat} (b : Nat) (hi : vp_in i n) (hw : vp_in w p) (A B : Int32) (hA : A = nI a) (hB : B = nI b) (N : Nat) (hN : b + a * n + p ≤ N + a) (hN2 : N < 2 ^ 20) (hb : b < 2 ^ 20) (ha : a < 2 ^ 10) (hn : n < 2 ^ 10) (hp : p < 2 ^ 10) : vp_in (B + A * i + w) N := by
  obtain ⟨j, hj, rfl⟩ := vp_in_of hi (by omega)
  obtain ⟨q, hq, rfl⟩ := vp_in_of hw (by omega)
  subst hA; subst hB
  rw [pk_mul, nI_add, nI_add]
  have h1 : a * j + a ≤ a * n := by
    have := Nat.mul_le_mul_left a (show j + 1 ≤ n from hj)
    rw [Nat.mul_add, Nat.mul_one] at this
    exact this
  exact vp_in_nI (by omega) (by omega)
theorem vin_of {i w : Int32} (hi : vp_in i 20) (hw : vp_in w 7) : vp_in (r_X8_of i w) 204 := vin_lin (a := 7) 64 hi hw 7 64 rfl rfl 204 (by decide) (by decide) (by decide) (by decide) (by decide) (by decide)
theorem vin_om {i w : Int32} (hi : vp_in i 8) (hw : vp_in w 4) : vp_in (r_X8_ofMember i w) 204 := vin_lin (a := 4) 14 hi hw 4 14 rfl rfl 204 (by decide) (by decide) (by decide) (by decide) (by decide) (by decide)
theorem vin_oc {i w : Int32} (hi : vp_in i 6) (hw : vp_in w 3) : vp_in (r_X8_ofClient i w) 204 := vin_lin (a := 3) 46 hi hw 3 46 rfl rfl 204 (by decide) (by decide) (by decide) (by decide) (by decide) (by decide)
theorem in_z (v lo hi : Int32) : narrow .boolean (.int (r_X8_in v lo hi)) = .int (r_X8_in v lo hi) := by
  unfold r_X8_in
  split
  · rfl
  · split <;> rfl


def r_X8_isMember (M : jB) (i : Int32) : Int32 := (r_X8_in i (0 : Int32) ((M 0 (8 : Int32).toNatClampNeg) - (1 : Int32)))
set_option maxRecDepth 100000 in
set_option maxHeartbeats 4000000 in
theorem c_X8_isMember (l : Launch) (D : va_G) (ca : Nat → ClassId) (g : Nat → Nat) (M : jB) (i : Int32) : jM l D ca yX8_isMember cX8_isMember 2 (Option.some FieldType.boolean) 1 22 0 0 [.ref (g 0), .int i] (mW ca g M) (jD (some (.int (r_X8_isMember M i))) (mW ca g M)) := by
  refine jM_of [(0, .ref (g 0)), (1, .int i)] (by decide) (Nat.le_of_ble_eq_true rfl) rfl (fun X C E => ?_)
  refine j_iload_n C dX8_isMember_0 rfl ?_
  refine j_iconst C dX8_isMember_1 (0 : Int32) (by decide) ?_
  refine j_aload_n C dX8_isMember_2 rfl ?_
  refine j_get C f_X8_7.F 0 dX8_isMember_3 mW_0 rfl ?_
  refine j_bipush C dX8_isMember_6 (8 : Int32) (by decide) ?_
  refine j_iald C 1 dX8_isMember_8 mW_1 (vin_c rfl) ?_
  refine j_iconst C dX8_isMember_9 (1 : Int32) (by decide) ?_
  refine j_isub C dX8_isMember_10 ?_
  refine j_callSiR C g_X8_38 (c_X8_in l D ca i (0 : Int32) ((M 0 (8 : Int32).toNatClampNeg) - (1 : Int32))) ⟨Nat.le_of_ble_eq_true rfl, Nat.le_of_ble_eq_true rfl⟩ ⟨Nat.le_of_ble_eq_true rfl, Nat.le_of_ble_eq_true rfl⟩ [] rfl rfl rfl rfl (Nat.le_of_ble_eq_true rfl) dX8_isMember_11 ?_
  have e9 : r_X8_isMember M i = (r_X8_in i (0 : Int32) ((M 0 (8 : Int32).toNatClampNeg) - (1 : Int32))) := by rw [r_X8_isMember]
  exact j_zret E (in_z _ _ _) dX8_isMember_14 (by rw [e9]; exact ⟨rfl, rfl⟩)


def r_X8_isInvoice (M : jB) (i : Int32) : Int32 := (r_X8_in i (0 : Int32) ((M 0 (9 : Int32).toNatClampNeg) - (1 : Int32)))
set_option maxRecDepth 100000 in
set_option maxHeartbeats 4000000 in
theorem c_X8_isInvoice (l : Launch) (D : va_G) (ca : Nat → ClassId) (g : Nat → Nat) (M : jB) (i : Int32) : jM l D ca yX8_isInvoice cX8_isInvoice 2 (Option.some FieldType.boolean) 1 22 0 0 [.ref (g 0), .int i] (mW ca g M) (jD (some (.int (r_X8_isInvoice M i))) (mW ca g M)) := by
  refine jM_of [(0, .ref (g 0)), (1, .int i)] (by decide) (Nat.le_of_ble_eq_true rfl) rfl (fun X C E => ?_)
  refine j_iload_n C dX8_isInvoice_0 rfl ?_
  refine j_iconst C dX8_isInvoice_1 (0 : Int32) (by decide) ?_
  refine j_aload_n C dX8_isInvoice_2 rfl ?_
  refine j_get C f_X8_7.F 0 dX8_isInvoice_3 mW_0 rfl ?_
  refine j_bipush C dX8_isInvoice_6 (9 : Int32) (by decide) ?_
  refine j_iald C 1 dX8_isInvoice_8 mW_1 (vin_c rfl) ?_
  refine j_iconst C dX8_isInvoice_9 (1 : Int32) (by decide) ?_
  refine j_isub C dX8_isInvoice_10 ?_
  refine j_callSiR C g_X8_38 (c_X8_in l D ca i (0 : Int32) ((M 0 (9 : Int32).toNatClampNeg) - (1 : Int32))) ⟨Nat.le_of_ble_eq_true rfl, Nat.le_of_ble_eq_true rfl⟩ ⟨Nat.le_of_ble_eq_true rfl, Nat.le_of_ble_eq_true rfl⟩ [] rfl rfl rfl rfl (Nat.le_of_ble_eq_true rfl) dX8_isInvoice_11 ?_
  have e9 : r_X8_isInvoice M i = (r_X8_in i (0 : Int32) ((M 0 (9 : Int32).toNatClampNeg) - (1 : Int32))) := by rw [r_X8_isInvoice]
  exact j_zret E (in_z _ _ _) dX8_isInvoice_14 (by rw [e9]; exact ⟨rfl, rfl⟩)


def r_X8_isClient (i : Int32) : Int32 := (r_X8_in i (0 : Int32) (5 : Int32))
set_option maxRecDepth 100000 in
set_option maxHeartbeats 4000000 in
theorem c_X8_isClient (l : Launch) (D : va_G) (ca : Nat → ClassId) (i : Int32) : jM l D ca yX8_isClient cX8_isClient 1 (Option.some FieldType.boolean) 1 22 0 0 [.int i] [] (jD (some (.int (r_X8_isClient i))) []) := by
  refine jM_of [(0, .int i)] (by decide) (Nat.le_of_ble_eq_true rfl) rfl (fun X C E => ?_)
  refine j_iload_n C dX8_isClient_0 rfl ?_
  refine j_iconst C dX8_isClient_1 (0 : Int32) (by decide) ?_
  refine j_iconst C dX8_isClient_2 (5 : Int32) (by decide) ?_
  refine j_callSiR C g_X8_38 (c_X8_in l D ca i (0 : Int32) (5 : Int32)) ⟨Nat.le_of_ble_eq_true rfl, Nat.le_of_ble_eq_true rfl⟩ ⟨Nat.le_of_ble_eq_true rfl, Nat.le_of_ble_eq_true rfl⟩ [] rfl rfl rfl rfl (Nat.le_of_ble_eq_true rfl) dX8_isClient_3 ?_
  have e9 : r_X8_isClient i = (r_X8_in i (0 : Int32) (5 : Int32)) := by rw [r_X8_isClient]
  exact j_zret E (in_z _ _ _) dX8_isClient_6 (by rw [e9]; exact ⟨rfl, rfl⟩)


def r_X8_nan : UInt32 := (2143289344 : UInt32)
set_option maxRecDepth 100000 in
set_option maxHeartbeats 4000000 in
theorem c_X8_nan (l : Launch) (D : va_G) (ca : Nat → ClassId) : jM l D ca yX8_nan cX8_nan 0 (Option.some FieldType.float) 0 0 0 0 [] [] (jD (some (.float (r_X8_nan))) []) := by
  refine jM_of [] (by decide) (Nat.le_of_ble_eq_true rfl) rfl (fun X C E => ?_)
  refine j_ldcf C q_846 dX8_nan_0 ?_
  have e9 : r_X8_nan = (2143289344 : UInt32) := by rw [r_X8_nan]
  exact j_fret E dX8_nan_2 (by rw [e9]; exact ⟨rfl, rfl⟩)


def L_X8_ofBits_58 (b : Int32) : Nat → UInt32 → Int32 → UInt32
  | 0, _, _ => 0
  | n58 + 1, x58_2, x58_3 => (if (b >>> ((23 : Int32) &&& 31)) ≤ x58_3 then x58_2 else L_X8_ofBits_58 b n58 (FP.fmul x58_2 (0x40000000 : UInt32)) (x58_3 + (1 : Int32)))
def NL_X8_ofBits_58 (b : Int32) : Nat → UInt32 → Int32 → Prop
  | 0, _, _ => True
  | n58 + 1, x58_2, x58_3 => (((b >>> ((23 : Int32) &&& 31)) ≤ x58_3 → True) ∧ (¬ ((b >>> ((23 : Int32) &&& 31)) ≤ x58_3) → (vf_n32 (FP.fmul x58_2 (0x40000000 : UInt32)) ∧ NL_X8_ofBits_58 b n58 (FP.fmul x58_2 (0x40000000 : UInt32)) (x58_3 + (1 : Int32)))))
def L_X8_ofBits_36 (b : Int32) : Nat → UInt32 → Int32 → UInt32
  | 0, _, _ => 0
  | n36 + 1, x36_2, x36_3 => (if (150 : Int32) ≤ x36_3 then L_X8_ofBits_58 b (((b >>> ((23 : Int32) &&& 31)).toInt - (150 : Int32).toInt).toNat + 1) x36_2 (150 : Int32) else L_X8_ofBits_36 b n36 (FP.fmul x36_2 (1056964608 : UInt32)) (x36_3 + (1 : Int32)))
def NL_X8_ofBits_36 (b : Int32) : Nat → UInt32 → Int32 → Prop
  | 0, _, _ => True
  | n36 + 1, x36_2, x36_3 => (((150 : Int32) ≤ x36_3 → NL_X8_ofBits_58 b (((b >>> ((23 : Int32) &&& 31)).toInt - (150 : Int32).toInt).toNat + 1) x36_2 (150 : Int32)) ∧ (¬ ((150 : Int32) ≤ x36_3) → (vf_n32 (FP.fmul x36_2 (1056964608 : UInt32)) ∧ NL_X8_ofBits_36 b n36 (FP.fmul x36_2 (1056964608 : UInt32)) (x36_3 + (1 : Int32)))))
def r_X8_ofBits (b : Int32) : UInt32 := (if (b >>> ((23 : Int32) &&& 31)) = (0 : Int32) then L_X8_ofBits_36 b (((150 : Int32).toInt - (1 : Int32).toInt).toNat + 1) (FP.i2f (b &&& (8388607 : Int32))) (1 : Int32) else L_X8_ofBits_36 b (((150 : Int32).toInt - (b >>> ((23 : Int32) &&& 31)).toInt).toNat + 1) (FP.i2f ((b &&& (8388607 : Int32)) ||| (8388608 : Int32))) (b >>> ((23 : Int32) &&& 31)))
def n_X8_ofBits (b : Int32) : Prop := (((b >>> ((23 : Int32) &&& 31)) = (0 : Int32) → NL_X8_ofBits_36 b (((150 : Int32).toInt - (1 : Int32).toInt).toNat + 1) (FP.i2f (b &&& (8388607 : Int32))) (1 : Int32)) ∧ (¬ ((b >>> ((23 : Int32) &&& 31)) = (0 : Int32)) → NL_X8_ofBits_36 b (((150 : Int32).toInt - (b >>> ((23 : Int32) &&& 31)).toInt).toNat + 1) (FP.i2f ((b &&& (8388607 : Int32)) ||| (8388608 : Int32))) (b >>> ((23 : Int32) &&& 31))))
set_option maxRecDepth 100000 in
set_option maxHeartbeats 4000000 in
theorem c_X8_ofBits (l : Launch) (D : va_G) (ca : Nat → ClassId) (b : Int32) (hq : n_X8_ofBits b) : jM l D ca yX8_ofBits cX8_ofBits 4 (Option.some FieldType.float) 0 0 0 0 [.int b] [] (jD (some (.float (r_X8_ofBits b))) []) := by
  refine jM_of [(0, .int b)] (by decide) (Nat.le_of_ble_eq_true rfl) rfl (fun X C E => ?_)
  rw [n_X8_ofBits] at hq
  refine j_iload_n C dX8_ofBits_0 rfl ?_
  refine j_bipush C dX8_ofBits_1 (23 : Int32) (by decide) ?_
  refine j_ishr C dX8_ofBits_3 ?_
  refine j_istore_n C [(1, _), (0, _)] dX8_ofBits_4 (by decide) rfl ?_
  refine j_iload_n C dX8_ofBits_5 rfl ?_
  refine j_if_ne (tgt := 17) C dX8_ofBits_6 (by decide) (fun (h6 : ¬ ((b >>> ((23 : Int32) &&& 31)) = (0 : Int32))) => ?_) (fun (h6 : (b >>> ((23 : Int32) &&& 31)) = (0 : Int32)) => ?_)
  · have hq := hq.2 h6
    refine j_iload_n C dX8_ofBits_17 rfl ?_
    refine j_ldc C q_681 dX8_ofBits_18 ?_
    refine j_iand C dX8_ofBits_20 ?_
    refine j_ldc C q_682 dX8_ofBits_21 ?_
    refine j_ior C dX8_ofBits_23 ?_
    refine j_i2f C dX8_ofBits_24 ?_
    refine j_fstore_n C [(2, _), (1, _), (0, _)] dX8_ofBits_25 (by decide) rfl ?_
    refine j_iload_n C dX8_ofBits_26 rfl ?_
    refine j_if_ne (tgt := 34) C dX8_ofBits_27 (by decide) (fun _ => ?_) (fun h => absurd h h6)
    refine j_iload_n C dX8_ofBits_34 rfl ?_
    refine j_istore_n C [(3, _), (2, _), (1, _), (0, _)] dX8_ofBits_35 (by decide) rfl ?_
    have K36 : ∀ (n36 : Nat) (x36_2 : UInt32) (x36_3 : Int32), ((150 : Int32).toInt - x36_3.toInt).toNat < n36 → NL_X8_ofBits_36 b n36 x36_2 x36_3 → r_X8_ofBits b = L_X8_ofBits_36 b n36 x36_2 x36_3 → J l { frames := 0, cells := 0, slots := 0, locals := 0 } D 4 X 0 0 [] [(0, .int b), (1, .int (b >>> ((23 : Int32) &&& 31))), (2, .float x36_2), (3, .int x36_3)] [] 36 := by
      intro n36
      induction n36 with
      | zero =>
        intro x36_2 x36_3 hm36
        exact absurd hm36 (Nat.not_lt_zero _)
      | succ n36 ih36 =>
        intro x36_2 x36_3 hm36 hq hr36
        rw [NL_X8_ofBits_36] at hq
        refine j_iload_n C dX8_ofBits_36 rfl ?_
        refine j_sipush C dX8_ofBits_37 (150 : Int32) (by decide) ?_
        refine j_icmp_ge (tgt := 54) C dX8_ofBits_40 (by decide) (fun (h40 : (150 : Int32) ≤ x36_3) => ?_) (fun (h40 : ¬ ((150 : Int32) ≤ x36_3)) => ?_)
        · have hq := hq.1 h40
          refine j_sipush C dX8_ofBits_54 (150 : Int32) (by decide) ?_
          refine j_istore_n C [(3, _), (0, _), (1, _), (2, _)] dX8_ofBits_57 (by decide) rfl ?_
          have K58 : ∀ (n58 : Nat) (x58_2 : UInt32) (x58_3 : Int32), ((b >>> ((23 : Int32) &&& 31)).toInt - x58_3.toInt).toNat < n58 → NL_X8_ofBits_58 b n58 x58_2 x58_3 → r_X8_ofBits b = L_X8_ofBits_58 b n58 x58_2 x58_3 → J l { frames := 0, cells := 0, slots := 0, locals := 0 } D 4 X 0 0 [] [(0, .int b), (1, .int (b >>> ((23 : Int32) &&& 31))), (2, .float x58_2), (3, .int x58_3)] [] 58 := by
            intro n58
            induction n58 with
            | zero =>
              intro x58_2 x58_3 hm58
              exact absurd hm58 (Nat.not_lt_zero _)
            | succ n58 ih58 =>
              intro x58_2 x58_3 hm58 hq hr58
              rw [NL_X8_ofBits_58] at hq
              refine j_iload_n C dX8_ofBits_58 rfl ?_
              refine j_iload_n C dX8_ofBits_59 rfl ?_
              refine j_icmp_ge (tgt := 73) C dX8_ofBits_60 (by decide) (fun (h60 : (b >>> ((23 : Int32) &&& 31)) ≤ x58_3) => ?_) (fun (h60 : ¬ ((b >>> ((23 : Int32) &&& 31)) ≤ x58_3)) => ?_)
              · have hq := hq.1 h60
                refine j_fload_n C dX8_ofBits_73 rfl ?_
                have e9 : r_X8_ofBits b = x58_2 := by rw [hr58, L_X8_ofBits_58, if_pos h60]
                exact j_fret E dX8_ofBits_74 (by rw [e9]; exact ⟨rfl, rfl⟩)
              · have hq := hq.2 h60
                refine j_fload_n C dX8_ofBits_63 rfl ?_
                refine j_fconst2 C dX8_ofBits_64 ?_
                obtain ⟨hv, hq⟩ := hq
                refine j_fmul C dX8_ofBits_65 hv ?_
                refine j_fstore_n C [(2, _), (0, _), (1, _), (3, _)] dX8_ofBits_66 (by decide) rfl ?_
                refine j_iinc C [(3, _), (2, _), (0, _), (1, _)] (v := (x58_3 + (1 : Int32))) dX8_ofBits_67 rfl (iinc_1 _) (by decide) rfl ?_
                refine j_goto (tgt := 58) C dX8_ofBits_70 (by decide) ?_
                refine j_lv [(0, .int b), (1, .int (b >>> ((23 : Int32) &&& 31))), (2, .float (FP.fmul x58_2 (0x40000000 : UInt32))), (3, .int (x58_3 + (1 : Int32)))] rfl ?_
                exact ih58 (FP.fmul x58_2 (0x40000000 : UInt32)) (x58_3 + (1 : Int32)) (jms h60 hm58) hq (by rw [hr58, L_X8_ofBits_58, if_neg h60])
          refine j_lv [(0, .int b), (1, .int (b >>> ((23 : Int32) &&& 31))), (2, .float x36_2), (3, .int (150 : Int32))] rfl ?_
          exact K58 (((b >>> ((23 : Int32) &&& 31)).toInt - (150 : Int32).toInt).toNat + 1) x36_2 (150 : Int32) (Nat.lt_succ_self _) hq (by rw [hr36, L_X8_ofBits_36, if_pos h40])
        · have hq := hq.2 h40
          refine j_fload_n C dX8_ofBits_43 rfl ?_
          refine j_ldcf C q_683 dX8_ofBits_44 ?_
          obtain ⟨hv, hq⟩ := hq
          refine j_fmul C dX8_ofBits_46 hv ?_
          refine j_fstore_n C [(2, _), (0, _), (1, _), (3, _)] dX8_ofBits_47 (by decide) rfl ?_
          refine j_iinc C [(3, _), (2, _), (0, _), (1, _)] (v := (x36_3 + (1 : Int32))) dX8_ofBits_48 rfl (iinc_1 _) (by decide) rfl ?_
          refine j_goto (tgt := 36) C dX8_ofBits_51 (by decide) ?_
          refine j_lv [(0, .int b), (1, .int (b >>> ((23 : Int32) &&& 31))), (2, .float (FP.fmul x36_2 (1056964608 : UInt32))), (3, .int (x36_3 + (1 : Int32)))] rfl ?_
          exact ih36 (FP.fmul x36_2 (1056964608 : UInt32)) (x36_3 + (1 : Int32)) (jms h40 hm36) hq (by rw [hr36, L_X8_ofBits_36, if_neg h40])
    refine j_lv [(0, .int b), (1, .int (b >>> ((23 : Int32) &&& 31))), (2, .float (FP.i2f ((b &&& (8388607 : Int32)) ||| (8388608 : Int32)))), (3, .int (b >>> ((23 : Int32) &&& 31)))] rfl ?_
    exact K36 (((150 : Int32).toInt - (b >>> ((23 : Int32) &&& 31)).toInt).toNat + 1) (FP.i2f ((b &&& (8388607 : Int32)) ||| (8388608 : Int32))) (b >>> ((23 : Int32) &&& 31)) (Nat.lt_succ_self _) hq (by rw [r_X8_ofBits, if_neg h6])
  · have hq := hq.1 h6
    refine j_iload_n C dX8_ofBits_9 rfl ?_
    refine j_ldc C q_681 dX8_ofBits_10 ?_
    refine j_iand C dX8_ofBits_12 ?_
    refine j_i2f C dX8_ofBits_13 ?_
    refine j_goto (tgt := 25) C dX8_ofBits_14 (by decide) ?_
    refine j_fstore_n C [(2, _), (1, _), (0, _)] dX8_ofBits_25 (by decide) rfl ?_
    refine j_iload_n C dX8_ofBits_26 rfl ?_
    refine j_if_ne (tgt := 34) C dX8_ofBits_27 (by decide) (fun h => absurd h6 h) (fun _ => ?_)
    refine j_iconst C dX8_ofBits_30 (1 : Int32) (by decide) ?_
    refine j_goto (tgt := 35) C dX8_ofBits_31 (by decide) ?_
    refine j_istore_n C [(3, _), (2, _), (1, _), (0, _)] dX8_ofBits_35 (by decide) rfl ?_
    have K36 : ∀ (n36 : Nat) (x36_2 : UInt32) (x36_3 : Int32), ((150 : Int32).toInt - x36_3.toInt).toNat < n36 → NL_X8_ofBits_36 b n36 x36_2 x36_3 → r_X8_ofBits b = L_X8_ofBits_36 b n36 x36_2 x36_3 → J l { frames := 0, cells := 0, slots := 0, locals := 0 } D 4 X 0 0 [] [(0, .int b), (1, .int (b >>> ((23 : Int32) &&& 31))), (2, .float x36_2), (3, .int x36_3)] [] 36 := by
      intro n36
      induction n36 with
      | zero =>
        intro x36_2 x36_3 hm36
        exact absurd hm36 (Nat.not_lt_zero _)
      | succ n36 ih36 =>
        intro x36_2 x36_3 hm36 hq hr36
        rw [NL_X8_ofBits_36] at hq
        refine j_iload_n C dX8_ofBits_36 rfl ?_
        refine j_sipush C dX8_ofBits_37 (150 : Int32) (by decide) ?_
        refine j_icmp_ge (tgt := 54) C dX8_ofBits_40 (by decide) (fun (h40 : (150 : Int32) ≤ x36_3) => ?_) (fun (h40 : ¬ ((150 : Int32) ≤ x36_3)) => ?_)
        · have hq := hq.1 h40
          refine j_sipush C dX8_ofBits_54 (150 : Int32) (by decide) ?_
          refine j_istore_n C [(3, _), (0, _), (1, _), (2, _)] dX8_ofBits_57 (by decide) rfl ?_
          have K58 : ∀ (n58 : Nat) (x58_2 : UInt32) (x58_3 : Int32), ((b >>> ((23 : Int32) &&& 31)).toInt - x58_3.toInt).toNat < n58 → NL_X8_ofBits_58 b n58 x58_2 x58_3 → r_X8_ofBits b = L_X8_ofBits_58 b n58 x58_2 x58_3 → J l { frames := 0, cells := 0, slots := 0, locals := 0 } D 4 X 0 0 [] [(0, .int b), (1, .int (b >>> ((23 : Int32) &&& 31))), (2, .float x58_2), (3, .int x58_3)] [] 58 := by
            intro n58
            induction n58 with
            | zero =>
              intro x58_2 x58_3 hm58
              exact absurd hm58 (Nat.not_lt_zero _)
            | succ n58 ih58 =>
              intro x58_2 x58_3 hm58 hq hr58
              rw [NL_X8_ofBits_58] at hq
              refine j_iload_n C dX8_ofBits_58 rfl ?_
              refine j_iload_n C dX8_ofBits_59 rfl ?_
              refine j_icmp_ge (tgt := 73) C dX8_ofBits_60 (by decide) (fun (h60 : (b >>> ((23 : Int32) &&& 31)) ≤ x58_3) => ?_) (fun (h60 : ¬ ((b >>> ((23 : Int32) &&& 31)) ≤ x58_3)) => ?_)
              · have hq := hq.1 h60
                refine j_fload_n C dX8_ofBits_73 rfl ?_
                have e9 : r_X8_ofBits b = x58_2 := by rw [hr58, L_X8_ofBits_58, if_pos h60]
                exact j_fret E dX8_ofBits_74 (by rw [e9]; exact ⟨rfl, rfl⟩)
              · have hq := hq.2 h60
                refine j_fload_n C dX8_ofBits_63 rfl ?_
                refine j_fconst2 C dX8_ofBits_64 ?_
                obtain ⟨hv, hq⟩ := hq
                refine j_fmul C dX8_ofBits_65 hv ?_
                refine j_fstore_n C [(2, _), (0, _), (1, _), (3, _)] dX8_ofBits_66 (by decide) rfl ?_
                refine j_iinc C [(3, _), (2, _), (0, _), (1, _)] (v := (x58_3 + (1 : Int32))) dX8_ofBits_67 rfl (iinc_1 _) (by decide) rfl ?_
                refine j_goto (tgt := 58) C dX8_ofBits_70 (by decide) ?_
                refine j_lv [(0, .int b), (1, .int (b >>> ((23 : Int32) &&& 31))), (2, .float (FP.fmul x58_2 (0x40000000 : UInt32))), (3, .int (x58_3 + (1 : Int32)))] rfl ?_
                exact ih58 (FP.fmul x58_2 (0x40000000 : UInt32)) (x58_3 + (1 : Int32)) (jms h60 hm58) hq (by rw [hr58, L_X8_ofBits_58, if_neg h60])
          refine j_lv [(0, .int b), (1, .int (b >>> ((23 : Int32) &&& 31))), (2, .float x36_2), (3, .int (150 : Int32))] rfl ?_
          exact K58 (((b >>> ((23 : Int32) &&& 31)).toInt - (150 : Int32).toInt).toNat + 1) x36_2 (150 : Int32) (Nat.lt_succ_self _) hq (by rw [hr36, L_X8_ofBits_36, if_pos h40])
        · have hq := hq.2 h40
          refine j_fload_n C dX8_ofBits_43 rfl ?_
          refine j_ldcf C q_683 dX8_ofBits_44 ?_
          obtain ⟨hv, hq⟩ := hq
          refine j_fmul C dX8_ofBits_46 hv ?_
          refine j_fstore_n C [(2, _), (0, _), (1, _), (3, _)] dX8_ofBits_47 (by decide) rfl ?_
          refine j_iinc C [(3, _), (2, _), (0, _), (1, _)] (v := (x36_3 + (1 : Int32))) dX8_ofBits_48 rfl (iinc_1 _) (by decide) rfl ?_
          refine j_goto (tgt := 36) C dX8_ofBits_51 (by decide) ?_
          refine j_lv [(0, .int b), (1, .int (b >>> ((23 : Int32) &&& 31))), (2, .float (FP.fmul x36_2 (1056964608 : UInt32))), (3, .int (x36_3 + (1 : Int32)))] rfl ?_
          exact ih36 (FP.fmul x36_2 (1056964608 : UInt32)) (x36_3 + (1 : Int32)) (jms h40 hm36) hq (by rw [hr36, L_X8_ofBits_36, if_neg h40])
    refine j_lv [(0, .int b), (1, .int (b >>> ((23 : Int32) &&& 31))), (2, .float (FP.i2f (b &&& (8388607 : Int32)))), (3, .int (1 : Int32))] rfl ?_
    exact K36 (((150 : Int32).toInt - (1 : Int32).toInt).toNat + 1) (FP.i2f (b &&& (8388607 : Int32))) (1 : Int32) (Nat.lt_succ_self _) hq (by rw [r_X8_ofBits, if_pos h6])


def r_X8_rateOf (M : jB) (w : Int32) : UInt32 := (r_X8_ofBits (M 0 ((2 : Int32) + w).toNatClampNeg))
def n_X8_rateOf (M : jB) (w : Int32) : Prop := (vp_in ((2 : Int32) + w) 204 ∧ ((n_X8_ofBits (M 0 ((2 : Int32) + w).toNatClampNeg)) ∧ True))
set_option maxRecDepth 100000 in
set_option maxHeartbeats 4000000 in
theorem c_X8_rateOf (l : Launch) (D : va_G) (ca : Nat → ClassId) (g : Nat → Nat) (M : jB) (w : Int32) (hq : n_X8_rateOf M w) : jM l D ca yX8_rateOf cX8_rateOf 2 (Option.some FieldType.float) 1 23 0 0 [.ref (g 0), .int w] (mW ca g M) (jD (some (.float (r_X8_rateOf M w))) (mW ca g M)) := by
  refine jM_of [(0, .ref (g 0)), (1, .int w)] (by decide) (Nat.le_of_ble_eq_true rfl) rfl (fun X C E => ?_)
  rw [n_X8_rateOf] at hq
  refine j_aload_n C dX8_rateOf_0 rfl ?_
  refine j_get C f_X8_7.F 0 dX8_rateOf_1 mW_0 rfl ?_
  refine j_iconst C dX8_rateOf_4 (2 : Int32) (by decide) ?_
  refine j_iload_n C dX8_rateOf_5 rfl ?_
  refine j_iadd C dX8_rateOf_6 ?_
  obtain ⟨hv, hq⟩ := hq
  refine j_iald C 1 dX8_rateOf_7 mW_1 hv ?_
  obtain ⟨hv, hq⟩ := hq
  refine j_callSfR C g_X8_51 (c_X8_ofBits l D ca (M 0 ((2 : Int32) + w).toNatClampNeg) hv) ⟨Nat.le_of_ble_eq_true rfl, Nat.le_of_ble_eq_true rfl⟩ ⟨Nat.le_of_ble_eq_true rfl, Nat.le_of_ble_eq_true rfl⟩ [] rfl rfl rfl rfl (Nat.le_of_ble_eq_true rfl) dX8_rateOf_8 ?_
  have e9 : r_X8_rateOf M w = (r_X8_ofBits (M 0 ((2 : Int32) + w).toNatClampNeg)) := by rw [r_X8_rateOf]
  exact j_fret E dX8_rateOf_11 (by rw [e9]; exact ⟨rfl, rfl⟩)


def r_X8_riskOf (M : jB) (i : Int32) : UInt32 := (FP.fdiv (FP.i2f ((M 0 (r_X8_ofClient i (1 : Int32)).toNatClampNeg) + (1 : Int32))) (FP.i2f (((M 0 (r_X8_ofClient i (0 : Int32)).toNatClampNeg) + (M 0 (r_X8_ofClient i (1 : Int32)).toNatClampNeg)) + (2 : Int32))))
def n_X8_riskOf (M : jB) (i : Int32) : Prop := ((vp_in i 6) ∧ (vf_n32 (FP.fdiv (FP.i2f ((M 0 (r_X8_ofClient i (1 : Int32)).toNatClampNeg) + (1 : Int32))) (FP.i2f (((M 0 (r_X8_ofClient i (0 : Int32)).toNatClampNeg) + (M 0 (r_X8_ofClient i (1 : Int32)).toNatClampNeg)) + (2 : Int32)))) ∧ True))
set_option maxRecDepth 100000 in
set_option maxHeartbeats 4000000 in
theorem c_X8_riskOf (l : Launch) (D : va_G) (ca : Nat → ClassId) (g : Nat → Nat) (M : jB) (i : Int32) (hq : n_X8_riskOf M i) : jM l D ca yX8_riskOf cX8_riskOf 3 (Option.some FieldType.float) 1 21 0 0 [.ref (g 0), .int i] (mW ca g M) (jD (some (.float (r_X8_riskOf M i))) (mW ca g M)) := by
  refine jM_of [(0, .ref (g 0)), (1, .int i)] (by decide) (Nat.le_of_ble_eq_true rfl) rfl (fun X C E => ?_)
  rw [n_X8_riskOf] at hq
  obtain ⟨hc, hq⟩ := hq
  refine j_aload_n C dX8_riskOf_0 rfl ?_
  refine j_get C f_X8_7.F 0 dX8_riskOf_1 mW_0 rfl ?_
  refine j_iload_n C dX8_riskOf_4 rfl ?_
  refine j_iconst C dX8_riskOf_5 (1 : Int32) (by decide) ?_
  refine j_callSiR C g_X8_55 (c_X8_ofClient l D ca i (1 : Int32)) ⟨Nat.le_of_ble_eq_true rfl, Nat.le_of_ble_eq_true rfl⟩ ⟨Nat.le_of_ble_eq_true rfl, Nat.le_of_ble_eq_true rfl⟩ [] rfl rfl rfl rfl (Nat.le_of_ble_eq_true rfl) dX8_riskOf_6 ?_
  refine j_iald C 1 dX8_riskOf_9 mW_1 (vin_oc hc (vin_c rfl)) ?_
  refine j_istore_n C [(2, _), (0, _), (1, _)] dX8_riskOf_10 (by decide) rfl ?_
  refine j_iload_n C dX8_riskOf_11 rfl ?_
  refine j_iconst C dX8_riskOf_12 (1 : Int32) (by decide) ?_
  refine j_iadd C dX8_riskOf_13 ?_
  refine j_i2f C dX8_riskOf_14 ?_
  refine j_aload_n C dX8_riskOf_15 rfl ?_
  refine j_get C f_X8_7.F 0 dX8_riskOf_16 mW_0 rfl ?_
  refine j_iload_n C dX8_riskOf_19 rfl ?_
  refine j_iconst C dX8_riskOf_20 (0 : Int32) (by decide) ?_
  refine j_callSiR C g_X8_55 (c_X8_ofClient l D ca i (0 : Int32)) ⟨Nat.le_of_ble_eq_true rfl, Nat.le_of_ble_eq_true rfl⟩ ⟨Nat.le_of_ble_eq_true rfl, Nat.le_of_ble_eq_true rfl⟩ [] rfl rfl rfl rfl (Nat.le_of_ble_eq_true rfl) dX8_riskOf_21 ?_
  refine j_iald C 1 dX8_riskOf_24 mW_1 (vin_oc hc (vin_c rfl)) ?_
  refine j_iload_n C dX8_riskOf_25 rfl ?_
  refine j_iadd C dX8_riskOf_26 ?_
  refine j_iconst C dX8_riskOf_27 (2 : Int32) (by decide) ?_
  refine j_iadd C dX8_riskOf_28 ?_
  refine j_i2f C dX8_riskOf_29 ?_
  obtain ⟨hv, hq⟩ := hq
  refine j_fdiv C dX8_riskOf_30 hv ?_
  have e9 : r_X8_riskOf M i = (FP.fdiv (FP.i2f ((M 0 (r_X8_ofClient i (1 : Int32)).toNatClampNeg) + (1 : Int32))) (FP.i2f (((M 0 (r_X8_ofClient i (0 : Int32)).toNatClampNeg) + (M 0 (r_X8_ofClient i (1 : Int32)).toNatClampNeg)) + (2 : Int32)))) := by rw [r_X8_riskOf]
  exact j_fret E dX8_riskOf_31 (by rw [e9]; exact ⟨rfl, rfl⟩)


def r_X8_late (M : jB) (i : Int32) (days : Int32) : Int32 := (if (0 : Int32) ≤ (((M 0 (0 : Int32).toNatClampNeg) + days) - (M 0 (r_X8_of i (3 : Int32)).toNatClampNeg)) then (((M 0 (0 : Int32).toNatClampNeg) + days) - (M 0 (r_X8_of i (3 : Int32)).toNatClampNeg)) else (0 : Int32))
def n_X8_late (M : jB) (i : Int32) (days : Int32) : Prop := ((vp_in i 20) ∧ True)
set_option maxRecDepth 100000 in
set_option maxHeartbeats 4000000 in
theorem c_X8_late (l : Launch) (D : va_G) (ca : Nat → ClassId) (g : Nat → Nat) (M : jB) (i : Int32) (days : Int32) (hq : n_X8_late M i days) : jM l D ca yX8_late cX8_late 4 (some .int) 1 21 0 0 [.ref (g 0), .int i, .int days] (mW ca g M) (jD (some (.int (r_X8_late M i days))) (mW ca g M)) := by
  refine jM_of [(0, .ref (g 0)), (1, .int i), (2, .int days)] (by decide) (Nat.le_of_ble_eq_true rfl) rfl (fun X C E => ?_)
  rw [n_X8_late] at hq
  obtain ⟨hi, hq⟩ := hq
  refine j_aload_n C dX8_late_0 rfl ?_
  refine j_get C f_X8_7.F 0 dX8_late_1 mW_0 rfl ?_
  refine j_iconst C dX8_late_4 (0 : Int32) (by decide) ?_
  refine j_iald C 1 dX8_late_5 mW_1 (vin_c rfl) ?_
  refine j_iload_n C dX8_late_6 rfl ?_
  refine j_iadd C dX8_late_7 ?_
  refine j_aload_n C dX8_late_8 rfl ?_
  refine j_get C f_X8_7.F 0 dX8_late_9 mW_0 rfl ?_
  refine j_iload_n C dX8_late_12 rfl ?_
  refine j_iconst C dX8_late_13 (3 : Int32) (by decide) ?_
  refine j_callSiR C g_X8_59 (c_X8_of l D ca i (3 : Int32)) ⟨Nat.le_of_ble_eq_true rfl, Nat.le_of_ble_eq_true rfl⟩ ⟨Nat.le_of_ble_eq_true rfl, Nat.le_of_ble_eq_true rfl⟩ [] rfl rfl rfl rfl (Nat.le_of_ble_eq_true rfl) dX8_late_14 ?_
  refine j_iald C 1 dX8_late_17 mW_1 (vin_of hi (vin_c rfl)) ?_
  refine j_isub C dX8_late_18 ?_
  refine j_istore_n C [(3, _), (0, _), (1, _), (2, _)] dX8_late_19 (by decide) rfl ?_
  refine j_iload_n C dX8_late_20 rfl ?_
  refine j_if_ge (tgt := 28) C dX8_late_21 (by decide) (fun (h21 : (0 : Int32) ≤ (((M 0 (0 : Int32).toNatClampNeg) + days) - (M 0 (r_X8_of i (3 : Int32)).toNatClampNeg))) => ?_) (fun (h21 : ¬ ((0 : Int32) ≤ (((M 0 (0 : Int32).toNatClampNeg) + days) - (M 0 (r_X8_of i (3 : Int32)).toNatClampNeg)))) => ?_)
  · refine j_iload_n C dX8_late_28 rfl ?_
    have e9 : r_X8_late M i days = (((M 0 (0 : Int32).toNatClampNeg) + days) - (M 0 (r_X8_of i (3 : Int32)).toNatClampNeg)) := by rw [r_X8_late, if_pos h21]
    exact j_iret E dX8_late_29 (by rw [e9]; exact ⟨rfl, rfl⟩)
  · refine j_iconst C dX8_late_24 (0 : Int32) (by decide) ?_
    refine j_goto (tgt := 29) C dX8_late_25 (by decide) ?_
    have e9 : r_X8_late M i days = (0 : Int32) := by rw [r_X8_late, if_neg h21]
    exact j_iret E dX8_late_29 (by rw [e9]; exact ⟨rfl, rfl⟩)


def r_X8_rateBehind (M : jB) (i : Int32) (days : Int32) : UInt32 := (if (Op.cmpValue (FP.fcmp (FP.fsub (r_X8_rateOf M (0 : Int32)) (FP.fmul (r_X8_rateOf M (1 : Int32)) (FP.i2f (r_X8_late M i days)))) (0x00000000 : UInt32)) CmpOp.l) ≤ (0 : Int32) then (FP.fmul (0x00000000 : UInt32) (FP.fsub (0x3f800000 : UInt32) (r_X8_riskOf M (M 0 (r_X8_of i (1 : Int32)).toNatClampNeg)))) else (FP.fmul (FP.fsub (r_X8_rateOf M (0 : Int32)) (FP.fmul (r_X8_rateOf M (1 : Int32)) (FP.i2f (r_X8_late M i days)))) (FP.fsub (0x3f800000 : UInt32) (r_X8_riskOf M (M 0 (r_X8_of i (1 : Int32)).toNatClampNeg)))))
def n_X8_rateBehind (M : jB) (i : Int32) (days : Int32) : Prop := ((vp_in i 20) ∧ ((n_X8_rateOf M (0 : Int32)) ∧ ((n_X8_rateOf M (1 : Int32)) ∧ ((n_X8_late M i days) ∧ (vf_n32 (FP.fmul (r_X8_rateOf M (1 : Int32)) (FP.i2f (r_X8_late M i days))) ∧ (vf_n32 (FP.fsub (r_X8_rateOf M (0 : Int32)) (FP.fmul (r_X8_rateOf M (1 : Int32)) (FP.i2f (r_X8_late M i days)))) ∧ (((Op.cmpValue (FP.fcmp (FP.fsub (r_X8_rateOf M (0 : Int32)) (FP.fmul (r_X8_rateOf M (1 : Int32)) (FP.i2f (r_X8_late M i days)))) (0x00000000 : UInt32)) CmpOp.l) ≤ (0 : Int32) → ((n_X8_riskOf M (M 0 (r_X8_of i (1 : Int32)).toNatClampNeg)) ∧ (vf_n32 (FP.fsub (0x3f800000 : UInt32) (r_X8_riskOf M (M 0 (r_X8_of i (1 : Int32)).toNatClampNeg))) ∧ (vf_n32 (FP.fmul (0x00000000 : UInt32) (FP.fsub (0x3f800000 : UInt32) (r_X8_riskOf M (M 0 (r_X8_of i (1 : Int32)).toNatClampNeg)))) ∧ True)))) ∧ (¬ ((Op.cmpValue (FP.fcmp (FP.fsub (r_X8_rateOf M (0 : Int32)) (FP.fmul (r_X8_rateOf M (1 : Int32)) (FP.i2f (r_X8_late M i days)))) (0x00000000 : UInt32)) CmpOp.l) ≤ (0 : Int32)) → ((n_X8_riskOf M (M 0 (r_X8_of i (1 : Int32)).toNatClampNeg)) ∧ (vf_n32 (FP.fsub (0x3f800000 : UInt32) (r_X8_riskOf M (M 0 (r_X8_of i (1 : Int32)).toNatClampNeg))) ∧ (vf_n32 (FP.fmul (FP.fsub (r_X8_rateOf M (0 : Int32)) (FP.fmul (r_X8_rateOf M (1 : Int32)) (FP.i2f (r_X8_late M i days)))) (FP.fsub (0x3f800000 : UInt32) (r_X8_riskOf M (M 0 (r_X8_of i (1 : Int32)).toNatClampNeg)))) ∧ True)))))))))))
set_option maxRecDepth 100000 in
set_option maxHeartbeats 4000000 in
theorem c_X8_rateBehind (l : Launch) (D : va_G) (ca : Nat → ClassId) (g : Nat → Nat) (M : jB) (i : Int32) (days : Int32) (hq : n_X8_rateBehind M i days) : jM l D ca yX8_rateBehind cX8_rateBehind 5 (Option.some FieldType.float) 2 44 0 0 [.ref (g 0), .int i, .int days] (mW ca g M) (jD (some (.float (r_X8_rateBehind M i days))) (mW ca g M)) := by
  refine jM_of [(0, .ref (g 0)), (1, .int i), (2, .int days)] (by decide) (Nat.le_of_ble_eq_true rfl) rfl (fun X C E => ?_)
  rw [n_X8_rateBehind] at hq
  obtain ⟨hi, hq⟩ := hq
  refine j_aload_n C dX8_rateBehind_0 rfl ?_
  refine j_iconst C dX8_rateBehind_1 (0 : Int32) (by decide) ?_
  obtain ⟨hv, hq⟩ := hq
  refine j_callVfRW C g_X8_62 (c_X8_rateOf l D ca g M (0 : Int32) hv) 0 mW_0 hcl_X8 ⟨Nat.le_of_ble_eq_true rfl, Nat.le_of_ble_eq_true rfl⟩ ⟨Nat.le_of_ble_eq_true rfl, Nat.le_of_ble_eq_true rfl⟩ rfl rfl (Nat.le_of_ble_eq_true rfl) dX8_rateBehind_2 ?_
  refine j_aload_n C dX8_rateBehind_5 rfl ?_
  refine j_iconst C dX8_rateBehind_6 (1 : Int32) (by decide) ?_
  obtain ⟨hv, hq⟩ := hq
  refine j_callVfRW C g_X8_62 (c_X8_rateOf l D ca g M (1 : Int32) hv) 0 mW_0 hcl_X8 ⟨Nat.le_of_ble_eq_true rfl, Nat.le_of_ble_eq_true rfl⟩ ⟨Nat.le_of_ble_eq_true rfl, Nat.le_of_ble_eq_true rfl⟩ rfl rfl (Nat.le_of_ble_eq_true rfl) dX8_rateBehind_7 ?_
  refine j_aload_n C dX8_rateBehind_10 rfl ?_
  refine j_iload_n C dX8_rateBehind_11 rfl ?_
  refine j_iload_n C dX8_rateBehind_12 rfl ?_
  obtain ⟨hv, hq⟩ := hq
  refine j_callViRW C g_X8_65 (c_X8_late l D ca g M i days hv) 0 mW_0 hcl_X8 ⟨Nat.le_of_ble_eq_true rfl, Nat.le_of_ble_eq_true rfl⟩ ⟨Nat.le_of_ble_eq_true rfl, Nat.le_of_ble_eq_true rfl⟩ rfl rfl (Nat.le_of_ble_eq_true rfl) dX8_rateBehind_13 ?_
  refine j_i2f C dX8_rateBehind_16 ?_
  obtain ⟨hv, hq⟩ := hq
  refine j_fmul C dX8_rateBehind_17 hv ?_
  obtain ⟨hv, hq⟩ := hq
  refine j_fsub C dX8_rateBehind_18 hv ?_
  refine j_fstore_n C [(3, _), (0, _), (1, _), (2, _)] dX8_rateBehind_19 (by decide) rfl ?_
  refine j_fload_n C dX8_rateBehind_20 rfl ?_
  refine j_fconst0 C dX8_rateBehind_21 ?_
  refine j_fcmp C dX8_rateBehind_22 ?_
  refine j_if_le (tgt := 30) C dX8_rateBehind_23 (by decide) (fun (h23 : (Op.cmpValue (FP.fcmp (FP.fsub (r_X8_rateOf M (0 : Int32)) (FP.fmul (r_X8_rateOf M (1 : Int32)) (FP.i2f (r_X8_late M i days)))) (0x00000000 : UInt32)) CmpOp.l) ≤ (0 : Int32)) => ?_) (fun (h23 : ¬ ((Op.cmpValue (FP.fcmp (FP.fsub (r_X8_rateOf M (0 : Int32)) (FP.fmul (r_X8_rateOf M (1 : Int32)) (FP.i2f (r_X8_late M i days)))) (0x00000000 : UInt32)) CmpOp.l) ≤ (0 : Int32))) => ?_)
  · have hq := hq.1 h23
    refine j_fconst0 C dX8_rateBehind_30 ?_
    refine j_fstore C [(4, _), (3, _), (0, _), (1, _), (2, _)] dX8_rateBehind_31 (by decide) rfl ?_
    refine j_fload C dX8_rateBehind_33 rfl ?_
    refine j_fconst1 C dX8_rateBehind_35 ?_
    refine j_aload_n C dX8_rateBehind_36 rfl ?_
    refine j_aload_n C dX8_rateBehind_37 rfl ?_
    refine j_get C f_X8_7.F 0 dX8_rateBehind_38 mW_0 rfl ?_
    refine j_iload_n C dX8_rateBehind_41 rfl ?_
    refine j_iconst C dX8_rateBehind_42 (1 : Int32) (by decide) ?_
    refine j_callSiR C g_X8_59 (c_X8_of l D ca i (1 : Int32)) ⟨Nat.le_of_ble_eq_true rfl, Nat.le_of_ble_eq_true rfl⟩ ⟨Nat.le_of_ble_eq_true rfl, Nat.le_of_ble_eq_true rfl⟩ [] rfl rfl rfl rfl (Nat.le_of_ble_eq_true rfl) dX8_rateBehind_43 ?_
    refine j_iald C 1 dX8_rateBehind_46 mW_1 (vin_of hi (vin_c rfl)) ?_
    obtain ⟨hv, hq⟩ := hq
    refine j_callVfRW C g_X8_68 (c_X8_riskOf l D ca g M (M 0 (r_X8_of i (1 : Int32)).toNatClampNeg) hv) 0 mW_0 hcl_X8 ⟨Nat.le_of_ble_eq_true rfl, Nat.le_of_ble_eq_true rfl⟩ ⟨Nat.le_of_ble_eq_true rfl, Nat.le_of_ble_eq_true rfl⟩ rfl rfl (Nat.le_of_ble_eq_true rfl) dX8_rateBehind_47 ?_
    obtain ⟨hv, hq⟩ := hq
    refine j_fsub C dX8_rateBehind_50 hv ?_
    obtain ⟨hv, hq⟩ := hq
    refine j_fmul C dX8_rateBehind_51 hv ?_
    have e9 : r_X8_rateBehind M i days = (FP.fmul (0x00000000 : UInt32) (FP.fsub (0x3f800000 : UInt32) (r_X8_riskOf M (M 0 (r_X8_of i (1 : Int32)).toNatClampNeg)))) := by rw [r_X8_rateBehind, if_pos h23]
    exact j_fret E dX8_rateBehind_52 (by rw [e9]; exact ⟨rfl, rfl⟩)
  · have hq := hq.2 h23
    refine j_fload_n C dX8_rateBehind_26 rfl ?_
    refine j_goto (tgt := 31) C dX8_rateBehind_27 (by decide) ?_
    refine j_fstore C [(4, _), (3, _), (0, _), (1, _), (2, _)] dX8_rateBehind_31 (by decide) rfl ?_
    refine j_fload C dX8_rateBehind_33 rfl ?_
    refine j_fconst1 C dX8_rateBehind_35 ?_
    refine j_aload_n C dX8_rateBehind_36 rfl ?_
    refine j_aload_n C dX8_rateBehind_37 rfl ?_
    refine j_get C f_X8_7.F 0 dX8_rateBehind_38 mW_0 rfl ?_
    refine j_iload_n C dX8_rateBehind_41 rfl ?_
    refine j_iconst C dX8_rateBehind_42 (1 : Int32) (by decide) ?_
    refine j_callSiR C g_X8_59 (c_X8_of l D ca i (1 : Int32)) ⟨Nat.le_of_ble_eq_true rfl, Nat.le_of_ble_eq_true rfl⟩ ⟨Nat.le_of_ble_eq_true rfl, Nat.le_of_ble_eq_true rfl⟩ [] rfl rfl rfl rfl (Nat.le_of_ble_eq_true rfl) dX8_rateBehind_43 ?_
    refine j_iald C 1 dX8_rateBehind_46 mW_1 (vin_of hi (vin_c rfl)) ?_
    obtain ⟨hv, hq⟩ := hq
    refine j_callVfRW C g_X8_68 (c_X8_riskOf l D ca g M (M 0 (r_X8_of i (1 : Int32)).toNatClampNeg) hv) 0 mW_0 hcl_X8 ⟨Nat.le_of_ble_eq_true rfl, Nat.le_of_ble_eq_true rfl⟩ ⟨Nat.le_of_ble_eq_true rfl, Nat.le_of_ble_eq_true rfl⟩ rfl rfl (Nat.le_of_ble_eq_true rfl) dX8_rateBehind_47 ?_
    obtain ⟨hv, hq⟩ := hq
    refine j_fsub C dX8_rateBehind_50 hv ?_
    obtain ⟨hv, hq⟩ := hq
    refine j_fmul C dX8_rateBehind_51 hv ?_
    have e9 : r_X8_rateBehind M i days = (FP.fmul (FP.fsub (r_X8_rateOf M (0 : Int32)) (FP.fmul (r_X8_rateOf M (1 : Int32)) (FP.i2f (r_X8_late M i days)))) (FP.fsub (0x3f800000 : UInt32) (r_X8_riskOf M (M 0 (r_X8_of i (1 : Int32)).toNatClampNeg)))) := by rw [r_X8_rateBehind, if_neg h23]
    exact j_fret E dX8_rateBehind_52 (by rw [e9]; exact ⟨rfl, rfl⟩)


def r_X8_offerBehind (M : jB) (i : Int32) (days : Int32) : Int32 := (FP.f2i (FP.fmul (FP.i2f (M 0 (r_X8_of i (2 : Int32)).toNatClampNeg)) (r_X8_rateBehind M i days)))
def n_X8_offerBehind (M : jB) (i : Int32) (days : Int32) : Prop := ((vp_in i 20) ∧ ((n_X8_rateBehind M i days) ∧ (vf_n32 (FP.fmul (FP.i2f (M 0 (r_X8_of i (2 : Int32)).toNatClampNeg)) (r_X8_rateBehind M i days)) ∧ True)))
set_option maxRecDepth 100000 in
set_option maxHeartbeats 4000000 in
theorem c_X8_offerBehind (l : Launch) (D : va_G) (ca : Nat → ClassId) (g : Nat → Nat) (M : jB) (i : Int32) (days : Int32) (hq : n_X8_offerBehind M i days) : jM l D ca yX8_offerBehind cX8_offerBehind 3 (some .int) 3 68 0 0 [.ref (g 0), .int i, .int days] (mW ca g M) (jD (some (.int (r_X8_offerBehind M i days))) (mW ca g M)) := by
  refine jM_of [(0, .ref (g 0)), (1, .int i), (2, .int days)] (by decide) (Nat.le_of_ble_eq_true rfl) rfl (fun X C E => ?_)
  rw [n_X8_offerBehind] at hq
  obtain ⟨hi, hq⟩ := hq
  refine j_aload_n C dX8_offerBehind_0 rfl ?_
  refine j_get C f_X8_7.F 0 dX8_offerBehind_1 mW_0 rfl ?_
  refine j_iload_n C dX8_offerBehind_4 rfl ?_
  refine j_iconst C dX8_offerBehind_5 (2 : Int32) (by decide) ?_
  refine j_callSiR C g_X8_59 (c_X8_of l D ca i (2 : Int32)) ⟨Nat.le_of_ble_eq_true rfl, Nat.le_of_ble_eq_true rfl⟩ ⟨Nat.le_of_ble_eq_true rfl, Nat.le_of_ble_eq_true rfl⟩ [] rfl rfl rfl rfl (Nat.le_of_ble_eq_true rfl) dX8_offerBehind_6 ?_
  refine j_iald C 1 dX8_offerBehind_9 mW_1 (vin_of hi (vin_c rfl)) ?_
  refine j_i2f C dX8_offerBehind_10 ?_
  refine j_aload_n C dX8_offerBehind_11 rfl ?_
  refine j_iload_n C dX8_offerBehind_12 rfl ?_
  refine j_iload_n C dX8_offerBehind_13 rfl ?_
  obtain ⟨hv, hq⟩ := hq
  refine j_callVfRW C g_X8_71 (c_X8_rateBehind l D ca g M i days hv) 0 mW_0 hcl_X8 ⟨Nat.le_of_ble_eq_true rfl, Nat.le_of_ble_eq_true rfl⟩ ⟨Nat.le_of_ble_eq_true rfl, Nat.le_of_ble_eq_true rfl⟩ rfl rfl (Nat.le_of_ble_eq_true rfl) dX8_offerBehind_14 ?_
  obtain ⟨hv, hq⟩ := hq
  refine j_fmul C dX8_offerBehind_17 hv ?_
  refine j_f2i C dX8_offerBehind_18 ?_
  have e9 : r_X8_offerBehind M i days = (FP.f2i (FP.fmul (FP.i2f (M 0 (r_X8_of i (2 : Int32)).toNatClampNeg)) (r_X8_rateBehind M i days))) := by rw [r_X8_offerBehind]
  exact j_iret E dX8_offerBehind_19 (by rw [e9]; exact ⟨rfl, rfl⟩)


def r_X8_worthOf (M : jB) (i : Int32) : UInt32 := (FP.fsub (FP.fmul (FP.i2f ((M 0 (r_X8_of i (2 : Int32)).toNatClampNeg) - (r_X8_offerBehind M i (0 : Int32)))) (FP.fsub (0x3f800000 : UInt32) (r_X8_riskOf M (M 0 (r_X8_of i (1 : Int32)).toNatClampNeg)))) (FP.fmul (FP.i2f (r_X8_offerBehind M i (0 : Int32))) (r_X8_riskOf M (M 0 (r_X8_of i (1 : Int32)).toNatClampNeg))))
def n_X8_worthOf (M : jB) (i : Int32) : Prop := ((vp_in i 20) ∧ ((n_X8_riskOf M (M 0 (r_X8_of i (1 : Int32)).toNatClampNeg)) ∧ ((n_X8_offerBehind M i (0 : Int32)) ∧ (vf_n32 (FP.fsub (0x3f800000 : UInt32) (r_X8_riskOf M (M 0 (r_X8_of i (1 : Int32)).toNatClampNeg))) ∧ (vf_n32 (FP.fmul (FP.i2f ((M 0 (r_X8_of i (2 : Int32)).toNatClampNeg) - (r_X8_offerBehind M i (0 : Int32)))) (FP.fsub (0x3f800000 : UInt32) (r_X8_riskOf M (M 0 (r_X8_of i (1 : Int32)).toNatClampNeg)))) ∧ (vf_n32 (FP.fmul (FP.i2f (r_X8_offerBehind M i (0 : Int32))) (r_X8_riskOf M (M 0 (r_X8_of i (1 : Int32)).toNatClampNeg))) ∧ (vf_n32 (FP.fsub (FP.fmul (FP.i2f ((M 0 (r_X8_of i (2 : Int32)).toNatClampNeg) - (r_X8_offerBehind M i (0 : Int32)))) (FP.fsub (0x3f800000 : UInt32) (r_X8_riskOf M (M 0 (r_X8_of i (1 : Int32)).toNatClampNeg)))) (FP.fmul (FP.i2f (r_X8_offerBehind M i (0 : Int32))) (r_X8_riskOf M (M 0 (r_X8_of i (1 : Int32)).toNatClampNeg)))) ∧ True)))))))
set_option maxRecDepth 100000 in
set_option maxHeartbeats 4000000 in
theorem c_X8_worthOf (l : Launch) (D : va_G) (ca : Nat → ClassId) (g : Nat → Nat) (M : jB) (i : Int32) (hq : n_X8_worthOf M i) : jM l D ca yX8_worthOf cX8_worthOf 5 (Option.some FieldType.float) 4 90 0 0 [.ref (g 0), .int i] (mW ca g M) (jD (some (.float (r_X8_worthOf M i))) (mW ca g M)) := by
  refine jM_of [(0, .ref (g 0)), (1, .int i)] (by decide) (Nat.le_of_ble_eq_true rfl) rfl (fun X C E => ?_)
  rw [n_X8_worthOf] at hq
  obtain ⟨hi, hq⟩ := hq
  refine j_aload_n C dX8_worthOf_0 rfl ?_
  refine j_aload_n C dX8_worthOf_1 rfl ?_
  refine j_get C f_X8_7.F 0 dX8_worthOf_2 mW_0 rfl ?_
  refine j_iload_n C dX8_worthOf_5 rfl ?_
  refine j_iconst C dX8_worthOf_6 (1 : Int32) (by decide) ?_
  refine j_callSiR C g_X8_59 (c_X8_of l D ca i (1 : Int32)) ⟨Nat.le_of_ble_eq_true rfl, Nat.le_of_ble_eq_true rfl⟩ ⟨Nat.le_of_ble_eq_true rfl, Nat.le_of_ble_eq_true rfl⟩ [] rfl rfl rfl rfl (Nat.le_of_ble_eq_true rfl) dX8_worthOf_7 ?_
  refine j_iald C 1 dX8_worthOf_10 mW_1 (vin_of hi (vin_c rfl)) ?_
  obtain ⟨hv, hq⟩ := hq
  refine j_callVfRW C g_X8_68 (c_X8_riskOf l D ca g M (M 0 (r_X8_of i (1 : Int32)).toNatClampNeg) hv) 0 mW_0 hcl_X8 ⟨Nat.le_of_ble_eq_true rfl, Nat.le_of_ble_eq_true rfl⟩ ⟨Nat.le_of_ble_eq_true rfl, Nat.le_of_ble_eq_true rfl⟩ rfl rfl (Nat.le_of_ble_eq_true rfl) dX8_worthOf_11 ?_
  refine j_fstore_n C [(2, _), (0, _), (1, _)] dX8_worthOf_14 (by decide) rfl ?_
  refine j_aload_n C dX8_worthOf_15 rfl ?_
  refine j_iload_n C dX8_worthOf_16 rfl ?_
  refine j_iconst C dX8_worthOf_17 (0 : Int32) (by decide) ?_
  obtain ⟨hv, hq⟩ := hq
  refine j_callViRW C g_X8_75 (c_X8_offerBehind l D ca g M i (0 : Int32) hv) 0 mW_0 hcl_X8 ⟨Nat.le_of_ble_eq_true rfl, Nat.le_of_ble_eq_true rfl⟩ ⟨Nat.le_of_ble_eq_true rfl, Nat.le_of_ble_eq_true rfl⟩ rfl rfl (Nat.le_of_ble_eq_true rfl) dX8_worthOf_18 ?_
  refine j_istore_n C [(3, _), (2, _), (0, _), (1, _)] dX8_worthOf_21 (by decide) rfl ?_
  refine j_aload_n C dX8_worthOf_22 rfl ?_
  refine j_get C f_X8_7.F 0 dX8_worthOf_23 mW_0 rfl ?_
  refine j_iload_n C dX8_worthOf_26 rfl ?_
  refine j_iconst C dX8_worthOf_27 (2 : Int32) (by decide) ?_
  refine j_callSiR C g_X8_59 (c_X8_of l D ca i (2 : Int32)) ⟨Nat.le_of_ble_eq_true rfl, Nat.le_of_ble_eq_true rfl⟩ ⟨Nat.le_of_ble_eq_true rfl, Nat.le_of_ble_eq_true rfl⟩ [] rfl rfl rfl rfl (Nat.le_of_ble_eq_true rfl) dX8_worthOf_28 ?_
  refine j_iald C 1 dX8_worthOf_31 mW_1 (vin_of hi (vin_c rfl)) ?_
  refine j_iload_n C dX8_worthOf_32 rfl ?_
  refine j_isub C dX8_worthOf_33 ?_
  refine j_i2f C dX8_worthOf_34 ?_
  refine j_fconst1 C dX8_worthOf_35 ?_
  refine j_fload_n C dX8_worthOf_36 rfl ?_
  obtain ⟨hv, hq⟩ := hq
  refine j_fsub C dX8_worthOf_37 hv ?_
  obtain ⟨hv, hq⟩ := hq
  refine j_fmul C dX8_worthOf_38 hv ?_
  refine j_fstore C [(4, _), (3, _), (2, _), (0, _), (1, _)] dX8_worthOf_39 (by decide) rfl ?_
  refine j_fload C dX8_worthOf_41 rfl ?_
  refine j_iload_n C dX8_worthOf_43 rfl ?_
  refine j_i2f C dX8_worthOf_44 ?_
  refine j_fload_n C dX8_worthOf_45 rfl ?_
  obtain ⟨hv, hq⟩ := hq
  refine j_fmul C dX8_worthOf_46 hv ?_
  obtain ⟨hv, hq⟩ := hq
  refine j_fsub C dX8_worthOf_47 hv ?_
  have e9 : r_X8_worthOf M i = (FP.fsub (FP.fmul (FP.i2f ((M 0 (r_X8_of i (2 : Int32)).toNatClampNeg) - (r_X8_offerBehind M i (0 : Int32)))) (FP.fsub (0x3f800000 : UInt32) (r_X8_riskOf M (M 0 (r_X8_of i (1 : Int32)).toNatClampNeg)))) (FP.fmul (FP.i2f (r_X8_offerBehind M i (0 : Int32))) (r_X8_riskOf M (M 0 (r_X8_of i (1 : Int32)).toNatClampNeg)))) := by rw [r_X8_worthOf]
  exact j_fret E dX8_worthOf_48 (by rw [e9]; exact ⟨rfl, rfl⟩)
theorem i_pos' {N i : Int32} (h : ¬ N ≤ i) (h0 : 0 ≤ i) : 0 ≤ i + 1 := i_pos (Int32.not_le.mp h) h0
theorem vin_b {i N : Int32} {n : Nat} (K : Int32) (hK : K.toInt = n) (h0 : 0 ≤ i) (h1 : ¬ N ≤ i) (h2 : N ≤ K) : vp_in i n := vin_lt K hK h0 (Int32.lt_of_lt_of_le (Int32.not_le.mp h1) h2)
theorem isM {M : jB} {i : Int32} (h : ¬ r_X8_isMember M i = 0) (hM : M 0 8 ≤ 8) (h0 : 0 ≤ M 0 8) : vp_in i 8 := by
  unfold r_X8_isMember r_X8_in at h
  by_cases h1 : i < 0
  · rw [if_pos h1] at h; exact absurd rfl h
  · rw [if_neg h1] at h
    by_cases h2 : M 0 (8 : Int32).toNatClampNeg - 1 < i
    · rw [if_pos h2] at h; exact absurd rfl h
    · have a1 : i ≤ M 0 8 - 1 := Int32.not_lt.mp h2
      refine vp_in_iff.mpr ?_
      have b1 := Int32.le_iff_toInt_le.mp (Int32.not_lt.mp h1)
      have b2 := Int32.le_iff_toInt_le.mp a1
      have b3 := Int32.le_iff_toInt_le.mp hM
      have b4 := Int32.le_iff_toInt_le.mp h0
      have e1 : (8 : Int32).toInt = 8 := rfl
      have e0 : (0 : Int32).toInt = 0 := rfl
      have e2 : (M 0 8 - 1).toInt = (M 0 8).toInt - 1 := by
        rw [Int32.toInt_sub, show (1 : Int32).toInt = 1 from rfl, Int.bmod_eq_of_le] <;> omega
      omega
theorem isI {M : jB} {i : Int32} (h : ¬ r_X8_isInvoice M i = 0) (hM : M 0 9 ≤ 20) (h0 : 0 ≤ M 0 9) : vp_in i 20 := by
  unfold r_X8_isInvoice r_X8_in at h
  by_cases h1 : i < 0
  · rw [if_pos h1] at h; exact absurd rfl h
  · rw [if_neg h1] at h
    by_cases h2 : M 0 (9 : Int32).toNatClampNeg - 1 < i
    · rw [if_pos h2] at h; exact absurd rfl h
    · have a1 : i ≤ M 0 9 - 1 := Int32.not_lt.mp h2
      refine vp_in_iff.mpr ?_
      have b1 := Int32.le_iff_toInt_le.mp (Int32.not_lt.mp h1)
      have b2 := Int32.le_iff_toInt_le.mp a1
      have b3 := Int32.le_iff_toInt_le.mp hM
      have b4 := Int32.le_iff_toInt_le.mp h0
      have e1 : (20 : Int32).toInt = 20 := rfl
      have e0 : (0 : Int32).toInt = 0 := rfl
      have e2 : (M 0 9 - 1).toInt = (M 0 9).toInt - 1 := by
        rw [Int32.toInt_sub, show (1 : Int32).toInt = 1 from rfl, Int.bmod_eq_of_le] <;> omega
      omega
theorem isC {i : Int32} (h : ¬ r_X8_isClient i = 0) : vp_in i 6 := by
  unfold r_X8_isClient r_X8_in at h
  by_cases h1 : i < 0
  · rw [if_pos h1] at h; exact absurd rfl h
  · rw [if_neg h1] at h
    by_cases h2 : (5 : Int32) < i
    · rw [if_pos h2] at h; exact absurd rfl h
    · refine vp_in_iff.mpr ?_
      have b1 := Int32.le_iff_toInt_le.mp (Int32.not_lt.mp h1)
      have b2 := Int32.le_iff_toInt_le.mp (Int32.not_lt.mp h2)
      have e1 : (5 : Int32).toInt = 5 := rfl
      have e0 : (0 : Int32).toInt = 0 := rfl
      omega


def L_X8_allDues_4 (M : jB) : Nat → Int32 → Int32 → Int32
  | 0, _, _ => 0
  | n4 + 1, x4_1, x4_2 => (if (M 0 (8 : Int32).toNatClampNeg) ≤ x4_2 then x4_1 else L_X8_allDues_4 M n4 (x4_1 + (M 0 (r_X8_ofMember x4_2 (1 : Int32)).toNatClampNeg)) (x4_2 + (1 : Int32)))
def r_X8_allDues (M : jB) : Int32 := L_X8_allDues_4 M (((M 0 8).toInt - (0 : Int32).toInt).toNat + 1) (0 : Int32) (0 : Int32)
def n_X8_allDues (M : jB) : Prop := ((M 0 8 ≤ 8) ∧ True)
set_option maxRecDepth 100000 in
set_option maxHeartbeats 4000000 in
theorem c_X8_allDues (l : Launch) (D : va_G) (ca : Nat → ClassId) (g : Nat → Nat) (M : jB) (hq : n_X8_allDues M) : jM l D ca yX8_allDues cX8_allDues 3 (some .int) 1 21 0 0 [.ref (g 0)] (mW ca g M) (jD (some (.int (r_X8_allDues M))) (mW ca g M)) := by
  refine jM_of [(0, .ref (g 0))] (by decide) (Nat.le_of_ble_eq_true rfl) rfl (fun X C E => ?_)
  rw [n_X8_allDues] at hq
  obtain ⟨hM, hq⟩ := hq
  refine j_iconst C dX8_allDues_0 (0 : Int32) (by decide) ?_
  refine j_istore_n C [(1, _), (0, _)] dX8_allDues_1 (by decide) rfl ?_
  refine j_iconst C dX8_allDues_2 (0 : Int32) (by decide) ?_
  refine j_istore_n C [(2, _), (1, _), (0, _)] dX8_allDues_3 (by decide) rfl ?_
  have K4 : ∀ (n4 : Nat) (x4_1 : Int32) (x4_2 : Int32), ((M 0 8).toInt - x4_2.toInt).toNat < n4 → ((0 : Int32) ≤ x4_2) → r_X8_allDues M = L_X8_allDues_4 M n4 x4_1 x4_2 → J l { frames := 1, cells := 0, slots := 0, locals := 21 } D 3 X 0 0 (mW ca g M) [(0, .ref (g 0)), (1, .int x4_1), (2, .int x4_2)] [] 4 := by
    intro n4
    induction n4 with
    | zero =>
      intro x4_1 x4_2 hm4
      exact absurd hm4 (Nat.not_lt_zero _)
    | succ n4 ih4 =>
      intro x4_1 x4_2 hm4 hp hr4
      refine j_iload_n C dX8_allDues_4 rfl ?_
      refine j_aload_n C dX8_allDues_5 rfl ?_
      refine j_get C f_X8_7.F 0 dX8_allDues_6 mW_0 rfl ?_
      refine j_bipush C dX8_allDues_9 (8 : Int32) (by decide) ?_
      refine j_iald C 1 dX8_allDues_11 mW_1 (vin_c rfl) ?_
      refine j_icmp_ge (tgt := 34) C dX8_allDues_12 (by decide) (fun (h12 : (M 0 (8 : Int32).toNatClampNeg) ≤ x4_2) => ?_) (fun (h12 : ¬ ((M 0 (8 : Int32).toNatClampNeg) ≤ x4_2)) => ?_)
      · refine j_iload_n C dX8_allDues_34 rfl ?_
        have e9 : r_X8_allDues M = x4_1 := by rw [hr4, L_X8_allDues_4, if_pos h12]
        exact j_iret E dX8_allDues_35 (by rw [e9]; exact ⟨rfl, rfl⟩)
      · refine j_iload_n C dX8_allDues_15 rfl ?_
        refine j_aload_n C dX8_allDues_16 rfl ?_
        refine j_get C f_X8_7.F 0 dX8_allDues_17 mW_0 rfl ?_
        refine j_iload_n C dX8_allDues_20 rfl ?_
        refine j_iconst C dX8_allDues_21 (1 : Int32) (by decide) ?_
        refine j_callSiR C g_X8_84 (c_X8_ofMember l D ca x4_2 (1 : Int32)) ⟨Nat.le_of_ble_eq_true rfl, Nat.le_of_ble_eq_true rfl⟩ ⟨Nat.le_of_ble_eq_true rfl, Nat.le_of_ble_eq_true rfl⟩ [] rfl rfl rfl rfl (Nat.le_of_ble_eq_true rfl) dX8_allDues_22 ?_
        refine j_iald C 1 dX8_allDues_25 mW_1 (vin_om (vin_b 8 rfl hp h12 hM) (vin_c rfl)) ?_
        refine j_iadd C dX8_allDues_26 ?_
        refine j_istore_n C [(1, _), (0, _), (2, _)] dX8_allDues_27 (by decide) rfl ?_
        refine j_iinc C [(2, _), (1, _), (0, _)] (v := (x4_2 + (1 : Int32))) dX8_allDues_28 rfl (iinc_1 _) (by decide) rfl ?_
        refine j_goto (tgt := 4) C dX8_allDues_31 (by decide) ?_
        refine j_lv [(0, .ref (g 0)), (1, .int (x4_1 + (M 0 (r_X8_ofMember x4_2 (1 : Int32)).toNatClampNeg))), (2, .int (x4_2 + (1 : Int32)))] rfl ?_
        exact ih4 (x4_1 + (M 0 (r_X8_ofMember x4_2 (1 : Int32)).toNatClampNeg)) (x4_2 + (1 : Int32)) (jms h12 hm4) (i_pos' h12 hp) (by rw [hr4, L_X8_allDues_4, if_neg h12])
  refine j_lv [(0, .ref (g 0)), (1, .int (0 : Int32)), (2, .int (0 : Int32))] rfl ?_
  exact K4 (((M 0 8).toInt - (0 : Int32).toInt).toNat + 1) (0 : Int32) (0 : Int32) (Nat.lt_succ_self _) (by decide) (by rw [r_X8_allDues])


def r_X8_reserve (M : jB) : Int32 := (((((r_X8_allDues M)).toInt64 * ((M 0 (6 : Int32).toNatClampNeg)).toInt64) / (100 : Int64))).toInt32
def n_X8_reserve (M : jB) : Prop := ((n_X8_allDues M) ∧ True)
set_option maxRecDepth 100000 in
set_option maxHeartbeats 4000000 in
theorem c_X8_reserve (l : Launch) (D : va_G) (ca : Nat → ClassId) (g : Nat → Nat) (M : jB) (hq : n_X8_reserve M) : jM l D ca yX8_reserve cX8_reserve 1 (some .int) 2 43 0 0 [.ref (g 0)] (mW ca g M) (jD (some (.int (r_X8_reserve M))) (mW ca g M)) := by
  refine jM_of [(0, .ref (g 0))] (by decide) (Nat.le_of_ble_eq_true rfl) rfl (fun X C E => ?_)
  rw [n_X8_reserve] at hq
  refine j_aload_n C dX8_reserve_0 rfl ?_
  obtain ⟨hv, hq⟩ := hq
  refine j_callViRW C g_X8_96 (c_X8_allDues l D ca g M hv) 0 mW_0 hcl_X8 ⟨Nat.le_of_ble_eq_true rfl, Nat.le_of_ble_eq_true rfl⟩ ⟨Nat.le_of_ble_eq_true rfl, Nat.le_of_ble_eq_true rfl⟩ rfl rfl (Nat.le_of_ble_eq_true rfl) dX8_reserve_1 ?_
  refine j_i2l C dX8_reserve_4 ?_
  refine j_aload_n C dX8_reserve_5 rfl ?_
  refine j_get C f_X8_7.F 0 dX8_reserve_6 mW_0 rfl ?_
  refine j_bipush C dX8_reserve_9 (6 : Int32) (by decide) ?_
  refine j_iald C 1 dX8_reserve_11 mW_1 (vin_c rfl) ?_
  refine j_i2l C dX8_reserve_12 ?_
  refine j_lmul C dX8_reserve_13 ?_
  refine j_ldc2 C q_765 dX8_reserve_14 ?_
  refine j_ldiv C dX8_reserve_17 (by decide) ?_
  refine j_l2i C dX8_reserve_18 ?_
  have e9 : r_X8_reserve M = (((((r_X8_allDues M)).toInt64 * ((M 0 (6 : Int32).toNatClampNeg)).toInt64) / (100 : Int64))).toInt32 := by rw [r_X8_reserve]
  exact j_iret E dX8_reserve_19 (by rw [e9]; exact ⟨rfl, rfl⟩)


def r_X8_mayAhead (M : jB) (i : Int32) : Int32 := (if (M 0 (r_X8_of i (4 : Int32)).toNatClampNeg) = (0 : Int32) then (if (M 0 (r_X8_of i (5 : Int32)).toNatClampNeg) = (0 : Int32) then (if ((M 0 (0 : Int32).toNatClampNeg) - (M 0 (r_X8_of i (3 : Int32)).toNatClampNeg)) < (M 0 (5 : Int32).toNatClampNeg) then (0 : Int32) else (if (r_X8_offerBehind M i (0 : Int32)) ≤ (0 : Int32) then (0 : Int32) else (if ((M 0 (1 : Int32).toNatClampNeg) - (r_X8_offerBehind M i (0 : Int32))) < (r_X8_reserve M) then (0 : Int32) else (1 : Int32)))) else (0 : Int32)) else (0 : Int32))
def n_X8_mayAhead (M : jB) (i : Int32) : Prop := ((vp_in i 20) ∧ ((n_X8_offerBehind M i (0 : Int32)) ∧ (((M 0 (r_X8_of i (4 : Int32)).toNatClampNeg) = (0 : Int32) → (((M 0 (r_X8_of i (5 : Int32)).toNatClampNeg) = (0 : Int32) → ((((M 0 (0 : Int32).toNatClampNeg) - (M 0 (r_X8_of i (3 : Int32)).toNatClampNeg)) < (M 0 (5 : Int32).toNatClampNeg) → True) ∧ (¬ (((M 0 (0 : Int32).toNatClampNeg) - (M 0 (r_X8_of i (3 : Int32)).toNatClampNeg)) < (M 0 (5 : Int32).toNatClampNeg)) → (((r_X8_offerBehind M i (0 : Int32)) ≤ (0 : Int32) → True) ∧ (¬ ((r_X8_offerBehind M i (0 : Int32)) ≤ (0 : Int32)) → ((n_X8_reserve M) ∧ ((((M 0 (1 : Int32).toNatClampNeg) - (r_X8_offerBehind M i (0 : Int32))) < (r_X8_reserve M) → True) ∧ (¬ (((M 0 (1 : Int32).toNatClampNeg) - (r_X8_offerBehind M i (0 : Int32))) < (r_X8_reserve M)) → True)))))))) ∧ (¬ ((M 0 (r_X8_of i (5 : Int32)).toNatClampNeg) = (0 : Int32)) → True))) ∧ (¬ ((M 0 (r_X8_of i (4 : Int32)).toNatClampNeg) = (0 : Int32)) → True))))
set_option maxRecDepth 100000 in
set_option maxHeartbeats 4000000 in
theorem c_X8_mayAhead (l : Launch) (D : va_G) (ca : Nat → ClassId) (g : Nat → Nat) (M : jB) (i : Int32) (hq : n_X8_mayAhead M i) : jM l D ca yX8_mayAhead cX8_mayAhead 4 (Option.some FieldType.boolean) 4 90 0 0 [.ref (g 0), .int i] (mW ca g M) (jD (some (.int (r_X8_mayAhead M i))) (mW ca g M)) := by
  refine jM_of [(0, .ref (g 0)), (1, .int i)] (by decide) (Nat.le_of_ble_eq_true rfl) rfl (fun X C E => ?_)
  rw [n_X8_mayAhead] at hq
  obtain ⟨hi, hq⟩ := hq
  refine j_aload_n C dX8_mayAhead_0 rfl ?_
  refine j_iload_n C dX8_mayAhead_1 rfl ?_
  refine j_iconst C dX8_mayAhead_2 (0 : Int32) (by decide) ?_
  obtain ⟨hv, hq⟩ := hq
  refine j_callViRW C g_X8_75 (c_X8_offerBehind l D ca g M i (0 : Int32) hv) 0 mW_0 hcl_X8 ⟨Nat.le_of_ble_eq_true rfl, Nat.le_of_ble_eq_true rfl⟩ ⟨Nat.le_of_ble_eq_true rfl, Nat.le_of_ble_eq_true rfl⟩ rfl rfl (Nat.le_of_ble_eq_true rfl) dX8_mayAhead_3 ?_
  refine j_istore_n C [(2, _), (0, _), (1, _)] dX8_mayAhead_6 (by decide) rfl ?_
  refine j_aload_n C dX8_mayAhead_7 rfl ?_
  refine j_get C f_X8_7.F 0 dX8_mayAhead_8 mW_0 rfl ?_
  refine j_iload_n C dX8_mayAhead_11 rfl ?_
  refine j_iconst C dX8_mayAhead_12 (4 : Int32) (by decide) ?_
  refine j_callSiR C g_X8_59 (c_X8_of l D ca i (4 : Int32)) ⟨Nat.le_of_ble_eq_true rfl, Nat.le_of_ble_eq_true rfl⟩ ⟨Nat.le_of_ble_eq_true rfl, Nat.le_of_ble_eq_true rfl⟩ [] rfl rfl rfl rfl (Nat.le_of_ble_eq_true rfl) dX8_mayAhead_13 ?_
  refine j_iald C 1 dX8_mayAhead_16 mW_1 (vin_of hi (vin_c rfl)) ?_
  refine j_if_ne (tgt := 63) C dX8_mayAhead_17 (by decide) (fun (h17 : ¬ ((M 0 (r_X8_of i (4 : Int32)).toNatClampNeg) = (0 : Int32))) => ?_) (fun (h17 : (M 0 (r_X8_of i (4 : Int32)).toNatClampNeg) = (0 : Int32)) => ?_)
  · have hq := hq.2 h17
    refine j_iconst C dX8_mayAhead_63 (0 : Int32) (by decide) ?_
    refine j_istore_n C [(3, _), (2, _), (0, _), (1, _)] dX8_mayAhead_64 (by decide) rfl ?_
    refine j_iload_n C dX8_mayAhead_65 rfl ?_
    refine j_if_eq (tgt := 92) C dX8_mayAhead_66 (by decide) (fun _ => ?_) (fun h => absurd (by decide) h)
    refine j_iconst C dX8_mayAhead_92 (0 : Int32) (by decide) ?_
    have e9 : r_X8_mayAhead M i = (0 : Int32) := by rw [r_X8_mayAhead, if_neg h17]
    exact j_zret E rfl dX8_mayAhead_93 (by rw [e9]; exact ⟨rfl, rfl⟩)
  · have hq := hq.1 h17
    refine j_aload_n C dX8_mayAhead_20 rfl ?_
    refine j_get C f_X8_7.F 0 dX8_mayAhead_21 mW_0 rfl ?_
    refine j_iload_n C dX8_mayAhead_24 rfl ?_
    refine j_iconst C dX8_mayAhead_25 (5 : Int32) (by decide) ?_
    refine j_callSiR C g_X8_59 (c_X8_of l D ca i (5 : Int32)) ⟨Nat.le_of_ble_eq_true rfl, Nat.le_of_ble_eq_true rfl⟩ ⟨Nat.le_of_ble_eq_true rfl, Nat.le_of_ble_eq_true rfl⟩ [] rfl rfl rfl rfl (Nat.le_of_ble_eq_true rfl) dX8_mayAhead_26 ?_
    refine j_iald C 1 dX8_mayAhead_29 mW_1 (vin_of hi (vin_c rfl)) ?_
    refine j_if_ne (tgt := 63) C dX8_mayAhead_30 (by decide) (fun (h30 : ¬ ((M 0 (r_X8_of i (5 : Int32)).toNatClampNeg) = (0 : Int32))) => ?_) (fun (h30 : (M 0 (r_X8_of i (5 : Int32)).toNatClampNeg) = (0 : Int32)) => ?_)
    · have hq := hq.2 h30
      refine j_iconst C dX8_mayAhead_63 (0 : Int32) (by decide) ?_
      refine j_istore_n C [(3, _), (2, _), (0, _), (1, _)] dX8_mayAhead_64 (by decide) rfl ?_
      refine j_iload_n C dX8_mayAhead_65 rfl ?_
      refine j_if_eq (tgt := 92) C dX8_mayAhead_66 (by decide) (fun _ => ?_) (fun h => absurd (by decide) h)
      refine j_iconst C dX8_mayAhead_92 (0 : Int32) (by decide) ?_
      have e9 : r_X8_mayAhead M i = (0 : Int32) := by rw [r_X8_mayAhead, if_pos h17, if_neg h30]
      exact j_zret E rfl dX8_mayAhead_93 (by rw [e9]; exact ⟨rfl, rfl⟩)
    · have hq := hq.1 h30
      refine j_aload_n C dX8_mayAhead_33 rfl ?_
      refine j_get C f_X8_7.F 0 dX8_mayAhead_34 mW_0 rfl ?_
      refine j_iconst C dX8_mayAhead_37 (0 : Int32) (by decide) ?_
      refine j_iald C 1 dX8_mayAhead_38 mW_1 (vin_c rfl) ?_
      refine j_aload_n C dX8_mayAhead_39 rfl ?_
      refine j_get C f_X8_7.F 0 dX8_mayAhead_40 mW_0 rfl ?_
      refine j_iload_n C dX8_mayAhead_43 rfl ?_
      refine j_iconst C dX8_mayAhead_44 (3 : Int32) (by decide) ?_
      refine j_callSiR C g_X8_59 (c_X8_of l D ca i (3 : Int32)) ⟨Nat.le_of_ble_eq_true rfl, Nat.le_of_ble_eq_true rfl⟩ ⟨Nat.le_of_ble_eq_true rfl, Nat.le_of_ble_eq_true rfl⟩ [] rfl rfl rfl rfl (Nat.le_of_ble_eq_true rfl) dX8_mayAhead_45 ?_
      refine j_iald C 1 dX8_mayAhead_48 mW_1 (vin_of hi (vin_c rfl)) ?_
      refine j_isub C dX8_mayAhead_49 ?_
      refine j_aload_n C dX8_mayAhead_50 rfl ?_
      refine j_get C f_X8_7.F 0 dX8_mayAhead_51 mW_0 rfl ?_
      refine j_iconst C dX8_mayAhead_54 (5 : Int32) (by decide) ?_
      refine j_iald C 1 dX8_mayAhead_55 mW_1 (vin_c rfl) ?_
      refine j_icmp_lt (tgt := 63) C dX8_mayAhead_56 (by decide) (fun (h56 : ((M 0 (0 : Int32).toNatClampNeg) - (M 0 (r_X8_of i (3 : Int32)).toNatClampNeg)) < (M 0 (5 : Int32).toNatClampNeg)) => ?_) (fun (h56 : ¬ (((M 0 (0 : Int32).toNatClampNeg) - (M 0 (r_X8_of i (3 : Int32)).toNatClampNeg)) < (M 0 (5 : Int32).toNatClampNeg))) => ?_)
      · have hq := hq.1 h56
        refine j_iconst C dX8_mayAhead_63 (0 : Int32) (by decide) ?_
        refine j_istore_n C [(3, _), (2, _), (0, _), (1, _)] dX8_mayAhead_64 (by decide) rfl ?_
        refine j_iload_n C dX8_mayAhead_65 rfl ?_
        refine j_if_eq (tgt := 92) C dX8_mayAhead_66 (by decide) (fun _ => ?_) (fun h => absurd (by decide) h)
        refine j_iconst C dX8_mayAhead_92 (0 : Int32) (by decide) ?_
        have e9 : r_X8_mayAhead M i = (0 : Int32) := by rw [r_X8_mayAhead, if_pos h17, if_pos h30, if_pos h56]
        exact j_zret E rfl dX8_mayAhead_93 (by rw [e9]; exact ⟨rfl, rfl⟩)
      · have hq := hq.2 h56
        refine j_iconst C dX8_mayAhead_59 (1 : Int32) (by decide) ?_
        refine j_goto (tgt := 64) C dX8_mayAhead_60 (by decide) ?_
        refine j_istore_n C [(3, _), (2, _), (0, _), (1, _)] dX8_mayAhead_64 (by decide) rfl ?_
        refine j_iload_n C dX8_mayAhead_65 rfl ?_
        refine j_if_eq (tgt := 92) C dX8_mayAhead_66 (by decide) (fun h => absurd h (by decide)) (fun _ => ?_)
        refine j_iload_n C dX8_mayAhead_69 rfl ?_
        refine j_if_le (tgt := 92) C dX8_mayAhead_70 (by decide) (fun (h70 : (r_X8_offerBehind M i (0 : Int32)) ≤ (0 : Int32)) => ?_) (fun (h70 : ¬ ((r_X8_offerBehind M i (0 : Int32)) ≤ (0 : Int32))) => ?_)
        · have hq := hq.1 h70
          refine j_iconst C dX8_mayAhead_92 (0 : Int32) (by decide) ?_
          have e9 : r_X8_mayAhead M i = (0 : Int32) := by rw [r_X8_mayAhead, if_pos h17, if_pos h30, if_neg h56, if_pos h70]
          exact j_zret E rfl dX8_mayAhead_93 (by rw [e9]; exact ⟨rfl, rfl⟩)
        · have hq := hq.2 h70
          refine j_aload_n C dX8_mayAhead_73 rfl ?_
          refine j_get C f_X8_7.F 0 dX8_mayAhead_74 mW_0 rfl ?_
          refine j_iconst C dX8_mayAhead_77 (1 : Int32) (by decide) ?_
          refine j_iald C 1 dX8_mayAhead_78 mW_1 (vin_c rfl) ?_
          refine j_iload_n C dX8_mayAhead_79 rfl ?_
          refine j_isub C dX8_mayAhead_80 ?_
          refine j_aload_n C dX8_mayAhead_81 rfl ?_
          obtain ⟨hv, hq⟩ := hq
          refine j_callViRW C g_X8_102 (c_X8_reserve l D ca g M hv) 0 mW_0 hcl_X8 ⟨Nat.le_of_ble_eq_true rfl, Nat.le_of_ble_eq_true rfl⟩ ⟨Nat.le_of_ble_eq_true rfl, Nat.le_of_ble_eq_true rfl⟩ rfl rfl (Nat.le_of_ble_eq_true rfl) dX8_mayAhead_82 ?_
          refine j_icmp_lt (tgt := 92) C dX8_mayAhead_85 (by decide) (fun (h85 : ((M 0 (1 : Int32).toNatClampNeg) - (r_X8_offerBehind M i (0 : Int32))) < (r_X8_reserve M)) => ?_) (fun (h85 : ¬ (((M 0 (1 : Int32).toNatClampNeg) - (r_X8_offerBehind M i (0 : Int32))) < (r_X8_reserve M))) => ?_)
          · have hq := hq.1 h85
            refine j_iconst C dX8_mayAhead_92 (0 : Int32) (by decide) ?_
            have e9 : r_X8_mayAhead M i = (0 : Int32) := by rw [r_X8_mayAhead, if_pos h17, if_pos h30, if_neg h56, if_neg h70, if_pos h85]
            exact j_zret E rfl dX8_mayAhead_93 (by rw [e9]; exact ⟨rfl, rfl⟩)
          · have hq := hq.2 h85
            refine j_iconst C dX8_mayAhead_88 (1 : Int32) (by decide) ?_
            refine j_goto (tgt := 93) C dX8_mayAhead_89 (by decide) ?_
            have e9 : r_X8_mayAhead M i = (1 : Int32) := by rw [r_X8_mayAhead, if_pos h17, if_pos h30, if_neg h56, if_neg h70, if_neg h85]
            exact j_zret E rfl dX8_mayAhead_93 (by rw [e9]; exact ⟨rfl, rfl⟩)


def r_X8_payFault (M : jB) (i : Int32) (c : Int32) : Int32 := (if (r_X8_isInvoice M i) = (0 : Int32) then (-1 : Int32) else (if (M 0 (r_X8_of i (4 : Int32)).toNatClampNeg) ≤ (1 : Int32) then (if (r_X8_in c (1 : Int32) ((M 0 (r_X8_of i (2 : Int32)).toNatClampNeg) - (M 0 (r_X8_of i (5 : Int32)).toNatClampNeg))) = (0 : Int32) then (-2 : Int32) else (0 : Int32)) else (-4 : Int32)))
def n_X8_payFault (M : jB) (i : Int32) (c : Int32) : Prop := ((M 0 9 ≤ 20) ∧ (((0 : Int32) ≤ M 0 9) ∧ True))
set_option maxRecDepth 100000 in
set_option maxHeartbeats 4000000 in
theorem c_X8_payFault (l : Launch) (D : va_G) (ca : Nat → ClassId) (g : Nat → Nat) (M : jB) (i : Int32) (c : Int32) (hq : n_X8_payFault M i c) : jM l D ca yX8_payFault cX8_payFault 3 (some .int) 2 43 0 0 [.ref (g 0), .int i, .int c] (mW ca g M) (jD (some (.int (r_X8_payFault M i c))) (mW ca g M)) := by
  refine jM_of [(0, .ref (g 0)), (1, .int i), (2, .int c)] (by decide) (Nat.le_of_ble_eq_true rfl) rfl (fun X C E => ?_)
  rw [n_X8_payFault] at hq
  obtain ⟨hM, hq⟩ := hq
  obtain ⟨h00, hq⟩ := hq
  refine j_aload_n C dX8_payFault_0 rfl ?_
  refine j_iload_n C dX8_payFault_1 rfl ?_
  refine j_callViRW C g_X8_105 (c_X8_isInvoice l D ca g M i) 0 mW_0 hcl_X8 ⟨Nat.le_of_ble_eq_true rfl, Nat.le_of_ble_eq_true rfl⟩ ⟨Nat.le_of_ble_eq_true rfl, Nat.le_of_ble_eq_true rfl⟩ rfl rfl (Nat.le_of_ble_eq_true rfl) dX8_payFault_2 ?_
  refine j_if_ne (tgt := 10) C dX8_payFault_5 (by decide) (fun (h5 : ¬ ((r_X8_isInvoice M i) = (0 : Int32))) => ?_) (fun (h5 : (r_X8_isInvoice M i) = (0 : Int32)) => ?_)
  · refine j_aload_n C dX8_payFault_10 rfl ?_
    refine j_get C f_X8_7.F 0 dX8_payFault_11 mW_0 rfl ?_
    refine j_iload_n C dX8_payFault_14 rfl ?_
    refine j_iconst C dX8_payFault_15 (4 : Int32) (by decide) ?_
    refine j_callSiR C g_X8_59 (c_X8_of l D ca i (4 : Int32)) ⟨Nat.le_of_ble_eq_true rfl, Nat.le_of_ble_eq_true rfl⟩ ⟨Nat.le_of_ble_eq_true rfl, Nat.le_of_ble_eq_true rfl⟩ [] rfl rfl rfl rfl (Nat.le_of_ble_eq_true rfl) dX8_payFault_16 ?_
    refine j_iald C 1 dX8_payFault_19 mW_1 (vin_of (isI h5 hM h00) (vin_c rfl)) ?_
    refine j_iconst C dX8_payFault_20 (1 : Int32) (by decide) ?_
    refine j_icmp_le (tgt := 27) C dX8_payFault_21 (by decide) (fun (h21 : (M 0 (r_X8_of i (4 : Int32)).toNatClampNeg) ≤ (1 : Int32)) => ?_) (fun (h21 : ¬ ((M 0 (r_X8_of i (4 : Int32)).toNatClampNeg) ≤ (1 : Int32))) => ?_)
    · refine j_iload_n C dX8_payFault_27 rfl ?_
      refine j_iconst C dX8_payFault_28 (1 : Int32) (by decide) ?_
      refine j_aload_n C dX8_payFault_29 rfl ?_
      refine j_get C f_X8_7.F 0 dX8_payFault_30 mW_0 rfl ?_
      refine j_iload_n C dX8_payFault_33 rfl ?_
      refine j_iconst C dX8_payFault_34 (2 : Int32) (by decide) ?_
      refine j_callSiR C g_X8_59 (c_X8_of l D ca i (2 : Int32)) ⟨Nat.le_of_ble_eq_true rfl, Nat.le_of_ble_eq_true rfl⟩ ⟨Nat.le_of_ble_eq_true rfl, Nat.le_of_ble_eq_true rfl⟩ [] rfl rfl rfl rfl (Nat.le_of_ble_eq_true rfl) dX8_payFault_35 ?_
      refine j_iald C 1 dX8_payFault_38 mW_1 (vin_of (isI h5 hM h00) (vin_c rfl)) ?_
      refine j_aload_n C dX8_payFault_39 rfl ?_
      refine j_get C f_X8_7.F 0 dX8_payFault_40 mW_0 rfl ?_
      refine j_iload_n C dX8_payFault_43 rfl ?_
      refine j_iconst C dX8_payFault_44 (5 : Int32) (by decide) ?_
      refine j_callSiR C g_X8_59 (c_X8_of l D ca i (5 : Int32)) ⟨Nat.le_of_ble_eq_true rfl, Nat.le_of_ble_eq_true rfl⟩ ⟨Nat.le_of_ble_eq_true rfl, Nat.le_of_ble_eq_true rfl⟩ [] rfl rfl rfl rfl (Nat.le_of_ble_eq_true rfl) dX8_payFault_45 ?_
      refine j_iald C 1 dX8_payFault_48 mW_1 (vin_of (isI h5 hM h00) (vin_c rfl)) ?_
      refine j_isub C dX8_payFault_49 ?_
      refine j_callSiR C g_X8_38 (c_X8_in l D ca c (1 : Int32) ((M 0 (r_X8_of i (2 : Int32)).toNatClampNeg) - (M 0 (r_X8_of i (5 : Int32)).toNatClampNeg))) ⟨Nat.le_of_ble_eq_true rfl, Nat.le_of_ble_eq_true rfl⟩ ⟨Nat.le_of_ble_eq_true rfl, Nat.le_of_ble_eq_true rfl⟩ [] rfl rfl rfl rfl (Nat.le_of_ble_eq_true rfl) dX8_payFault_50 ?_
      refine j_if_eq (tgt := 60) C dX8_payFault_53 (by decide) (fun (h53 : (r_X8_in c (1 : Int32) ((M 0 (r_X8_of i (2 : Int32)).toNatClampNeg) - (M 0 (r_X8_of i (5 : Int32)).toNatClampNeg))) = (0 : Int32)) => ?_) (fun (h53 : ¬ ((r_X8_in c (1 : Int32) ((M 0 (r_X8_of i (2 : Int32)).toNatClampNeg) - (M 0 (r_X8_of i (5 : Int32)).toNatClampNeg))) = (0 : Int32))) => ?_)
      · refine j_bipush C dX8_payFault_60 (-2 : Int32) (by decide) ?_
        have e9 : r_X8_payFault M i c = (-2 : Int32) := by rw [r_X8_payFault, if_neg h5, if_pos h21, if_pos h53]
        exact j_iret E dX8_payFault_62 (by rw [e9]; exact ⟨rfl, rfl⟩)
      · refine j_iconst C dX8_payFault_56 (0 : Int32) (by decide) ?_
        refine j_goto (tgt := 62) C dX8_payFault_57 (by decide) ?_
        have e9 : r_X8_payFault M i c = (0 : Int32) := by rw [r_X8_payFault, if_neg h5, if_pos h21, if_neg h53]
        exact j_iret E dX8_payFault_62 (by rw [e9]; exact ⟨rfl, rfl⟩)
    · refine j_bipush C dX8_payFault_24 (-4 : Int32) (by decide) ?_
      have e9 : r_X8_payFault M i c = (-4 : Int32) := by rw [r_X8_payFault, if_neg h5, if_neg h21]
      exact j_iret E dX8_payFault_26 (by rw [e9]; exact ⟨rfl, rfl⟩)
  · refine j_iconst C dX8_payFault_8 (-1 : Int32) (by decide) ?_
    have e9 : r_X8_payFault M i c = (-1 : Int32) := by rw [r_X8_payFault, if_pos h5]
    exact j_iret E dX8_payFault_9 (by rw [e9]; exact ⟨rfl, rfl⟩)


def r_X8_mayGiveUp (M : jB) (i : Int32) : Int32 := (if (2 : Int32) ≤ (M 0 (r_X8_of i (4 : Int32)).toNatClampNeg) then (0 : Int32) else (if ((M 0 (0 : Int32).toNatClampNeg) - (M 0 (r_X8_of i (3 : Int32)).toNatClampNeg)) < (M 0 (7 : Int32).toNatClampNeg) then (0 : Int32) else (1 : Int32)))
def n_X8_mayGiveUp (M : jB) (i : Int32) : Prop := ((vp_in i 20) ∧ True)
set_option maxRecDepth 100000 in
set_option maxHeartbeats 4000000 in
theorem c_X8_mayGiveUp (l : Launch) (D : va_G) (ca : Nat → ClassId) (g : Nat → Nat) (M : jB) (i : Int32) (hq : n_X8_mayGiveUp M i) : jM l D ca yX8_mayGiveUp cX8_mayGiveUp 2 (Option.some FieldType.boolean) 1 21 0 0 [.ref (g 0), .int i] (mW ca g M) (jD (some (.int (r_X8_mayGiveUp M i))) (mW ca g M)) := by
  refine jM_of [(0, .ref (g 0)), (1, .int i)] (by decide) (Nat.le_of_ble_eq_true rfl) rfl (fun X C E => ?_)
  rw [n_X8_mayGiveUp] at hq
  obtain ⟨hi, hq⟩ := hq
  refine j_aload_n C dX8_mayGiveUp_0 rfl ?_
  refine j_get C f_X8_7.F 0 dX8_mayGiveUp_1 mW_0 rfl ?_
  refine j_iload_n C dX8_mayGiveUp_4 rfl ?_
  refine j_iconst C dX8_mayGiveUp_5 (4 : Int32) (by decide) ?_
  refine j_callSiR C g_X8_59 (c_X8_of l D ca i (4 : Int32)) ⟨Nat.le_of_ble_eq_true rfl, Nat.le_of_ble_eq_true rfl⟩ ⟨Nat.le_of_ble_eq_true rfl, Nat.le_of_ble_eq_true rfl⟩ [] rfl rfl rfl rfl (Nat.le_of_ble_eq_true rfl) dX8_mayGiveUp_6 ?_
  refine j_iald C 1 dX8_mayGiveUp_9 mW_1 (vin_of hi (vin_c rfl)) ?_
  refine j_iconst C dX8_mayGiveUp_10 (2 : Int32) (by decide) ?_
  refine j_icmp_ge (tgt := 45) C dX8_mayGiveUp_11 (by decide) (fun (h11 : (2 : Int32) ≤ (M 0 (r_X8_of i (4 : Int32)).toNatClampNeg)) => ?_) (fun (h11 : ¬ ((2 : Int32) ≤ (M 0 (r_X8_of i (4 : Int32)).toNatClampNeg))) => ?_)
  · refine j_iconst C dX8_mayGiveUp_45 (0 : Int32) (by decide) ?_
    have e9 : r_X8_mayGiveUp M i = (0 : Int32) := by rw [r_X8_mayGiveUp, if_pos h11]
    exact j_zret E rfl dX8_mayGiveUp_46 (by rw [e9]; exact ⟨rfl, rfl⟩)
  · refine j_aload_n C dX8_mayGiveUp_14 rfl ?_
    refine j_get C f_X8_7.F 0 dX8_mayGiveUp_15 mW_0 rfl ?_
    refine j_iconst C dX8_mayGiveUp_18 (0 : Int32) (by decide) ?_
    refine j_iald C 1 dX8_mayGiveUp_19 mW_1 (vin_c rfl) ?_
    refine j_aload_n C dX8_mayGiveUp_20 rfl ?_
    refine j_get C f_X8_7.F 0 dX8_mayGiveUp_21 mW_0 rfl ?_
    refine j_iload_n C dX8_mayGiveUp_24 rfl ?_
    refine j_iconst C dX8_mayGiveUp_25 (3 : Int32) (by decide) ?_
    refine j_callSiR C g_X8_59 (c_X8_of l D ca i (3 : Int32)) ⟨Nat.le_of_ble_eq_true rfl, Nat.le_of_ble_eq_true rfl⟩ ⟨Nat.le_of_ble_eq_true rfl, Nat.le_of_ble_eq_true rfl⟩ [] rfl rfl rfl rfl (Nat.le_of_ble_eq_true rfl) dX8_mayGiveUp_26 ?_
    refine j_iald C 1 dX8_mayGiveUp_29 mW_1 (vin_of hi (vin_c rfl)) ?_
    refine j_isub C dX8_mayGiveUp_30 ?_
    refine j_aload_n C dX8_mayGiveUp_31 rfl ?_
    refine j_get C f_X8_7.F 0 dX8_mayGiveUp_32 mW_0 rfl ?_
    refine j_bipush C dX8_mayGiveUp_35 (7 : Int32) (by decide) ?_
    refine j_iald C 1 dX8_mayGiveUp_37 mW_1 (vin_c rfl) ?_
    refine j_icmp_lt (tgt := 45) C dX8_mayGiveUp_38 (by decide) (fun (h38 : ((M 0 (0 : Int32).toNatClampNeg) - (M 0 (r_X8_of i (3 : Int32)).toNatClampNeg)) < (M 0 (7 : Int32).toNatClampNeg)) => ?_) (fun (h38 : ¬ (((M 0 (0 : Int32).toNatClampNeg) - (M 0 (r_X8_of i (3 : Int32)).toNatClampNeg)) < (M 0 (7 : Int32).toNatClampNeg))) => ?_)
    · refine j_iconst C dX8_mayGiveUp_45 (0 : Int32) (by decide) ?_
      have e9 : r_X8_mayGiveUp M i = (0 : Int32) := by rw [r_X8_mayGiveUp, if_neg h11, if_pos h38]
      exact j_zret E rfl dX8_mayGiveUp_46 (by rw [e9]; exact ⟨rfl, rfl⟩)
    · refine j_iconst C dX8_mayGiveUp_41 (1 : Int32) (by decide) ?_
      refine j_goto (tgt := 46) C dX8_mayGiveUp_42 (by decide) ?_
      have e9 : r_X8_mayGiveUp M i = (1 : Int32) := by rw [r_X8_mayGiveUp, if_neg h11, if_neg h38]
      exact j_zret E rfl dX8_mayGiveUp_46 (by rw [e9]; exact ⟨rfl, rfl⟩)
set_option maxRecDepth 100000 in
set_option maxHeartbeats 4000000 in
theorem fa_m_1 {ca : Nat → ClassId} {g : Nat → Nat} {M : jB} {i : Nat} {v : Int32} : (mW ca g M).set 1 (g 1, .inl (ca 0, 204, .inl (upd (M 0) i v))) = mW ca g (up2 M 0 i v) := rfl

def z_X8_pays_0 (M : jB) (i : Int32) (c : Int32) : jB := (up2 M 0 ((r_X8_of i (5 : Int32))).toNatClampNeg ((M 0 (r_X8_of i (5 : Int32)).toNatClampNeg) + c))
def z_X8_pays_1 (M : jB) (i : Int32) (c : Int32) : jB := (up2 (z_X8_pays_0 M i c) 0 ((11 : Int32)).toNatClampNeg (((z_X8_pays_0 M i c) 0 (11 : Int32).toNatClampNeg) + c))
def z_X8_pays_2 (M : jB) (i : Int32) (c : Int32) : jB := (up2 (z_X8_pays_1 M i c) 0 ((r_X8_ofMember (M 0 (r_X8_of i (0 : Int32)).toNatClampNeg) (2 : Int32))).toNatClampNeg (((z_X8_pays_1 M i c) 0 (r_X8_ofMember (M 0 (r_X8_of i (0 : Int32)).toNatClampNeg) (2 : Int32)).toNatClampNeg) + c))
def z_X8_pays_3 (M : jB) (i : Int32) (c : Int32) : jB := (up2 (z_X8_pays_2 M i c) 0 ((r_X8_of i (4 : Int32))).toNatClampNeg (2 : Int32))
def z_X8_pays_4 (M : jB) (i : Int32) (c : Int32) : jB := (up2 (z_X8_pays_3 M i c) 0 ((r_X8_ofClient (M 0 (r_X8_of i (1 : Int32)).toNatClampNeg) (0 : Int32))).toNatClampNeg (((z_X8_pays_3 M i c) 0 (r_X8_ofClient (M 0 (r_X8_of i (1 : Int32)).toNatClampNeg) (0 : Int32)).toNatClampNeg) + (1 : Int32)))
def z_X8_pays_5 (M : jB) (i : Int32) (c : Int32) : jB := (up2 (z_X8_pays_4 M i c) 0 ((r_X8_ofClient (M 0 (r_X8_of i (1 : Int32)).toNatClampNeg) (2 : Int32))).toNatClampNeg (((z_X8_pays_4 M i c) 0 (r_X8_ofClient (M 0 (r_X8_of i (1 : Int32)).toNatClampNeg) (2 : Int32)).toNatClampNeg) + (r_X8_late (z_X8_pays_4 M i c) i (0 : Int32))))
def z_X8_pays_6 (M : jB) (i : Int32) (c : Int32) : jB := (up2 (z_X8_pays_1 M i c) 0 ((1 : Int32)).toNatClampNeg (((z_X8_pays_1 M i c) 0 (1 : Int32).toNatClampNeg) + c))
def z_X8_pays_7 (M : jB) (i : Int32) (c : Int32) : jB := (up2 (z_X8_pays_6 M i c) 0 ((r_X8_of i (4 : Int32))).toNatClampNeg (2 : Int32))
def z_X8_pays_8 (M : jB) (i : Int32) (c : Int32) : jB := (up2 (z_X8_pays_7 M i c) 0 ((r_X8_ofClient (M 0 (r_X8_of i (1 : Int32)).toNatClampNeg) (0 : Int32))).toNatClampNeg (((z_X8_pays_7 M i c) 0 (r_X8_ofClient (M 0 (r_X8_of i (1 : Int32)).toNatClampNeg) (0 : Int32)).toNatClampNeg) + (1 : Int32)))
def z_X8_pays_9 (M : jB) (i : Int32) (c : Int32) : jB := (up2 (z_X8_pays_8 M i c) 0 ((r_X8_ofClient (M 0 (r_X8_of i (1 : Int32)).toNatClampNeg) (2 : Int32))).toNatClampNeg (((z_X8_pays_8 M i c) 0 (r_X8_ofClient (M 0 (r_X8_of i (1 : Int32)).toNatClampNeg) (2 : Int32)).toNatClampNeg) + (r_X8_late (z_X8_pays_8 M i c) i (0 : Int32))))
def z_X8_pays_10 (M : jB) (i : Int32) (c : Int32) : jB := (up2 (z_X8_pays_9 M i c) 0 ((1 : Int32)).toNatClampNeg (((z_X8_pays_9 M i c) 0 (1 : Int32).toNatClampNeg) - ((((z_X8_pays_9 M i c) 0 (r_X8_of i (2 : Int32)).toNatClampNeg) - ((z_X8_pays_9 M i c) 0 (r_X8_of i (6 : Int32)).toNatClampNeg)) - (FP.f2i (FP.fmul (FP.i2f ((z_X8_pays_9 M i c) 0 (r_X8_of i (2 : Int32)).toNatClampNeg)) (r_X8_rateOf (z_X8_pays_9 M i c) (2 : Int32)))))))
def z_X8_pays_11 (M : jB) (i : Int32) (c : Int32) : jB := (up2 (z_X8_pays_10 M i c) 0 ((r_X8_ofMember (M 0 (r_X8_of i (0 : Int32)).toNatClampNeg) (2 : Int32))).toNatClampNeg (((z_X8_pays_10 M i c) 0 (r_X8_ofMember (M 0 (r_X8_of i (0 : Int32)).toNatClampNeg) (2 : Int32)).toNatClampNeg) + ((((z_X8_pays_9 M i c) 0 (r_X8_of i (2 : Int32)).toNatClampNeg) - ((z_X8_pays_9 M i c) 0 (r_X8_of i (6 : Int32)).toNatClampNeg)) - (FP.f2i (FP.fmul (FP.i2f ((z_X8_pays_9 M i c) 0 (r_X8_of i (2 : Int32)).toNatClampNeg)) (r_X8_rateOf (z_X8_pays_9 M i c) (2 : Int32)))))))
def z_X8_pays_12 (M : jB) (i : Int32) (c : Int32) : jB := (up2 (z_X8_pays_11 M i c) 0 ((12 : Int32)).toNatClampNeg (((z_X8_pays_11 M i c) 0 (12 : Int32).toNatClampNeg) + ((((z_X8_pays_9 M i c) 0 (r_X8_of i (2 : Int32)).toNatClampNeg) - ((z_X8_pays_9 M i c) 0 (r_X8_of i (6 : Int32)).toNatClampNeg)) - (FP.f2i (FP.fmul (FP.i2f ((z_X8_pays_9 M i c) 0 (r_X8_of i (2 : Int32)).toNatClampNeg)) (r_X8_rateOf (z_X8_pays_9 M i c) (2 : Int32)))))))
def r_X8_pays (M : jB) (i : Int32) (c : Int32) : Int32 × jB := (if (M 0 (r_X8_of i (4 : Int32)).toNatClampNeg) = (1 : Int32) then (if (((z_X8_pays_6 M i c) 0 (r_X8_of i (2 : Int32)).toNatClampNeg) - ((z_X8_pays_6 M i c) 0 (r_X8_of i (5 : Int32)).toNatClampNeg)) ≤ (0 : Int32) then (if ((((z_X8_pays_9 M i c) 0 (r_X8_of i (2 : Int32)).toNatClampNeg) - ((z_X8_pays_9 M i c) 0 (r_X8_of i (6 : Int32)).toNatClampNeg)) - (FP.f2i (FP.fmul (FP.i2f ((z_X8_pays_9 M i c) 0 (r_X8_of i (2 : Int32)).toNatClampNeg)) (r_X8_rateOf (z_X8_pays_9 M i c) (2 : Int32))))) ≤ (0 : Int32) then ((0 : Int32), (z_X8_pays_9 M i c)) else ((0 : Int32), (z_X8_pays_12 M i c))) else ((((z_X8_pays_6 M i c) 0 (r_X8_of i (2 : Int32)).toNatClampNeg) - ((z_X8_pays_6 M i c) 0 (r_X8_of i (5 : Int32)).toNatClampNeg)), (z_X8_pays_6 M i c))) else (if (((z_X8_pays_2 M i c) 0 (r_X8_of i (2 : Int32)).toNatClampNeg) - ((z_X8_pays_2 M i c) 0 (r_X8_of i (5 : Int32)).toNatClampNeg)) ≤ (0 : Int32) then ((0 : Int32), (z_X8_pays_5 M i c)) else ((((z_X8_pays_2 M i c) 0 (r_X8_of i (2 : Int32)).toNatClampNeg) - ((z_X8_pays_2 M i c) 0 (r_X8_of i (5 : Int32)).toNatClampNeg)), (z_X8_pays_2 M i c))))
def n_X8_pays (M : jB) (i : Int32) (c : Int32) : Prop := ((vp_in i 20) ∧ (((M 0 (r_X8_of i (4 : Int32)).toNatClampNeg) = (1 : Int32) → (((((z_X8_pays_6 M i c) 0 (r_X8_of i (2 : Int32)).toNatClampNeg) - ((z_X8_pays_6 M i c) 0 (r_X8_of i (5 : Int32)).toNatClampNeg)) ≤ (0 : Int32) → (vp_in (r_X8_ofClient (M 0 (r_X8_of i (1 : Int32)).toNatClampNeg) (0 : Int32)) 204 ∧ (vp_in (r_X8_ofClient (M 0 (r_X8_of i (1 : Int32)).toNatClampNeg) (0 : Int32)) 204 ∧ (vp_in (r_X8_ofClient (M 0 (r_X8_of i (1 : Int32)).toNatClampNeg) (2 : Int32)) 204 ∧ ((n_X8_late (z_X8_pays_8 M i c) i (0 : Int32)) ∧ (vp_in (r_X8_ofClient (M 0 (r_X8_of i (1 : Int32)).toNatClampNeg) (2 : Int32)) 204 ∧ ((n_X8_rateOf (z_X8_pays_9 M i c) (2 : Int32)) ∧ (vf_n32 (FP.fmul (FP.i2f ((z_X8_pays_9 M i c) 0 (r_X8_of i (2 : Int32)).toNatClampNeg)) (r_X8_rateOf (z_X8_pays_9 M i c) (2 : Int32))) ∧ ((((((z_X8_pays_9 M i c) 0 (r_X8_of i (2 : Int32)).toNatClampNeg) - ((z_X8_pays_9 M i c) 0 (r_X8_of i (6 : Int32)).toNatClampNeg)) - (FP.f2i (FP.fmul (FP.i2f ((z_X8_pays_9 M i c) 0 (r_X8_of i (2 : Int32)).toNatClampNeg)) (r_X8_rateOf (z_X8_pays_9 M i c) (2 : Int32))))) ≤ (0 : Int32) → True) ∧ (¬ (((((z_X8_pays_9 M i c) 0 (r_X8_of i (2 : Int32)).toNatClampNeg) - ((z_X8_pays_9 M i c) 0 (r_X8_of i (6 : Int32)).toNatClampNeg)) - (FP.f2i (FP.fmul (FP.i2f ((z_X8_pays_9 M i c) 0 (r_X8_of i (2 : Int32)).toNatClampNeg)) (r_X8_rateOf (z_X8_pays_9 M i c) (2 : Int32))))) ≤ (0 : Int32)) → (vp_in (r_X8_ofMember (M 0 (r_X8_of i (0 : Int32)).toNatClampNeg) (2 : Int32)) 204 ∧ (vp_in (r_X8_ofMember (M 0 (r_X8_of i (0 : Int32)).toNatClampNeg) (2 : Int32)) 204 ∧ True)))))))))))) ∧ (¬ ((((z_X8_pays_6 M i c) 0 (r_X8_of i (2 : Int32)).toNatClampNeg) - ((z_X8_pays_6 M i c) 0 (r_X8_of i (5 : Int32)).toNatClampNeg)) ≤ (0 : Int32)) → True))) ∧ (¬ ((M 0 (r_X8_of i (4 : Int32)).toNatClampNeg) = (1 : Int32)) → (vp_in (r_X8_ofMember (M 0 (r_X8_of i (0 : Int32)).toNatClampNeg) (2 : Int32)) 204 ∧ (vp_in (r_X8_ofMember (M 0 (r_X8_of i (0 : Int32)).toNatClampNeg) (2 : Int32)) 204 ∧ (((((z_X8_pays_2 M i c) 0 (r_X8_of i (2 : Int32)).toNatClampNeg) - ((z_X8_pays_2 M i c) 0 (r_X8_of i (5 : Int32)).toNatClampNeg)) ≤ (0 : Int32) → (vp_in (r_X8_ofClient (M 0 (r_X8_of i (1 : Int32)).toNatClampNeg) (0 : Int32)) 204 ∧ (vp_in (r_X8_ofClient (M 0 (r_X8_of i (1 : Int32)).toNatClampNeg) (0 : Int32)) 204 ∧ (vp_in (r_X8_ofClient (M 0 (r_X8_of i (1 : Int32)).toNatClampNeg) (2 : Int32)) 204 ∧ ((n_X8_late (z_X8_pays_4 M i c) i (0 : Int32)) ∧ (vp_in (r_X8_ofClient (M 0 (r_X8_of i (1 : Int32)).toNatClampNeg) (2 : Int32)) 204 ∧ ((n_X8_rateOf (z_X8_pays_5 M i c) (2 : Int32)) ∧ (vf_n32 (FP.fmul (FP.i2f ((z_X8_pays_5 M i c) 0 (r_X8_of i (2 : Int32)).toNatClampNeg)) (r_X8_rateOf (z_X8_pays_5 M i c) (2 : Int32))) ∧ True)))))))) ∧ (¬ ((((z_X8_pays_2 M i c) 0 (r_X8_of i (2 : Int32)).toNatClampNeg) - ((z_X8_pays_2 M i c) 0 (r_X8_of i (5 : Int32)).toNatClampNeg)) ≤ (0 : Int32)) → True)))))))
set_option maxRecDepth 100000 in
set_option maxHeartbeats 4000000 in
theorem c_X8_pays (l : Launch) (D : va_G) (ca : Nat → ClassId) (g : Nat → Nat) (M : jB) (i : Int32) (c : Int32) (hq : n_X8_pays M i c) : jM l D ca yX8_pays cX8_pays 9 (some .int) 2 44 0 0 [.ref (g 0), .int i, .int c] (mW ca g M) (jD (some (.int (r_X8_pays M i c).1)) (mW ca g ((r_X8_pays M i c).2))) := by
  refine jM_of [(0, .ref (g 0)), (1, .int i), (2, .int c)] (by decide) (Nat.le_of_ble_eq_true rfl) rfl (fun X C E => ?_)
  rw [n_X8_pays] at hq
  obtain ⟨hi, hq⟩ := hq
  refine j_aload_n C dX8_pays_0 rfl ?_
  refine j_get C f_X8_7.F 0 dX8_pays_1 mW_0 rfl ?_
  refine j_iload_n C dX8_pays_4 rfl ?_
  refine j_iconst C dX8_pays_5 (0 : Int32) (by decide) ?_
  refine j_callSiR C g_X8_59 (c_X8_of l D ca i (0 : Int32)) ⟨Nat.le_of_ble_eq_true rfl, Nat.le_of_ble_eq_true rfl⟩ ⟨Nat.le_of_ble_eq_true rfl, Nat.le_of_ble_eq_true rfl⟩ [] rfl rfl rfl rfl (Nat.le_of_ble_eq_true rfl) dX8_pays_6 ?_
  refine j_iald C 1 dX8_pays_9 mW_1 (vin_of hi (vin_c rfl)) ?_
  refine j_iconst C dX8_pays_10 (2 : Int32) (by decide) ?_
  refine j_callSiR C g_X8_84 (c_X8_ofMember l D ca (M 0 (r_X8_of i (0 : Int32)).toNatClampNeg) (2 : Int32)) ⟨Nat.le_of_ble_eq_true rfl, Nat.le_of_ble_eq_true rfl⟩ ⟨Nat.le_of_ble_eq_true rfl, Nat.le_of_ble_eq_true rfl⟩ [] rfl rfl rfl rfl (Nat.le_of_ble_eq_true rfl) dX8_pays_11 ?_
  refine j_istore_n C [(3, _), (0, _), (1, _), (2, _)] dX8_pays_14 (by decide) rfl ?_
  refine j_aload_n C dX8_pays_15 rfl ?_
  refine j_get C f_X8_7.F 0 dX8_pays_16 mW_0 rfl ?_
  refine j_iload_n C dX8_pays_19 rfl ?_
  refine j_iconst C dX8_pays_20 (4 : Int32) (by decide) ?_
  refine j_callSiR C g_X8_59 (c_X8_of l D ca i (4 : Int32)) ⟨Nat.le_of_ble_eq_true rfl, Nat.le_of_ble_eq_true rfl⟩ ⟨Nat.le_of_ble_eq_true rfl, Nat.le_of_ble_eq_true rfl⟩ [] rfl rfl rfl rfl (Nat.le_of_ble_eq_true rfl) dX8_pays_21 ?_
  refine j_iald C 1 dX8_pays_24 mW_1 (vin_of hi (vin_c rfl)) ?_
  refine j_iconst C dX8_pays_25 (1 : Int32) (by decide) ?_
  refine j_icmp_ne (tgt := 33) C dX8_pays_26 (by decide) (fun (h26 : ¬ ((M 0 (r_X8_of i (4 : Int32)).toNatClampNeg) = (1 : Int32))) => ?_) (fun (h26 : (M 0 (r_X8_of i (4 : Int32)).toNatClampNeg) = (1 : Int32)) => ?_)
  · have hq := hq.2 h26
    refine j_iconst C dX8_pays_33 (0 : Int32) (by decide) ?_
    refine j_istore C [(4, _), (3, _), (0, _), (1, _), (2, _)] dX8_pays_34 (by decide) rfl ?_
    refine j_aload_n C dX8_pays_36 rfl ?_
    refine j_get C f_X8_7.F 0 dX8_pays_37 mW_0 rfl ?_
    refine j_iload_n C dX8_pays_40 rfl ?_
    refine j_iconst C dX8_pays_41 (1 : Int32) (by decide) ?_
    refine j_callSiR C g_X8_59 (c_X8_of l D ca i (1 : Int32)) ⟨Nat.le_of_ble_eq_true rfl, Nat.le_of_ble_eq_true rfl⟩ ⟨Nat.le_of_ble_eq_true rfl, Nat.le_of_ble_eq_true rfl⟩ [] rfl rfl rfl rfl (Nat.le_of_ble_eq_true rfl) dX8_pays_42 ?_
    refine j_iald C 1 dX8_pays_45 mW_1 (vin_of hi (vin_c rfl)) ?_
    refine j_istore C [(5, _), (4, _), (3, _), (0, _), (1, _), (2, _)] dX8_pays_46 (by decide) rfl ?_
    refine j_aload_n C dX8_pays_48 rfl ?_
    refine j_get C f_X8_7.F 0 dX8_pays_49 mW_0 rfl ?_
    refine j_iload_n C dX8_pays_52 rfl ?_
    refine j_iconst C dX8_pays_53 (5 : Int32) (by decide) ?_
    refine j_callSiR C g_X8_59 (c_X8_of l D ca i (5 : Int32)) ⟨Nat.le_of_ble_eq_true rfl, Nat.le_of_ble_eq_true rfl⟩ ⟨Nat.le_of_ble_eq_true rfl, Nat.le_of_ble_eq_true rfl⟩ [] rfl rfl rfl rfl (Nat.le_of_ble_eq_true rfl) dX8_pays_54 ?_
    refine j_dup2 C dX8_pays_57 rfl rfl ?_
    refine j_iald C 1 dX8_pays_58 mW_1 (vin_of hi (vin_c rfl)) ?_
    refine j_iload_n C dX8_pays_59 rfl ?_
    refine j_iadd C dX8_pays_60 ?_
    refine j_iast C 1 dX8_pays_61 mW_1 (vin_of hi (vin_c rfl)) ?_
    refine j_ws (ws' := (mW ca g (z_X8_pays_0 M i c))) fa_m_1 ?_
    refine j_aload_n C dX8_pays_62 rfl ?_
    refine j_get C f_X8_7.F 0 dX8_pays_63 mW_0 rfl ?_
    refine j_bipush C dX8_pays_66 (11 : Int32) (by decide) ?_
    refine j_dup2 C dX8_pays_68 rfl rfl ?_
    refine j_iald C 1 dX8_pays_69 mW_1 (vin_c rfl) ?_
    refine j_iload_n C dX8_pays_70 rfl ?_
    refine j_iadd C dX8_pays_71 ?_
    refine j_iast C 1 dX8_pays_72 mW_1 (vin_c rfl) ?_
    refine j_ws (ws' := (mW ca g (z_X8_pays_1 M i c))) fa_m_1 ?_
    refine j_aload_n C dX8_pays_73 rfl ?_
    refine j_get C f_X8_7.F 0 dX8_pays_74 mW_0 rfl ?_
    refine j_iload C dX8_pays_77 rfl ?_
    refine j_if_eq (tgt := 86) C dX8_pays_79 (by decide) (fun _ => ?_) (fun h => absurd (by decide) h)
    refine j_iload_n C dX8_pays_86 rfl ?_
    refine j_dup2 C dX8_pays_87 rfl rfl ?_
    obtain ⟨hv, hq⟩ := hq
    refine j_iald C 1 dX8_pays_88 mW_1 hv ?_
    refine j_iload_n C dX8_pays_89 rfl ?_
    refine j_iadd C dX8_pays_90 ?_
    obtain ⟨hv, hq⟩ := hq
    refine j_iast C 1 dX8_pays_91 mW_1 hv ?_
    refine j_ws (ws' := (mW ca g (z_X8_pays_2 M i c))) fa_m_1 ?_
    refine j_aload_n C dX8_pays_92 rfl ?_
    refine j_get C f_X8_7.F 0 dX8_pays_93 mW_0 rfl ?_
    refine j_iload_n C dX8_pays_96 rfl ?_
    refine j_iconst C dX8_pays_97 (2 : Int32) (by decide) ?_
    refine j_callSiR C g_X8_59 (c_X8_of l D ca i (2 : Int32)) ⟨Nat.le_of_ble_eq_true rfl, Nat.le_of_ble_eq_true rfl⟩ ⟨Nat.le_of_ble_eq_true rfl, Nat.le_of_ble_eq_true rfl⟩ [] rfl rfl rfl rfl (Nat.le_of_ble_eq_true rfl) dX8_pays_98 ?_
    refine j_iald C 1 dX8_pays_101 mW_1 (vin_of hi (vin_c rfl)) ?_
    refine j_aload_n C dX8_pays_102 rfl ?_
    refine j_get C f_X8_7.F 0 dX8_pays_103 mW_0 rfl ?_
    refine j_iload_n C dX8_pays_106 rfl ?_
    refine j_iconst C dX8_pays_107 (5 : Int32) (by decide) ?_
    refine j_callSiR C g_X8_59 (c_X8_of l D ca i (5 : Int32)) ⟨Nat.le_of_ble_eq_true rfl, Nat.le_of_ble_eq_true rfl⟩ ⟨Nat.le_of_ble_eq_true rfl, Nat.le_of_ble_eq_true rfl⟩ [] rfl rfl rfl rfl (Nat.le_of_ble_eq_true rfl) dX8_pays_108 ?_
    refine j_iald C 1 dX8_pays_111 mW_1 (vin_of hi (vin_c rfl)) ?_
    refine j_isub C dX8_pays_112 ?_
    refine j_istore C [(6, _), (5, _), (4, _), (3, _), (0, _), (1, _), (2, _)] dX8_pays_113 (by decide) rfl ?_
    refine j_iload C dX8_pays_115 rfl ?_
    refine j_if_le (tgt := 123) C dX8_pays_117 (by decide) (fun (h117 : (((z_X8_pays_2 M i c) 0 (r_X8_of i (2 : Int32)).toNatClampNeg) - ((z_X8_pays_2 M i c) 0 (r_X8_of i (5 : Int32)).toNatClampNeg)) ≤ (0 : Int32)) => ?_) (fun (h117 : ¬ ((((z_X8_pays_2 M i c) 0 (r_X8_of i (2 : Int32)).toNatClampNeg) - ((z_X8_pays_2 M i c) 0 (r_X8_of i (5 : Int32)).toNatClampNeg)) ≤ (0 : Int32))) => ?_)
    · have hq := hq.1 h117
      refine j_aload_n C dX8_pays_123 rfl ?_
      refine j_get C f_X8_7.F 0 dX8_pays_124 mW_0 rfl ?_
      refine j_iload_n C dX8_pays_127 rfl ?_
      refine j_iconst C dX8_pays_128 (4 : Int32) (by decide) ?_
      refine j_callSiR C g_X8_59 (c_X8_of l D ca i (4 : Int32)) ⟨Nat.le_of_ble_eq_true rfl, Nat.le_of_ble_eq_true rfl⟩ ⟨Nat.le_of_ble_eq_true rfl, Nat.le_of_ble_eq_true rfl⟩ [] rfl rfl rfl rfl (Nat.le_of_ble_eq_true rfl) dX8_pays_129 ?_
      refine j_iconst C dX8_pays_132 (2 : Int32) (by decide) ?_
      refine j_iast C 1 dX8_pays_133 mW_1 (vin_of hi (vin_c rfl)) ?_
      refine j_ws (ws' := (mW ca g (z_X8_pays_3 M i c))) fa_m_1 ?_
      refine j_aload_n C dX8_pays_134 rfl ?_
      refine j_get C f_X8_7.F 0 dX8_pays_135 mW_0 rfl ?_
      refine j_iload C dX8_pays_138 rfl ?_
      refine j_iconst C dX8_pays_140 (0 : Int32) (by decide) ?_
      refine j_callSiR C g_X8_55 (c_X8_ofClient l D ca (M 0 (r_X8_of i (1 : Int32)).toNatClampNeg) (0 : Int32)) ⟨Nat.le_of_ble_eq_true rfl, Nat.le_of_ble_eq_true rfl⟩ ⟨Nat.le_of_ble_eq_true rfl, Nat.le_of_ble_eq_true rfl⟩ [] rfl rfl rfl rfl (Nat.le_of_ble_eq_true rfl) dX8_pays_141 ?_
      refine j_dup2 C dX8_pays_144 rfl rfl ?_
      obtain ⟨hv, hq⟩ := hq
      refine j_iald C 1 dX8_pays_145 mW_1 hv ?_
      refine j_iconst C dX8_pays_146 (1 : Int32) (by decide) ?_
      refine j_iadd C dX8_pays_147 ?_
      obtain ⟨hv, hq⟩ := hq
      refine j_iast C 1 dX8_pays_148 mW_1 hv ?_
      refine j_ws (ws' := (mW ca g (z_X8_pays_4 M i c))) fa_m_1 ?_
      refine j_aload_n C dX8_pays_149 rfl ?_
      refine j_get C f_X8_7.F 0 dX8_pays_150 mW_0 rfl ?_
      refine j_iload C dX8_pays_153 rfl ?_
      refine j_iconst C dX8_pays_155 (2 : Int32) (by decide) ?_
      refine j_callSiR C g_X8_55 (c_X8_ofClient l D ca (M 0 (r_X8_of i (1 : Int32)).toNatClampNeg) (2 : Int32)) ⟨Nat.le_of_ble_eq_true rfl, Nat.le_of_ble_eq_true rfl⟩ ⟨Nat.le_of_ble_eq_true rfl, Nat.le_of_ble_eq_true rfl⟩ [] rfl rfl rfl rfl (Nat.le_of_ble_eq_true rfl) dX8_pays_156 ?_
      refine j_dup2 C dX8_pays_159 rfl rfl ?_
      obtain ⟨hv, hq⟩ := hq
      refine j_iald C 1 dX8_pays_160 mW_1 hv ?_
      refine j_aload_n C dX8_pays_161 rfl ?_
      refine j_iload_n C dX8_pays_162 rfl ?_
      refine j_iconst C dX8_pays_163 (0 : Int32) (by decide) ?_
      obtain ⟨hv, hq⟩ := hq
      refine j_callViRW C g_X8_65 (c_X8_late l D ca g (z_X8_pays_4 M i c) i (0 : Int32) hv) 0 mW_0 hcl_X8 ⟨Nat.le_of_ble_eq_true rfl, Nat.le_of_ble_eq_true rfl⟩ ⟨Nat.le_of_ble_eq_true rfl, Nat.le_of_ble_eq_true rfl⟩ rfl rfl (Nat.le_of_ble_eq_true rfl) dX8_pays_164 ?_
      refine j_iadd C dX8_pays_167 ?_
      obtain ⟨hv, hq⟩ := hq
      refine j_iast C 1 dX8_pays_168 mW_1 hv ?_
      refine j_ws (ws' := (mW ca g (z_X8_pays_5 M i c))) fa_m_1 ?_
      refine j_aload_n C dX8_pays_169 rfl ?_
      refine j_get C f_X8_7.F 0 dX8_pays_170 mW_0 rfl ?_
      refine j_iload_n C dX8_pays_173 rfl ?_
      refine j_iconst C dX8_pays_174 (2 : Int32) (by decide) ?_
      refine j_callSiR C g_X8_59 (c_X8_of l D ca i (2 : Int32)) ⟨Nat.le_of_ble_eq_true rfl, Nat.le_of_ble_eq_true rfl⟩ ⟨Nat.le_of_ble_eq_true rfl, Nat.le_of_ble_eq_true rfl⟩ [] rfl rfl rfl rfl (Nat.le_of_ble_eq_true rfl) dX8_pays_175 ?_
      refine j_iald C 1 dX8_pays_178 mW_1 (vin_of hi (vin_c rfl)) ?_
      refine j_i2f C dX8_pays_179 ?_
      refine j_aload_n C dX8_pays_180 rfl ?_
      refine j_iconst C dX8_pays_181 (2 : Int32) (by decide) ?_
      obtain ⟨hv, hq⟩ := hq
      refine j_callVfRW C g_X8_62 (c_X8_rateOf l D ca g (z_X8_pays_5 M i c) (2 : Int32) hv) 0 mW_0 hcl_X8 ⟨Nat.le_of_ble_eq_true rfl, Nat.le_of_ble_eq_true rfl⟩ ⟨Nat.le_of_ble_eq_true rfl, Nat.le_of_ble_eq_true rfl⟩ rfl rfl (Nat.le_of_ble_eq_true rfl) dX8_pays_182 ?_
      obtain ⟨hv, hq⟩ := hq
      refine j_fmul C dX8_pays_185 hv ?_
      refine j_f2i C dX8_pays_186 ?_
      refine j_istore C [(7, _), (6, _), (5, _), (4, _), (3, _), (0, _), (1, _), (2, _)] dX8_pays_187 (by decide) rfl ?_
      refine j_aload_n C dX8_pays_189 rfl ?_
      refine j_get C f_X8_7.F 0 dX8_pays_190 mW_0 rfl ?_
      refine j_iload_n C dX8_pays_193 rfl ?_
      refine j_iconst C dX8_pays_194 (2 : Int32) (by decide) ?_
      refine j_callSiR C g_X8_59 (c_X8_of l D ca i (2 : Int32)) ⟨Nat.le_of_ble_eq_true rfl, Nat.le_of_ble_eq_true rfl⟩ ⟨Nat.le_of_ble_eq_true rfl, Nat.le_of_ble_eq_true rfl⟩ [] rfl rfl rfl rfl (Nat.le_of_ble_eq_true rfl) dX8_pays_195 ?_
      refine j_iald C 1 dX8_pays_198 mW_1 (vin_of hi (vin_c rfl)) ?_
      refine j_aload_n C dX8_pays_199 rfl ?_
      refine j_get C f_X8_7.F 0 dX8_pays_200 mW_0 rfl ?_
      refine j_iload_n C dX8_pays_203 rfl ?_
      refine j_bipush C dX8_pays_204 (6 : Int32) (by decide) ?_
      refine j_callSiR C g_X8_59 (c_X8_of l D ca i (6 : Int32)) ⟨Nat.le_of_ble_eq_true rfl, Nat.le_of_ble_eq_true rfl⟩ ⟨Nat.le_of_ble_eq_true rfl, Nat.le_of_ble_eq_true rfl⟩ [] rfl rfl rfl rfl (Nat.le_of_ble_eq_true rfl) dX8_pays_206 ?_
      refine j_iald C 1 dX8_pays_209 mW_1 (vin_of hi (vin_c rfl)) ?_
      refine j_isub C dX8_pays_210 ?_
      refine j_iload C dX8_pays_211 rfl ?_
      refine j_isub C dX8_pays_213 ?_
      refine j_istore C [(8, _), (7, _), (6, _), (5, _), (4, _), (3, _), (0, _), (1, _), (2, _)] dX8_pays_214 (by decide) rfl ?_
      refine j_iload C dX8_pays_216 rfl ?_
      refine j_if_eq (tgt := 260) C dX8_pays_218 (by decide) (fun _ => ?_) (fun h => absurd (by decide) h)
      refine j_iconst C dX8_pays_260 (0 : Int32) (by decide) ?_
      have e9 : r_X8_pays M i c = ((0 : Int32), (z_X8_pays_5 M i c)) := by rw [r_X8_pays, if_neg h26, if_pos h117]
      exact j_iret E dX8_pays_261 (jD_i e9 (mW ca g))
    · have hq := hq.2 h117
      refine j_iload C dX8_pays_120 rfl ?_
      have e9 : r_X8_pays M i c = ((((z_X8_pays_2 M i c) 0 (r_X8_of i (2 : Int32)).toNatClampNeg) - ((z_X8_pays_2 M i c) 0 (r_X8_of i (5 : Int32)).toNatClampNeg)), (z_X8_pays_2 M i c)) := by rw [r_X8_pays, if_neg h26, if_neg h117]
      exact j_iret E dX8_pays_122 (jD_i e9 (mW ca g))
  · have hq := hq.1 h26
    refine j_iconst C dX8_pays_29 (1 : Int32) (by decide) ?_
    refine j_goto (tgt := 34) C dX8_pays_30 (by decide) ?_
    refine j_istore C [(4, _), (3, _), (0, _), (1, _), (2, _)] dX8_pays_34 (by decide) rfl ?_
    refine j_aload_n C dX8_pays_36 rfl ?_
    refine j_get C f_X8_7.F 0 dX8_pays_37 mW_0 rfl ?_
    refine j_iload_n C dX8_pays_40 rfl ?_
    refine j_iconst C dX8_pays_41 (1 : Int32) (by decide) ?_
    refine j_callSiR C g_X8_59 (c_X8_of l D ca i (1 : Int32)) ⟨Nat.le_of_ble_eq_true rfl, Nat.le_of_ble_eq_true rfl⟩ ⟨Nat.le_of_ble_eq_true rfl, Nat.le_of_ble_eq_true rfl⟩ [] rfl rfl rfl rfl (Nat.le_of_ble_eq_true rfl) dX8_pays_42 ?_
    refine j_iald C 1 dX8_pays_45 mW_1 (vin_of hi (vin_c rfl)) ?_
    refine j_istore C [(5, _), (4, _), (3, _), (0, _), (1, _), (2, _)] dX8_pays_46 (by decide) rfl ?_
    refine j_aload_n C dX8_pays_48 rfl ?_
    refine j_get C f_X8_7.F 0 dX8_pays_49 mW_0 rfl ?_
    refine j_iload_n C dX8_pays_52 rfl ?_
    refine j_iconst C dX8_pays_53 (5 : Int32) (by decide) ?_
    refine j_callSiR C g_X8_59 (c_X8_of l D ca i (5 : Int32)) ⟨Nat.le_of_ble_eq_true rfl, Nat.le_of_ble_eq_true rfl⟩ ⟨Nat.le_of_ble_eq_true rfl, Nat.le_of_ble_eq_true rfl⟩ [] rfl rfl rfl rfl (Nat.le_of_ble_eq_true rfl) dX8_pays_54 ?_
    refine j_dup2 C dX8_pays_57 rfl rfl ?_
    refine j_iald C 1 dX8_pays_58 mW_1 (vin_of hi (vin_c rfl)) ?_
    refine j_iload_n C dX8_pays_59 rfl ?_
    refine j_iadd C dX8_pays_60 ?_
    refine j_iast C 1 dX8_pays_61 mW_1 (vin_of hi (vin_c rfl)) ?_
    refine j_ws (ws' := (mW ca g (z_X8_pays_0 M i c))) fa_m_1 ?_
    refine j_aload_n C dX8_pays_62 rfl ?_
    refine j_get C f_X8_7.F 0 dX8_pays_63 mW_0 rfl ?_
    refine j_bipush C dX8_pays_66 (11 : Int32) (by decide) ?_
    refine j_dup2 C dX8_pays_68 rfl rfl ?_
    refine j_iald C 1 dX8_pays_69 mW_1 (vin_c rfl) ?_
    refine j_iload_n C dX8_pays_70 rfl ?_
    refine j_iadd C dX8_pays_71 ?_
    refine j_iast C 1 dX8_pays_72 mW_1 (vin_c rfl) ?_
    refine j_ws (ws' := (mW ca g (z_X8_pays_1 M i c))) fa_m_1 ?_
    refine j_aload_n C dX8_pays_73 rfl ?_
    refine j_get C f_X8_7.F 0 dX8_pays_74 mW_0 rfl ?_
    refine j_iload C dX8_pays_77 rfl ?_
    refine j_if_eq (tgt := 86) C dX8_pays_79 (by decide) (fun h => absurd h (by decide)) (fun _ => ?_)
    refine j_iconst C dX8_pays_82 (1 : Int32) (by decide) ?_
    refine j_goto (tgt := 87) C dX8_pays_83 (by decide) ?_
    refine j_dup2 C dX8_pays_87 rfl rfl ?_
    refine j_iald C 1 dX8_pays_88 mW_1 (vin_c rfl) ?_
    refine j_iload_n C dX8_pays_89 rfl ?_
    refine j_iadd C dX8_pays_90 ?_
    refine j_iast C 1 dX8_pays_91 mW_1 (vin_c rfl) ?_
    refine j_ws (ws' := (mW ca g (z_X8_pays_6 M i c))) fa_m_1 ?_
    refine j_aload_n C dX8_pays_92 rfl ?_
    refine j_get C f_X8_7.F 0 dX8_pays_93 mW_0 rfl ?_
    refine j_iload_n C dX8_pays_96 rfl ?_
    refine j_iconst C dX8_pays_97 (2 : Int32) (by decide) ?_
    refine j_callSiR C g_X8_59 (c_X8_of l D ca i (2 : Int32)) ⟨Nat.le_of_ble_eq_true rfl, Nat.le_of_ble_eq_true rfl⟩ ⟨Nat.le_of_ble_eq_true rfl, Nat.le_of_ble_eq_true rfl⟩ [] rfl rfl rfl rfl (Nat.le_of_ble_eq_true rfl) dX8_pays_98 ?_
    refine j_iald C 1 dX8_pays_101 mW_1 (vin_of hi (vin_c rfl)) ?_
    refine j_aload_n C dX8_pays_102 rfl ?_
    refine j_get C f_X8_7.F 0 dX8_pays_103 mW_0 rfl ?_
    refine j_iload_n C dX8_pays_106 rfl ?_
    refine j_iconst C dX8_pays_107 (5 : Int32) (by decide) ?_
    refine j_callSiR C g_X8_59 (c_X8_of l D ca i (5 : Int32)) ⟨Nat.le_of_ble_eq_true rfl, Nat.le_of_ble_eq_true rfl⟩ ⟨Nat.le_of_ble_eq_true rfl, Nat.le_of_ble_eq_true rfl⟩ [] rfl rfl rfl rfl (Nat.le_of_ble_eq_true rfl) dX8_pays_108 ?_
    refine j_iald C 1 dX8_pays_111 mW_1 (vin_of hi (vin_c rfl)) ?_
    refine j_isub C dX8_pays_112 ?_
    refine j_istore C [(6, _), (5, _), (4, _), (3, _), (0, _), (1, _), (2, _)] dX8_pays_113 (by decide) rfl ?_
    refine j_iload C dX8_pays_115 rfl ?_
    refine j_if_le (tgt := 123) C dX8_pays_117 (by decide) (fun (h117 : (((z_X8_pays_6 M i c) 0 (r_X8_of i (2 : Int32)).toNatClampNeg) - ((z_X8_pays_6 M i c) 0 (r_X8_of i (5 : Int32)).toNatClampNeg)) ≤ (0 : Int32)) => ?_) (fun (h117 : ¬ ((((z_X8_pays_6 M i c) 0 (r_X8_of i (2 : Int32)).toNatClampNeg) - ((z_X8_pays_6 M i c) 0 (r_X8_of i (5 : Int32)).toNatClampNeg)) ≤ (0 : Int32))) => ?_)
    · have hq := hq.1 h117
      refine j_aload_n C dX8_pays_123 rfl ?_
      refine j_get C f_X8_7.F 0 dX8_pays_124 mW_0 rfl ?_
      refine j_iload_n C dX8_pays_127 rfl ?_
      refine j_iconst C dX8_pays_128 (4 : Int32) (by decide) ?_
      refine j_callSiR C g_X8_59 (c_X8_of l D ca i (4 : Int32)) ⟨Nat.le_of_ble_eq_true rfl, Nat.le_of_ble_eq_true rfl⟩ ⟨Nat.le_of_ble_eq_true rfl, Nat.le_of_ble_eq_true rfl⟩ [] rfl rfl rfl rfl (Nat.le_of_ble_eq_true rfl) dX8_pays_129 ?_
      refine j_iconst C dX8_pays_132 (2 : Int32) (by decide) ?_
      refine j_iast C 1 dX8_pays_133 mW_1 (vin_of hi (vin_c rfl)) ?_
      refine j_ws (ws' := (mW ca g (z_X8_pays_7 M i c))) fa_m_1 ?_
      refine j_aload_n C dX8_pays_134 rfl ?_
      refine j_get C f_X8_7.F 0 dX8_pays_135 mW_0 rfl ?_
      refine j_iload C dX8_pays_138 rfl ?_
      refine j_iconst C dX8_pays_140 (0 : Int32) (by decide) ?_
      refine j_callSiR C g_X8_55 (c_X8_ofClient l D ca (M 0 (r_X8_of i (1 : Int32)).toNatClampNeg) (0 : Int32)) ⟨Nat.le_of_ble_eq_true rfl, Nat.le_of_ble_eq_true rfl⟩ ⟨Nat.le_of_ble_eq_true rfl, Nat.le_of_ble_eq_true rfl⟩ [] rfl rfl rfl rfl (Nat.le_of_ble_eq_true rfl) dX8_pays_141 ?_
      refine j_dup2 C dX8_pays_144 rfl rfl ?_
      obtain ⟨hv, hq⟩ := hq
      refine j_iald C 1 dX8_pays_145 mW_1 hv ?_
      refine j_iconst C dX8_pays_146 (1 : Int32) (by decide) ?_
      refine j_iadd C dX8_pays_147 ?_
      obtain ⟨hv, hq⟩ := hq
      refine j_iast C 1 dX8_pays_148 mW_1 hv ?_
      refine j_ws (ws' := (mW ca g (z_X8_pays_8 M i c))) fa_m_1 ?_
      refine j_aload_n C dX8_pays_149 rfl ?_
      refine j_get C f_X8_7.F 0 dX8_pays_150 mW_0 rfl ?_
      refine j_iload C dX8_pays_153 rfl ?_
      refine j_iconst C dX8_pays_155 (2 : Int32) (by decide) ?_
      refine j_callSiR C g_X8_55 (c_X8_ofClient l D ca (M 0 (r_X8_of i (1 : Int32)).toNatClampNeg) (2 : Int32)) ⟨Nat.le_of_ble_eq_true rfl, Nat.le_of_ble_eq_true rfl⟩ ⟨Nat.le_of_ble_eq_true rfl, Nat.le_of_ble_eq_true rfl⟩ [] rfl rfl rfl rfl (Nat.le_of_ble_eq_true rfl) dX8_pays_156 ?_
      refine j_dup2 C dX8_pays_159 rfl rfl ?_
      obtain ⟨hv, hq⟩ := hq
      refine j_iald C 1 dX8_pays_160 mW_1 hv ?_
      refine j_aload_n C dX8_pays_161 rfl ?_
      refine j_iload_n C dX8_pays_162 rfl ?_
      refine j_iconst C dX8_pays_163 (0 : Int32) (by decide) ?_
      obtain ⟨hv, hq⟩ := hq
      refine j_callViRW C g_X8_65 (c_X8_late l D ca g (z_X8_pays_8 M i c) i (0 : Int32) hv) 0 mW_0 hcl_X8 ⟨Nat.le_of_ble_eq_true rfl, Nat.le_of_ble_eq_true rfl⟩ ⟨Nat.le_of_ble_eq_true rfl, Nat.le_of_ble_eq_true rfl⟩ rfl rfl (Nat.le_of_ble_eq_true rfl) dX8_pays_164 ?_
      refine j_iadd C dX8_pays_167 ?_
      obtain ⟨hv, hq⟩ := hq
      refine j_iast C 1 dX8_pays_168 mW_1 hv ?_
      refine j_ws (ws' := (mW ca g (z_X8_pays_9 M i c))) fa_m_1 ?_
      refine j_aload_n C dX8_pays_169 rfl ?_
      refine j_get C f_X8_7.F 0 dX8_pays_170 mW_0 rfl ?_
      refine j_iload_n C dX8_pays_173 rfl ?_
      refine j_iconst C dX8_pays_174 (2 : Int32) (by decide) ?_
      refine j_callSiR C g_X8_59 (c_X8_of l D ca i (2 : Int32)) ⟨Nat.le_of_ble_eq_true rfl, Nat.le_of_ble_eq_true rfl⟩ ⟨Nat.le_of_ble_eq_true rfl, Nat.le_of_ble_eq_true rfl⟩ [] rfl rfl rfl rfl (Nat.le_of_ble_eq_true rfl) dX8_pays_175 ?_
      refine j_iald C 1 dX8_pays_178 mW_1 (vin_of hi (vin_c rfl)) ?_
      refine j_i2f C dX8_pays_179 ?_
      refine j_aload_n C dX8_pays_180 rfl ?_
      refine j_iconst C dX8_pays_181 (2 : Int32) (by decide) ?_
      obtain ⟨hv, hq⟩ := hq
      refine j_callVfRW C g_X8_62 (c_X8_rateOf l D ca g (z_X8_pays_9 M i c) (2 : Int32) hv) 0 mW_0 hcl_X8 ⟨Nat.le_of_ble_eq_true rfl, Nat.le_of_ble_eq_true rfl⟩ ⟨Nat.le_of_ble_eq_true rfl, Nat.le_of_ble_eq_true rfl⟩ rfl rfl (Nat.le_of_ble_eq_true rfl) dX8_pays_182 ?_
      obtain ⟨hv, hq⟩ := hq
      refine j_fmul C dX8_pays_185 hv ?_
      refine j_f2i C dX8_pays_186 ?_
      refine j_istore C [(7, _), (6, _), (5, _), (4, _), (3, _), (0, _), (1, _), (2, _)] dX8_pays_187 (by decide) rfl ?_
      refine j_aload_n C dX8_pays_189 rfl ?_
      refine j_get C f_X8_7.F 0 dX8_pays_190 mW_0 rfl ?_
      refine j_iload_n C dX8_pays_193 rfl ?_
      refine j_iconst C dX8_pays_194 (2 : Int32) (by decide) ?_
      refine j_callSiR C g_X8_59 (c_X8_of l D ca i (2 : Int32)) ⟨Nat.le_of_ble_eq_true rfl, Nat.le_of_ble_eq_true rfl⟩ ⟨Nat.le_of_ble_eq_true rfl, Nat.le_of_ble_eq_true rfl⟩ [] rfl rfl rfl rfl (Nat.le_of_ble_eq_true rfl) dX8_pays_195 ?_
      refine j_iald C 1 dX8_pays_198 mW_1 (vin_of hi (vin_c rfl)) ?_
      refine j_aload_n C dX8_pays_199 rfl ?_
      refine j_get C f_X8_7.F 0 dX8_pays_200 mW_0 rfl ?_
      refine j_iload_n C dX8_pays_203 rfl ?_
      refine j_bipush C dX8_pays_204 (6 : Int32) (by decide) ?_
      refine j_callSiR C g_X8_59 (c_X8_of l D ca i (6 : Int32)) ⟨Nat.le_of_ble_eq_true rfl, Nat.le_of_ble_eq_true rfl⟩ ⟨Nat.le_of_ble_eq_true rfl, Nat.le_of_ble_eq_true rfl⟩ [] rfl rfl rfl rfl (Nat.le_of_ble_eq_true rfl) dX8_pays_206 ?_
      refine j_iald C 1 dX8_pays_209 mW_1 (vin_of hi (vin_c rfl)) ?_
      refine j_isub C dX8_pays_210 ?_
      refine j_iload C dX8_pays_211 rfl ?_
      refine j_isub C dX8_pays_213 ?_
      refine j_istore C [(8, _), (7, _), (6, _), (5, _), (4, _), (3, _), (0, _), (1, _), (2, _)] dX8_pays_214 (by decide) rfl ?_
      refine j_iload C dX8_pays_216 rfl ?_
      refine j_if_eq (tgt := 260) C dX8_pays_218 (by decide) (fun h => absurd h (by decide)) (fun _ => ?_)
      refine j_iload C dX8_pays_221 rfl ?_
      refine j_if_le (tgt := 260) C dX8_pays_223 (by decide) (fun (h223 : ((((z_X8_pays_9 M i c) 0 (r_X8_of i (2 : Int32)).toNatClampNeg) - ((z_X8_pays_9 M i c) 0 (r_X8_of i (6 : Int32)).toNatClampNeg)) - (FP.f2i (FP.fmul (FP.i2f ((z_X8_pays_9 M i c) 0 (r_X8_of i (2 : Int32)).toNatClampNeg)) (r_X8_rateOf (z_X8_pays_9 M i c) (2 : Int32))))) ≤ (0 : Int32)) => ?_) (fun (h223 : ¬ (((((z_X8_pays_9 M i c) 0 (r_X8_of i (2 : Int32)).toNatClampNeg) - ((z_X8_pays_9 M i c) 0 (r_X8_of i (6 : Int32)).toNatClampNeg)) - (FP.f2i (FP.fmul (FP.i2f ((z_X8_pays_9 M i c) 0 (r_X8_of i (2 : Int32)).toNatClampNeg)) (r_X8_rateOf (z_X8_pays_9 M i c) (2 : Int32))))) ≤ (0 : Int32))) => ?_)
      · have hq := hq.1 h223
        refine j_iconst C dX8_pays_260 (0 : Int32) (by decide) ?_
        have e9 : r_X8_pays M i c = ((0 : Int32), (z_X8_pays_9 M i c)) := by rw [r_X8_pays, if_pos h26, if_pos h117, if_pos h223]
        exact j_iret E dX8_pays_261 (jD_i e9 (mW ca g))
      · have hq := hq.2 h223
        refine j_aload_n C dX8_pays_226 rfl ?_
        refine j_get C f_X8_7.F 0 dX8_pays_227 mW_0 rfl ?_
        refine j_iconst C dX8_pays_230 (1 : Int32) (by decide) ?_
        refine j_dup2 C dX8_pays_231 rfl rfl ?_
        refine j_iald C 1 dX8_pays_232 mW_1 (vin_c rfl) ?_
        refine j_iload C dX8_pays_233 rfl ?_
        refine j_isub C dX8_pays_235 ?_
        refine j_iast C 1 dX8_pays_236 mW_1 (vin_c rfl) ?_
        refine j_ws (ws' := (mW ca g (z_X8_pays_10 M i c))) fa_m_1 ?_
        refine j_aload_n C dX8_pays_237 rfl ?_
        refine j_get C f_X8_7.F 0 dX8_pays_238 mW_0 rfl ?_
        refine j_iload_n C dX8_pays_241 rfl ?_
        refine j_dup2 C dX8_pays_242 rfl rfl ?_
        obtain ⟨hv, hq⟩ := hq
        refine j_iald C 1 dX8_pays_243 mW_1 hv ?_
        refine j_iload C dX8_pays_244 rfl ?_
        refine j_iadd C dX8_pays_246 ?_
        obtain ⟨hv, hq⟩ := hq
        refine j_iast C 1 dX8_pays_247 mW_1 hv ?_
        refine j_ws (ws' := (mW ca g (z_X8_pays_11 M i c))) fa_m_1 ?_
        refine j_aload_n C dX8_pays_248 rfl ?_
        refine j_get C f_X8_7.F 0 dX8_pays_249 mW_0 rfl ?_
        refine j_bipush C dX8_pays_252 (12 : Int32) (by decide) ?_
        refine j_dup2 C dX8_pays_254 rfl rfl ?_
        refine j_iald C 1 dX8_pays_255 mW_1 (vin_c rfl) ?_
        refine j_iload C dX8_pays_256 rfl ?_
        refine j_iadd C dX8_pays_258 ?_
        refine j_iast C 1 dX8_pays_259 mW_1 (vin_c rfl) ?_
        refine j_ws (ws' := (mW ca g (z_X8_pays_12 M i c))) fa_m_1 ?_
        refine j_iconst C dX8_pays_260 (0 : Int32) (by decide) ?_
        have e9 : r_X8_pays M i c = ((0 : Int32), (z_X8_pays_12 M i c)) := by rw [r_X8_pays, if_pos h26, if_pos h117, if_neg h223]
        exact j_iret E dX8_pays_261 (jD_i e9 (mW ca g))
    · have hq := hq.2 h117
      refine j_iload C dX8_pays_120 rfl ?_
      have e9 : r_X8_pays M i c = ((((z_X8_pays_6 M i c) 0 (r_X8_of i (2 : Int32)).toNatClampNeg) - ((z_X8_pays_6 M i c) 0 (r_X8_of i (5 : Int32)).toNatClampNeg)), (z_X8_pays_6 M i c)) := by rw [r_X8_pays, if_pos h26, if_neg h117]
      exact j_iret E dX8_pays_122 (jD_i e9 (mW ca g))
