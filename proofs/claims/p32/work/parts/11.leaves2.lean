

def r_X7_noNumber : UInt32 := (2143289344 : UInt32)
set_option maxRecDepth 100000 in
set_option maxHeartbeats 4000000 in
theorem c_X7_noNumber (l : Launch) (D : va_G) (ca : Nat → ClassId) : jM l D ca yX7_noNumber cX7_noNumber 0 (Option.some FieldType.float) 0 0 0 0 [] [] (jD (some (.float (r_X7_noNumber))) []) := by
  refine jM_of [] (by decide) (Nat.le_of_ble_eq_true rfl) rfl (fun X C E => ?_)
  refine j_ldcwf C q_317 dX7_noNumber_0 ?_
  have e9 : r_X7_noNumber = (2143289344 : UInt32) := by rw [r_X7_noNumber]
  exact j_fret E dX7_noNumber_3 (by rw [e9]; exact ⟨rfl, rfl⟩)


def L_X7_floatOf_40 (b : Int32) : Nat → UInt32 → Int32 → UInt32
  | 0, _, _ => 0
  | n40 + 1, x40_4, x40_5 => (if (150 : Int32) ≤ x40_5 then x40_4 else L_X7_floatOf_40 b n40 (FP.fmul x40_4 (1056964608 : UInt32)) (x40_5 + (1 : Int32)))
def NL_X7_floatOf_40 (b : Int32) : Nat → UInt32 → Int32 → Prop
  | 0, _, _ => True
  | n40 + 1, x40_4, x40_5 => (((150 : Int32) ≤ x40_5 → True) ∧ (¬ ((150 : Int32) ≤ x40_5) → (vf_n32 (FP.fmul x40_4 (1056964608 : UInt32)) ∧ NL_X7_floatOf_40 b n40 (FP.fmul x40_4 (1056964608 : UInt32)) (x40_5 + (1 : Int32)))))
def r_X7_floatOf (b : Int32) : UInt32 := (if ((b).toUInt32 >>> (((23 : Int32)).toUInt32 &&& Int32.toUInt32 31)).toInt32 = (0 : Int32) then L_X7_floatOf_40 b (((150 : Int32).toInt - (1 : Int32).toInt).toNat + 1) (FP.i2f (b &&& (8388607 : Int32))) (1 : Int32) else L_X7_floatOf_40 b (((150 : Int32).toInt - (((b).toUInt32 >>> (((23 : Int32)).toUInt32 &&& Int32.toUInt32 31)).toInt32).toInt).toNat + 1) (FP.i2f ((b &&& (8388607 : Int32)) ||| (8388608 : Int32))) (((b).toUInt32 >>> (((23 : Int32)).toUInt32 &&& Int32.toUInt32 31)).toInt32))
def n_X7_floatOf (b : Int32) : Prop := ((((b).toUInt32 >>> (((23 : Int32)).toUInt32 &&& Int32.toUInt32 31)).toInt32 = (0 : Int32) → NL_X7_floatOf_40 b (((150 : Int32).toInt - (1 : Int32).toInt).toNat + 1) (FP.i2f (b &&& (8388607 : Int32))) (1 : Int32)) ∧ (¬ (((b).toUInt32 >>> (((23 : Int32)).toUInt32 &&& Int32.toUInt32 31)).toInt32 = (0 : Int32)) → NL_X7_floatOf_40 b (((150 : Int32).toInt - (((b).toUInt32 >>> (((23 : Int32)).toUInt32 &&& Int32.toUInt32 31)).toInt32).toInt).toNat + 1) (FP.i2f ((b &&& (8388607 : Int32)) ||| (8388608 : Int32))) (((b).toUInt32 >>> (((23 : Int32)).toUInt32 &&& Int32.toUInt32 31)).toInt32)))
set_option maxRecDepth 100000 in
set_option maxHeartbeats 4000000 in
theorem c_X7_floatOf (l : Launch) (D : va_G) (ca : Nat → ClassId) (b : Int32) (hq : n_X7_floatOf b) : jM l D ca yX7_floatOf cX7_floatOf 6 (Option.some FieldType.float) 0 0 0 0 [.int b] [] (jD (some (.float (r_X7_floatOf b))) []) := by
  refine jM_of [(0, .int b)] (by decide) (Nat.le_of_ble_eq_true rfl) rfl (fun X C E => ?_)
  rw [n_X7_floatOf] at hq
  refine j_iload_n C dX7_floatOf_0 rfl ?_
  refine j_bipush C dX7_floatOf_1 (23 : Int32) (by decide) ?_
  refine j_iushr C dX7_floatOf_3 ?_
  refine j_istore_n C [(1, _), (0, _)] dX7_floatOf_4 (by decide) rfl ?_
  refine j_iload_n C dX7_floatOf_5 rfl ?_
  refine j_ldcw C q_481 dX7_floatOf_6 ?_
  refine j_iand C dX7_floatOf_9 ?_
  refine j_istore_n C [(2, _), (1, _), (0, _)] dX7_floatOf_10 (by decide) rfl ?_
  refine j_iload_n C dX7_floatOf_11 rfl ?_
  refine j_if_ne (tgt := 19) C dX7_floatOf_12 (by decide) (fun (h12 : ¬ (((b).toUInt32 >>> (((23 : Int32)).toUInt32 &&& Int32.toUInt32 31)).toInt32 = (0 : Int32))) => ?_) (fun (h12 : ((b).toUInt32 >>> (((23 : Int32)).toUInt32 &&& Int32.toUInt32 31)).toInt32 = (0 : Int32)) => ?_)
  · have hq := hq.2 h12
    refine j_iload_n C dX7_floatOf_19 rfl ?_
    refine j_istore_n C [(3, _), (2, _), (1, _), (0, _)] dX7_floatOf_20 (by decide) rfl ?_
    refine j_iload_n C dX7_floatOf_21 rfl ?_
    refine j_if_ne (tgt := 29) C dX7_floatOf_22 (by decide) (fun _ => ?_) (fun h => absurd h h12)
    refine j_iload_n C dX7_floatOf_29 rfl ?_
    refine j_ldcw C q_482 dX7_floatOf_30 ?_
    refine j_ior C dX7_floatOf_33 ?_
    refine j_i2f C dX7_floatOf_34 ?_
    refine j_fstore C [(4, _), (3, _), (2, _), (1, _), (0, _)] dX7_floatOf_35 (by decide) rfl ?_
    refine j_iload_n C dX7_floatOf_37 rfl ?_
    refine j_istore C [(5, _), (4, _), (3, _), (2, _), (1, _), (0, _)] dX7_floatOf_38 (by decide) rfl ?_
    have K40 : ∀ (n40 : Nat) (x40_4 : UInt32) (x40_5 : Int32), ((150 : Int32).toInt - x40_5.toInt).toNat < n40 → NL_X7_floatOf_40 b n40 x40_4 x40_5 → r_X7_floatOf b = L_X7_floatOf_40 b n40 x40_4 x40_5 → J l { frames := 0, cells := 0, slots := 0, locals := 0 } D 6 X 0 0 [] [(0, .int b), (1, .int (((b).toUInt32 >>> (((23 : Int32)).toUInt32 &&& Int32.toUInt32 31)).toInt32)), (2, .int (b &&& (8388607 : Int32))), (3, .int (((b).toUInt32 >>> (((23 : Int32)).toUInt32 &&& Int32.toUInt32 31)).toInt32)), (4, .float x40_4), (5, .int x40_5)] [] 40 := by
      intro n40
      induction n40 with
      | zero =>
        intro x40_4 x40_5 hm40
        exact absurd hm40 (Nat.not_lt_zero _)
      | succ n40 ih40 =>
        intro x40_4 x40_5 hm40 hq hr40
        rw [NL_X7_floatOf_40] at hq
        refine j_iload C dX7_floatOf_40 rfl ?_
        refine j_sipush C dX7_floatOf_42 (150 : Int32) (by decide) ?_
        refine j_icmp_ge (tgt := 62) C dX7_floatOf_45 (by decide) (fun (h45 : (150 : Int32) ≤ x40_5) => ?_) (fun (h45 : ¬ ((150 : Int32) ≤ x40_5)) => ?_)
        · have hq := hq.1 h45
          refine j_fload C dX7_floatOf_62 rfl ?_
          have e9 : r_X7_floatOf b = x40_4 := by rw [hr40, L_X7_floatOf_40, if_pos h45]
          exact j_fret E dX7_floatOf_64 (by rw [e9]; exact ⟨rfl, rfl⟩)
        · have hq := hq.2 h45
          refine j_fload C dX7_floatOf_48 rfl ?_
          refine j_ldcwf C q_483 dX7_floatOf_50 ?_
          obtain ⟨hv, hq⟩ := hq
          refine j_fmul C dX7_floatOf_53 hv ?_
          refine j_fstore C [(4, _), (0, _), (1, _), (2, _), (3, _), (5, _)] dX7_floatOf_54 (by decide) rfl ?_
          refine j_iinc C [(5, _), (4, _), (0, _), (1, _), (2, _), (3, _)] (v := (x40_5 + (1 : Int32))) dX7_floatOf_56 rfl (iinc_1 _) (by decide) rfl ?_
          refine j_goto (tgt := 40) C dX7_floatOf_59 (by decide) ?_
          refine j_lv [(0, .int b), (1, .int (((b).toUInt32 >>> (((23 : Int32)).toUInt32 &&& Int32.toUInt32 31)).toInt32)), (2, .int (b &&& (8388607 : Int32))), (3, .int (((b).toUInt32 >>> (((23 : Int32)).toUInt32 &&& Int32.toUInt32 31)).toInt32)), (4, .float (FP.fmul x40_4 (1056964608 : UInt32))), (5, .int (x40_5 + (1 : Int32)))] rfl ?_
          exact ih40 (FP.fmul x40_4 (1056964608 : UInt32)) (x40_5 + (1 : Int32)) (jms h45 hm40) hq (by rw [hr40, L_X7_floatOf_40, if_neg h45])
    refine j_lv [(0, .int b), (1, .int (((b).toUInt32 >>> (((23 : Int32)).toUInt32 &&& Int32.toUInt32 31)).toInt32)), (2, .int (b &&& (8388607 : Int32))), (3, .int (((b).toUInt32 >>> (((23 : Int32)).toUInt32 &&& Int32.toUInt32 31)).toInt32)), (4, .float (FP.i2f ((b &&& (8388607 : Int32)) ||| (8388608 : Int32)))), (5, .int (((b).toUInt32 >>> (((23 : Int32)).toUInt32 &&& Int32.toUInt32 31)).toInt32))] rfl ?_
    exact K40 (((150 : Int32).toInt - (((b).toUInt32 >>> (((23 : Int32)).toUInt32 &&& Int32.toUInt32 31)).toInt32).toInt).toNat + 1) (FP.i2f ((b &&& (8388607 : Int32)) ||| (8388608 : Int32))) (((b).toUInt32 >>> (((23 : Int32)).toUInt32 &&& Int32.toUInt32 31)).toInt32) (Nat.lt_succ_self _) hq (by rw [r_X7_floatOf, if_neg h12])
  · have hq := hq.1 h12
    refine j_iconst C dX7_floatOf_15 (1 : Int32) (by decide) ?_
    refine j_goto (tgt := 20) C dX7_floatOf_16 (by decide) ?_
    refine j_istore_n C [(3, _), (2, _), (1, _), (0, _)] dX7_floatOf_20 (by decide) rfl ?_
    refine j_iload_n C dX7_floatOf_21 rfl ?_
    refine j_if_ne (tgt := 29) C dX7_floatOf_22 (by decide) (fun h => absurd h12 h) (fun _ => ?_)
    refine j_iload_n C dX7_floatOf_25 rfl ?_
    refine j_goto (tgt := 34) C dX7_floatOf_26 (by decide) ?_
    refine j_i2f C dX7_floatOf_34 ?_
    refine j_fstore C [(4, _), (3, _), (2, _), (1, _), (0, _)] dX7_floatOf_35 (by decide) rfl ?_
    refine j_iload_n C dX7_floatOf_37 rfl ?_
    refine j_istore C [(5, _), (4, _), (3, _), (2, _), (1, _), (0, _)] dX7_floatOf_38 (by decide) rfl ?_
    have K40 : ∀ (n40 : Nat) (x40_4 : UInt32) (x40_5 : Int32), ((150 : Int32).toInt - x40_5.toInt).toNat < n40 → NL_X7_floatOf_40 b n40 x40_4 x40_5 → r_X7_floatOf b = L_X7_floatOf_40 b n40 x40_4 x40_5 → J l { frames := 0, cells := 0, slots := 0, locals := 0 } D 6 X 0 0 [] [(0, .int b), (1, .int (((b).toUInt32 >>> (((23 : Int32)).toUInt32 &&& Int32.toUInt32 31)).toInt32)), (2, .int (b &&& (8388607 : Int32))), (3, .int (1 : Int32)), (4, .float x40_4), (5, .int x40_5)] [] 40 := by
      intro n40
      induction n40 with
      | zero =>
        intro x40_4 x40_5 hm40
        exact absurd hm40 (Nat.not_lt_zero _)
      | succ n40 ih40 =>
        intro x40_4 x40_5 hm40 hq hr40
        rw [NL_X7_floatOf_40] at hq
        refine j_iload C dX7_floatOf_40 rfl ?_
        refine j_sipush C dX7_floatOf_42 (150 : Int32) (by decide) ?_
        refine j_icmp_ge (tgt := 62) C dX7_floatOf_45 (by decide) (fun (h45 : (150 : Int32) ≤ x40_5) => ?_) (fun (h45 : ¬ ((150 : Int32) ≤ x40_5)) => ?_)
        · have hq := hq.1 h45
          refine j_fload C dX7_floatOf_62 rfl ?_
          have e9 : r_X7_floatOf b = x40_4 := by rw [hr40, L_X7_floatOf_40, if_pos h45]
          exact j_fret E dX7_floatOf_64 (by rw [e9]; exact ⟨rfl, rfl⟩)
        · have hq := hq.2 h45
          refine j_fload C dX7_floatOf_48 rfl ?_
          refine j_ldcwf C q_483 dX7_floatOf_50 ?_
          obtain ⟨hv, hq⟩ := hq
          refine j_fmul C dX7_floatOf_53 hv ?_
          refine j_fstore C [(4, _), (0, _), (1, _), (2, _), (3, _), (5, _)] dX7_floatOf_54 (by decide) rfl ?_
          refine j_iinc C [(5, _), (4, _), (0, _), (1, _), (2, _), (3, _)] (v := (x40_5 + (1 : Int32))) dX7_floatOf_56 rfl (iinc_1 _) (by decide) rfl ?_
          refine j_goto (tgt := 40) C dX7_floatOf_59 (by decide) ?_
          refine j_lv [(0, .int b), (1, .int (((b).toUInt32 >>> (((23 : Int32)).toUInt32 &&& Int32.toUInt32 31)).toInt32)), (2, .int (b &&& (8388607 : Int32))), (3, .int (1 : Int32)), (4, .float (FP.fmul x40_4 (1056964608 : UInt32))), (5, .int (x40_5 + (1 : Int32)))] rfl ?_
          exact ih40 (FP.fmul x40_4 (1056964608 : UInt32)) (x40_5 + (1 : Int32)) (jms h45 hm40) hq (by rw [hr40, L_X7_floatOf_40, if_neg h45])
    refine j_lv [(0, .int b), (1, .int (((b).toUInt32 >>> (((23 : Int32)).toUInt32 &&& Int32.toUInt32 31)).toInt32)), (2, .int (b &&& (8388607 : Int32))), (3, .int (1 : Int32)), (4, .float (FP.i2f (b &&& (8388607 : Int32)))), (5, .int (1 : Int32))] rfl ?_
    exact K40 (((150 : Int32).toInt - (1 : Int32).toInt).toNat + 1) (FP.i2f (b &&& (8388607 : Int32))) (1 : Int32) (Nat.lt_succ_self _) hq (by rw [r_X7_floatOf, if_pos h12])
set_option maxRecDepth 100000 in
set_option maxHeartbeats 4000000 in
theorem fa_iv_1 {ca : Nat → ClassId} {g : Nat → Nat} {B : jB} {i : Nat} {v : Int32} : (ivW ca g B).set 1 (g 13, .inl (ca 0, 20, .inl (upd (B 7) i v))) = ivW ca g (up2 B 7 i v) := rfl
set_option maxRecDepth 100000 in
set_option maxHeartbeats 4000000 in
theorem rd_2 {S : jB} {k0 : Nat} {v0 : Int32} : (up2 S 7 k0 v0) 16 1 = S 16 1 := rfl
set_option maxRecDepth 100000 in
set_option maxHeartbeats 4000000 in
theorem fa_iv_2 {ca : Nat → ClassId} {g : Nat → Nat} {B : jB} {i : Nat} {v : Int32} : (ivW ca g B).set 2 (g 14, .inl (ca 0, 20, .inl (upd (B 8) i v))) = ivW ca g (up2 B 8 i v) := rfl
set_option maxRecDepth 100000 in
set_option maxHeartbeats 4000000 in
theorem rd_3 {S : jB} {k1 : Nat} {v1 : Int32} {k0 : Nat} {v0 : Int32} : (up2 (up2 S 7 k1 v1) 8 k0 v0) 16 1 = S 16 1 := rfl
set_option maxRecDepth 100000 in
set_option maxHeartbeats 4000000 in
theorem fa_iv_3 {ca : Nat → ClassId} {g : Nat → Nat} {B : jB} {i : Nat} {v : Int32} : (ivW ca g B).set 3 (g 15, .inl (ca 0, 20, .inl (upd (B 9) i v))) = ivW ca g (up2 B 9 i v) := rfl
set_option maxRecDepth 100000 in
set_option maxHeartbeats 4000000 in
theorem rd_4 {S : jB} {k2 : Nat} {v2 : Int32} {k1 : Nat} {v1 : Int32} {k0 : Nat} {v0 : Int32} : (up2 (up2 (up2 S 7 k2 v2) 8 k1 v1) 9 k0 v0) 16 1 = S 16 1 := rfl
set_option maxRecDepth 100000 in
set_option maxHeartbeats 4000000 in
theorem fa_iv_4 {ca : Nat → ClassId} {g : Nat → Nat} {B : jB} {i : Nat} {v : Int32} : (ivW ca g B).set 4 (g 16, .inl (ca 0, 20, .inl (upd (B 10) i v))) = ivW ca g (up2 B 10 i v) := rfl
set_option maxRecDepth 100000 in
set_option maxHeartbeats 4000000 in
theorem rd_5 {S : jB} {k3 : Nat} {v3 : Int32} {k2 : Nat} {v2 : Int32} {k1 : Nat} {v1 : Int32} {k0 : Nat} {v0 : Int32} : (up2 (up2 (up2 (up2 S 7 k3 v3) 8 k2 v2) 9 k1 v1) 10 k0 v0) 16 1 = S 16 1 := rfl
set_option maxRecDepth 100000 in
set_option maxHeartbeats 4000000 in
theorem fa_iv_5 {ca : Nat → ClassId} {g : Nat → Nat} {B : jB} {i : Nat} {v : Int32} : (ivW ca g B).set 5 (g 17, .inl (ca 0, 20, .inl (upd (B 11) i v))) = ivW ca g (up2 B 11 i v) := rfl
set_option maxRecDepth 100000 in
set_option maxHeartbeats 4000000 in
theorem rd_6 {S : jB} {k4 : Nat} {v4 : Int32} {k3 : Nat} {v3 : Int32} {k2 : Nat} {v2 : Int32} {k1 : Nat} {v1 : Int32} {k0 : Nat} {v0 : Int32} : (up2 (up2 (up2 (up2 (up2 S 7 k4 v4) 8 k3 v3) 9 k2 v2) 10 k1 v1) 11 k0 v0) 16 1 = S 16 1 := rfl
set_option maxRecDepth 100000 in
set_option maxHeartbeats 4000000 in
theorem fa_iv_6 {ca : Nat → ClassId} {g : Nat → Nat} {B : jB} {i : Nat} {v : Int32} : (ivW ca g B).set 6 (g 18, .inl (ca 0, 20, .inl (upd (B 12) i v))) = ivW ca g (up2 B 12 i v) := rfl
set_option maxRecDepth 100000 in
set_option maxHeartbeats 4000000 in
theorem rd_7 {S : jB} {k5 : Nat} {v5 : Int32} {k4 : Nat} {v4 : Int32} {k3 : Nat} {v3 : Int32} {k2 : Nat} {v2 : Int32} {k1 : Nat} {v1 : Int32} {k0 : Nat} {v0 : Int32} : (up2 (up2 (up2 (up2 (up2 (up2 S 7 k5 v5) 8 k4 v4) 9 k3 v3) 10 k2 v2) 11 k1 v1) 12 k0 v0) 16 1 = S 16 1 := rfl
set_option maxRecDepth 100000 in
set_option maxHeartbeats 4000000 in
theorem fa_iv_7 {ca : Nat → ClassId} {g : Nat → Nat} {B : jB} {i : Nat} {v : Int32} : (ivW ca g B).set 7 (g 19, .inl (ca 0, 20, .inl (upd (B 13) i v))) = ivW ca g (up2 B 13 i v) := rfl
set_option maxRecDepth 100000 in
set_option maxHeartbeats 4000000 in
theorem rd_8 {S : jB} {k6 : Nat} {v6 : Int32} {k5 : Nat} {v5 : Int32} {k4 : Nat} {v4 : Int32} {k3 : Nat} {v3 : Int32} {k2 : Nat} {v2 : Int32} {k1 : Nat} {v1 : Int32} {k0 : Nat} {v0 : Int32} : (up2 (up2 (up2 (up2 (up2 (up2 (up2 S 7 k6 v6) 8 k5 v5) 9 k4 v4) 10 k3 v3) 11 k2 v2) 12 k1 v1) 13 k0 v0) 16 1 = S 16 1 := rfl
set_option maxRecDepth 100000 in
set_option maxHeartbeats 4000000 in
theorem fo_iv_0_7 {ca : Nat → ClassId} {g : Nat → Nat} {B : jB} {v : Int32} : (ivW ca g B).set 0 (g 3, .inr (3, [.ref (g 13), .ref (g 14), .ref (g 15), .ref (g 16), .ref (g 17), .ref (g 18), .ref (g 19), .int (B 16 1)].set 7 (.int v))) = ivW ca g (up2 B 16 1 v) := rfl
set_option maxRecDepth 100000 in
set_option maxHeartbeats 4000000 in
theorem rd_9 {S : jB} {v0 : Int32} : (up2 S 16 1 v0) 16 1 = v0 := rfl

def z_X3_append_0 (B : jB) (a : Int32) (b : Int32) : jB := (up2 (up2 B 7 ((B 16 1)).toNatClampNeg a) 8 ((B 16 1)).toNatClampNeg b)
def z_X3_append_1 (B : jB) (a : Int32) (b : Int32) (c : Int32) (d : Int32) : jB := (up2 (up2 (z_X3_append_0 B a b) 9 ((B 16 1)).toNatClampNeg c) 10 ((B 16 1)).toNatClampNeg d)
def z_X3_append_2 (B : jB) (a : Int32) (b : Int32) (c : Int32) (d : Int32) : jB := (up2 (z_X3_append_1 B a b c d) 11 ((B 16 1)).toNatClampNeg (0 : Int32))
def z_X3_append_3 (B : jB) (a : Int32) (b : Int32) (c : Int32) (d : Int32) : jB := (up2 (z_X3_append_2 B a b c d) 12 ((B 16 1)).toNatClampNeg (0 : Int32))
def z_X3_append_4 (B : jB) (a : Int32) (b : Int32) (c : Int32) (d : Int32) : jB := (up2 (z_X3_append_3 B a b c d) 13 ((B 16 1)).toNatClampNeg (0 : Int32))
def r_X3_append (B : jB) (a : Int32) (b : Int32) (c : Int32) (d : Int32) : Int32 × jB := (if (B 16 1) < (0 : Int32) then ((-3 : Int32), B) else (if (B 16 1) < (20 : Int32) then ((((B 16 1) + (1 : Int32)) - (1 : Int32)), (up2 (z_X3_append_4 B a b c d) 16 1 ((B 16 1) + (1 : Int32)))) else ((-3 : Int32), B)))
set_option maxRecDepth 100000 in
set_option maxHeartbeats 4000000 in
theorem c_X3_append (l : Launch) (D : va_G) (ca : Nat → ClassId) (g : Nat → Nat) (B : jB) (a : Int32) (b : Int32) (c : Int32) (d : Int32) : jM l D ca yX3_append cX3_append 5 (some .int) 0 0 0 0 [.ref (g 3), .int a, .int b, .int c, .int d] (ivW ca g B) (jD (some (.int (r_X3_append B a b c d).1)) (ivW ca g ((r_X3_append B a b c d).2))) := by
  refine jM_of [(0, .ref (g 3)), (1, .int a), (2, .int b), (3, .int c), (4, .int d)] (by decide) (Nat.le_of_ble_eq_true rfl) rfl (fun X C E => ?_)
  refine j_aload_n C dX3_append_0 rfl ?_
  refine j_get C f_X3_33.F 0 dX3_append_1 ivW_0 rfl ?_
  refine j_if_lt (tgt := 16) C dX3_append_4 (by decide) (fun (h4 : (B 16 1) < (0 : Int32)) => ?_) (fun (h4 : ¬ ((B 16 1) < (0 : Int32))) => ?_)
  · refine j_bipush C dX3_append_16 (-3 : Int32) (by decide) ?_
    have e9 : r_X3_append B a b c d = ((-3 : Int32), B) := by rw [r_X3_append, if_pos h4]
    exact j_iret E dX3_append_18 (jD_i e9 (ivW ca g))
  · refine j_aload_n C dX3_append_7 rfl ?_
    refine j_get C f_X3_33.F 0 dX3_append_8 ivW_0 rfl ?_
    refine j_bipush C dX3_append_11 (20 : Int32) (by decide) ?_
    refine j_icmp_lt (tgt := 19) C dX3_append_13 (by decide) (fun (h13 : (B 16 1) < (20 : Int32)) => ?_) (fun (h13 : ¬ ((B 16 1) < (20 : Int32))) => ?_)
    · refine j_aload_n C dX3_append_19 rfl ?_
      refine j_get C f_X3_9.F 0 dX3_append_20 ivW_0 rfl ?_
      refine j_aload_n C dX3_append_23 rfl ?_
      refine j_get C f_X3_33.F 0 dX3_append_24 ivW_0 rfl ?_
      refine j_iload_n C dX3_append_27 rfl ?_
      refine j_iast C 1 dX3_append_28 ivW_1 (vin_lt 20 rfl (Int32.not_lt.mp h4) h13) ?_
      refine j_ws (ws' := (ivW ca g (up2 B 7 ((B 16 1)).toNatClampNeg a))) fa_iv_1 ?_
      refine j_aload_n C dX3_append_29 rfl ?_
      refine j_get C f_X3_15.F 0 dX3_append_30 ivW_0 rfl ?_
      refine j_aload_n C dX3_append_33 rfl ?_
      refine j_get C f_X3_33.F 0 dX3_append_34 ivW_0 rfl ?_
      refine j_sti rd_2 ?_
      refine j_iload_n C dX3_append_37 rfl ?_
      refine j_iast C 2 dX3_append_38 ivW_2 (vin_lt 20 rfl (Int32.not_lt.mp h4) h13) ?_
      refine j_ws (ws' := (ivW ca g (z_X3_append_0 B a b))) fa_iv_2 ?_
      refine j_aload_n C dX3_append_39 rfl ?_
      refine j_get C f_X3_18.F 0 dX3_append_40 ivW_0 rfl ?_
      refine j_aload_n C dX3_append_43 rfl ?_
      refine j_get C f_X3_33.F 0 dX3_append_44 ivW_0 rfl ?_
      refine j_sti rd_3 ?_
      refine j_iload_n C dX3_append_47 rfl ?_
      refine j_iast C 3 dX3_append_48 ivW_3 (vin_lt 20 rfl (Int32.not_lt.mp h4) h13) ?_
      refine j_ws (ws' := (ivW ca g (up2 (z_X3_append_0 B a b) 9 ((B 16 1)).toNatClampNeg c))) fa_iv_3 ?_
      refine j_aload_n C dX3_append_49 rfl ?_
      refine j_get C f_X3_21.F 0 dX3_append_50 ivW_0 rfl ?_
      refine j_aload_n C dX3_append_53 rfl ?_
      refine j_get C f_X3_33.F 0 dX3_append_54 ivW_0 rfl ?_
      refine j_sti rd_4 ?_
      refine j_iload C dX3_append_57 rfl ?_
      refine j_iast C 4 dX3_append_59 ivW_4 (vin_lt 20 rfl (Int32.not_lt.mp h4) h13) ?_
      refine j_ws (ws' := (ivW ca g (z_X3_append_1 B a b c d))) fa_iv_4 ?_
      refine j_aload_n C dX3_append_60 rfl ?_
      refine j_get C f_X3_24.F 0 dX3_append_61 ivW_0 rfl ?_
      refine j_aload_n C dX3_append_64 rfl ?_
      refine j_get C f_X3_33.F 0 dX3_append_65 ivW_0 rfl ?_
      refine j_sti rd_5 ?_
      refine j_iconst C dX3_append_68 (0 : Int32) (by decide) ?_
      refine j_iast C 5 dX3_append_69 ivW_5 (vin_lt 20 rfl (Int32.not_lt.mp h4) h13) ?_
      refine j_ws (ws' := (ivW ca g (z_X3_append_2 B a b c d))) fa_iv_5 ?_
      refine j_aload_n C dX3_append_70 rfl ?_
      refine j_get C f_X3_27.F 0 dX3_append_71 ivW_0 rfl ?_
      refine j_aload_n C dX3_append_74 rfl ?_
      refine j_get C f_X3_33.F 0 dX3_append_75 ivW_0 rfl ?_
      refine j_sti rd_6 ?_
      refine j_iconst C dX3_append_78 (0 : Int32) (by decide) ?_
      refine j_iast C 6 dX3_append_79 ivW_6 (vin_lt 20 rfl (Int32.not_lt.mp h4) h13) ?_
      refine j_ws (ws' := (ivW ca g (z_X3_append_3 B a b c d))) fa_iv_6 ?_
      refine j_aload_n C dX3_append_80 rfl ?_
      refine j_get C f_X3_30.F 0 dX3_append_81 ivW_0 rfl ?_
      refine j_aload_n C dX3_append_84 rfl ?_
      refine j_get C f_X3_33.F 0 dX3_append_85 ivW_0 rfl ?_
      refine j_sti rd_7 ?_
      refine j_iconst C dX3_append_88 (0 : Int32) (by decide) ?_
      refine j_iast C 7 dX3_append_89 ivW_7 (vin_lt 20 rfl (Int32.not_lt.mp h4) h13) ?_
      refine j_ws (ws' := (ivW ca g (z_X3_append_4 B a b c d))) fa_iv_7 ?_
      refine j_aload_n C dX3_append_90 rfl ?_
      refine j_dup C dX3_append_91 rfl ?_
      refine j_get C f_X3_33.F 0 dX3_append_92 ivW_0 rfl ?_
      refine j_sti rd_8 ?_
      refine j_iconst C dX3_append_95 (1 : Int32) (by decide) ?_
      refine j_iadd C dX3_append_96 ?_
      refine j_put C f_X3_33 0 dX3_append_97 ivW_0 (Nat.le_of_ble_eq_true rfl) rfl rfl ?_
      refine j_ws (ws' := (ivW ca g (up2 (z_X3_append_4 B a b c d) 16 1 ((B 16 1) + (1 : Int32))))) fo_iv_0_7 ?_
      refine j_aload_n C dX3_append_100 rfl ?_
      refine j_get C f_X3_33.F 0 dX3_append_101 ivW_0 rfl ?_
      refine j_sti rd_9 ?_
      refine j_iconst C dX3_append_104 (1 : Int32) (by decide) ?_
      refine j_isub C dX3_append_105 ?_
      have e9 : r_X3_append B a b c d = ((((B 16 1) + (1 : Int32)) - (1 : Int32)), (up2 (z_X3_append_4 B a b c d) 16 1 ((B 16 1) + (1 : Int32)))) := by rw [r_X3_append, if_neg h4, if_pos h13]
      exact j_iret E dX3_append_106 (jD_i e9 (ivW ca g))
    · refine j_bipush C dX3_append_16 (-3 : Int32) (by decide) ?_
      have e9 : r_X3_append B a b c d = ((-3 : Int32), B) := by rw [r_X3_append, if_neg h4, if_neg h13]
      exact j_iret E dX3_append_18 (jD_i e9 (ivW ca g))
set_option maxRecDepth 100000 in
set_option maxHeartbeats 4000000 in
theorem fa_mb_1 {ca : Nat → ClassId} {g : Nat → Nat} {B : jB} {i : Nat} {v : Int32} : (mbW ca g B).set 1 (g 6, .inl (ca 0, 8, .inl (upd (B 0) i v))) = mbW ca g (up2 B 0 i v) := rfl
set_option maxRecDepth 100000 in
set_option maxHeartbeats 4000000 in
theorem rd_10 {S : jB} {k0 : Nat} {v0 : Int32} : (up2 S 0 k0 v0) 16 0 = S 16 0 := rfl
set_option maxRecDepth 100000 in
set_option maxHeartbeats 4000000 in
theorem fa_mb_2 {ca : Nat → ClassId} {g : Nat → Nat} {B : jB} {i : Nat} {v : Int32} : (mbW ca g B).set 2 (g 7, .inl (ca 0, 8, .inl (upd (B 1) i v))) = mbW ca g (up2 B 1 i v) := rfl
set_option maxRecDepth 100000 in
set_option maxHeartbeats 4000000 in
theorem rd_11 {S : jB} {k1 : Nat} {v1 : Int32} {k0 : Nat} {v0 : Int32} : (up2 (up2 S 0 k1 v1) 1 k0 v0) 16 0 = S 16 0 := rfl
set_option maxRecDepth 100000 in
set_option maxHeartbeats 4000000 in
theorem rd_12 {S : jB} {k2 : Nat} {v2 : Int32} {k1 : Nat} {v1 : Int32} {k0 : Nat} {v0 : Int32} : (up2 (up2 (up2 S 0 k2 v2) 1 k1 v1) 2 k0 v0) 16 0 = S 16 0 := rfl
set_option maxRecDepth 100000 in
set_option maxHeartbeats 4000000 in
theorem rd_13 {S : jB} {k3 : Nat} {v3 : Int32} {k2 : Nat} {v2 : Int32} {k1 : Nat} {v1 : Int32} {k0 : Nat} {v0 : Int32} : (up2 (up2 (up2 (up2 S 0 k3 v3) 1 k2 v2) 2 k1 v1) 3 k0 v0) 16 0 = S 16 0 := rfl
set_option maxRecDepth 100000 in
set_option maxHeartbeats 4000000 in
theorem fo_mb_0_4 {ca : Nat → ClassId} {g : Nat → Nat} {B : jB} {v : Int32} : (mbW ca g B).set 0 (g 1, .inr (4, [.ref (g 6), .ref (g 7), .ref (g 8), .ref (g 9), .int (B 16 0)].set 4 (.int v))) = mbW ca g (up2 B 16 0 v) := rfl
set_option maxRecDepth 100000 in
set_option maxHeartbeats 4000000 in
theorem rd_14 {S : jB} {v0 : Int32} : (up2 S 16 0 v0) 16 0 = v0 := rfl

def z_X4_append_0 (B : jB) (a : Int32) : jB := (up2 (up2 B 0 ((B 16 0)).toNatClampNeg a) 1 ((B 16 0)).toNatClampNeg (0 : Int32))
def z_X4_append_1 (B : jB) (a : Int32) : jB := (up2 (up2 (z_X4_append_0 B a) 2 ((B 16 0)).toNatClampNeg (0 : Int32)) 3 ((B 16 0)).toNatClampNeg (0 : Int32))
def r_X4_append (B : jB) (a : Int32) : Int32 × jB := (if (B 16 0) < (0 : Int32) then ((-3 : Int32), B) else (if (B 16 0) < (8 : Int32) then ((((B 16 0) + (1 : Int32)) - (1 : Int32)), (up2 (z_X4_append_1 B a) 16 0 ((B 16 0) + (1 : Int32)))) else ((-3 : Int32), B)))
set_option maxRecDepth 100000 in
set_option maxHeartbeats 4000000 in
theorem c_X4_append (l : Launch) (D : va_G) (ca : Nat → ClassId) (g : Nat → Nat) (B : jB) (a : Int32) : jM l D ca yX4_append cX4_append 2 (some .int) 0 0 0 0 [.ref (g 1), .int a] (mbW ca g B) (jD (some (.int (r_X4_append B a).1)) (mbW ca g ((r_X4_append B a).2))) := by
  refine jM_of [(0, .ref (g 1)), (1, .int a)] (by decide) (Nat.le_of_ble_eq_true rfl) rfl (fun X C E => ?_)
  refine j_aload_n C dX4_append_0 rfl ?_
  refine j_get C f_X4_24.F 0 dX4_append_1 mbW_0 rfl ?_
  refine j_if_lt (tgt := 16) C dX4_append_4 (by decide) (fun (h4 : (B 16 0) < (0 : Int32)) => ?_) (fun (h4 : ¬ ((B 16 0) < (0 : Int32))) => ?_)
  · refine j_bipush C dX4_append_16 (-3 : Int32) (by decide) ?_
    have e9 : r_X4_append B a = ((-3 : Int32), B) := by rw [r_X4_append, if_pos h4]
    exact j_iret E dX4_append_18 (jD_i e9 (mbW ca g))
  · refine j_aload_n C dX4_append_7 rfl ?_
    refine j_get C f_X4_24.F 0 dX4_append_8 mbW_0 rfl ?_
    refine j_bipush C dX4_append_11 (8 : Int32) (by decide) ?_
    refine j_icmp_lt (tgt := 19) C dX4_append_13 (by decide) (fun (h13 : (B 16 0) < (8 : Int32)) => ?_) (fun (h13 : ¬ ((B 16 0) < (8 : Int32))) => ?_)
    · refine j_aload_n C dX4_append_19 rfl ?_
      refine j_get C f_X4_9.F 0 dX4_append_20 mbW_0 rfl ?_
      refine j_aload_n C dX4_append_23 rfl ?_
      refine j_get C f_X4_24.F 0 dX4_append_24 mbW_0 rfl ?_
      refine j_iload_n C dX4_append_27 rfl ?_
      refine j_iast C 1 dX4_append_28 mbW_1 (vin_lt 8 rfl (Int32.not_lt.mp h4) h13) ?_
      refine j_ws (ws' := (mbW ca g (up2 B 0 ((B 16 0)).toNatClampNeg a))) fa_mb_1 ?_
      refine j_aload_n C dX4_append_29 rfl ?_
      refine j_get C f_X4_15.F 0 dX4_append_30 mbW_0 rfl ?_
      refine j_aload_n C dX4_append_33 rfl ?_
      refine j_get C f_X4_24.F 0 dX4_append_34 mbW_0 rfl ?_
      refine j_sti rd_10 ?_
      refine j_iconst C dX4_append_37 (0 : Int32) (by decide) ?_
      refine j_iast C 2 dX4_append_38 mbW_2 (vin_lt 8 rfl (Int32.not_lt.mp h4) h13) ?_
      refine j_ws (ws' := (mbW ca g (z_X4_append_0 B a))) fa_mb_2 ?_
      refine j_aload_n C dX4_append_39 rfl ?_
      refine j_get C f_X4_18.F 0 dX4_append_40 mbW_0 rfl ?_
      refine j_aload_n C dX4_append_43 rfl ?_
      refine j_get C f_X4_24.F 0 dX4_append_44 mbW_0 rfl ?_
      refine j_sti rd_11 ?_
      refine j_iconst C dX4_append_47 (0 : Int32) (by decide) ?_
      refine j_iast C 3 dX4_append_48 mbW_3 (vin_lt 8 rfl (Int32.not_lt.mp h4) h13) ?_
      refine j_ws (ws' := (mbW ca g (up2 (z_X4_append_0 B a) 2 ((B 16 0)).toNatClampNeg (0 : Int32)))) fa_mb_3 ?_
      refine j_aload_n C dX4_append_49 rfl ?_
      refine j_get C f_X4_21.F 0 dX4_append_50 mbW_0 rfl ?_
      refine j_aload_n C dX4_append_53 rfl ?_
      refine j_get C f_X4_24.F 0 dX4_append_54 mbW_0 rfl ?_
      refine j_sti rd_12 ?_
      refine j_iconst C dX4_append_57 (0 : Int32) (by decide) ?_
      refine j_iast C 4 dX4_append_58 mbW_4 (vin_lt 8 rfl (Int32.not_lt.mp h4) h13) ?_
      refine j_ws (ws' := (mbW ca g (z_X4_append_1 B a))) fa_mb_4 ?_
      refine j_aload_n C dX4_append_59 rfl ?_
      refine j_dup C dX4_append_60 rfl ?_
      refine j_get C f_X4_24.F 0 dX4_append_61 mbW_0 rfl ?_
      refine j_sti rd_13 ?_
      refine j_iconst C dX4_append_64 (1 : Int32) (by decide) ?_
      refine j_iadd C dX4_append_65 ?_
      refine j_put C f_X4_24 0 dX4_append_66 mbW_0 (Nat.le_of_ble_eq_true rfl) rfl rfl ?_
      refine j_ws (ws' := (mbW ca g (up2 (z_X4_append_1 B a) 16 0 ((B 16 0) + (1 : Int32))))) fo_mb_0_4 ?_
      refine j_aload_n C dX4_append_69 rfl ?_
      refine j_get C f_X4_24.F 0 dX4_append_70 mbW_0 rfl ?_
      refine j_sti rd_14 ?_
      refine j_iconst C dX4_append_73 (1 : Int32) (by decide) ?_
      refine j_isub C dX4_append_74 ?_
      have e9 : r_X4_append B a = ((((B 16 0) + (1 : Int32)) - (1 : Int32)), (up2 (z_X4_append_1 B a) 16 0 ((B 16 0) + (1 : Int32)))) := by rw [r_X4_append, if_neg h4, if_pos h13]
      exact j_iret E dX4_append_75 (jD_i e9 (mbW ca g))
    · refine j_bipush C dX4_append_16 (-3 : Int32) (by decide) ?_
      have e9 : r_X4_append B a = ((-3 : Int32), B) := by rw [r_X4_append, if_neg h4, if_neg h13]
      exact j_iret E dX4_append_18 (jD_i e9 (mbW ca g))


def L_X4_allWeights_4 (B : jB) : Nat → Int32 → Int32 → Int32
  | 0, _, _ => 0
  | n4 + 1, x4_1, x4_2 => (if (8 : Int32) ≤ x4_2 then x4_1 else (if (r_X4_has B x4_2) = (0 : Int32) then L_X4_allWeights_4 B n4 x4_1 (x4_2 + (1 : Int32)) else L_X4_allWeights_4 B n4 (x4_1 + (B 0 x4_2.toNatClampNeg)) (x4_2 + (1 : Int32))))
def r_X4_allWeights (B : jB) : Int32 := L_X4_allWeights_4 B 9 (0 : Int32) (0 : Int32)
set_option maxRecDepth 100000 in
set_option maxHeartbeats 4000000 in
theorem c_X4_allWeights (l : Launch) (D : va_G) (ca : Nat → ClassId) (g : Nat → Nat) (B : jB) : jM l D ca yX4_allWeights cX4_allWeights 3 (some .int) 1 21 0 0 [.ref (g 1)] (mbW ca g B) (jD (some (.int (r_X4_allWeights B))) (mbW ca g B)) := by
  refine jM_of [(0, .ref (g 1))] (by decide) (Nat.le_of_ble_eq_true rfl) rfl (fun X C E => ?_)
  refine j_iconst C dX4_allWeights_0 (0 : Int32) (by decide) ?_
  refine j_istore_n C [(1, _), (0, _)] dX4_allWeights_1 (by decide) rfl ?_
  refine j_iconst C dX4_allWeights_2 (0 : Int32) (by decide) ?_
  refine j_istore_n C [(2, _), (1, _), (0, _)] dX4_allWeights_3 (by decide) rfl ?_
  have K4 : ∀ (n4 : Nat) (x4_1 : Int32) (x4_2 : Int32), ((8 : Int32).toInt - x4_2.toInt).toNat < n4 → r_X4_allWeights B = L_X4_allWeights_4 B n4 x4_1 x4_2 → J l { frames := 1, cells := 0, slots := 0, locals := 21 } D 3 X 0 0 (mbW ca g B) [(0, .ref (g 1)), (1, .int x4_1), (2, .int x4_2)] [] 4 := by
    intro n4
    induction n4 with
    | zero =>
      intro x4_1 x4_2 hm4
      exact absurd hm4 (Nat.not_lt_zero _)
    | succ n4 ih4 =>
      intro x4_1 x4_2 hm4 hr4
      refine j_iload_n C dX4_allWeights_4 rfl ?_
      refine j_bipush C dX4_allWeights_5 (8 : Int32) (by decide) ?_
      refine j_icmp_ge (tgt := 33) C dX4_allWeights_7 (by decide) (fun (h7 : (8 : Int32) ≤ x4_2) => ?_) (fun (h7 : ¬ ((8 : Int32) ≤ x4_2)) => ?_)
      · refine j_iload_n C dX4_allWeights_33 rfl ?_
        have e9 : r_X4_allWeights B = x4_1 := by rw [hr4, L_X4_allWeights_4, if_pos h7]
        exact j_iret E dX4_allWeights_34 (by rw [e9]; exact ⟨rfl, rfl⟩)
      · refine j_aload_n C dX4_allWeights_10 rfl ?_
        refine j_iload_n C dX4_allWeights_11 rfl ?_
        refine j_callViRW C g_X4_28 (c_X4_has l D ca g B x4_2) 0 mbW_0 hcl_X4 ⟨Nat.le_of_ble_eq_true rfl, Nat.le_of_ble_eq_true rfl⟩ ⟨Nat.le_of_ble_eq_true rfl, Nat.le_of_ble_eq_true rfl⟩ rfl rfl (Nat.le_of_ble_eq_true rfl) dX4_allWeights_12 ?_
        refine j_if_eq (tgt := 27) C dX4_allWeights_15 (by decide) (fun (h15 : (r_X4_has B x4_2) = (0 : Int32)) => ?_) (fun (h15 : ¬ ((r_X4_has B x4_2) = (0 : Int32))) => ?_)
        · refine j_iinc C [(2, _), (0, _), (1, _)] (v := (x4_2 + (1 : Int32))) dX4_allWeights_27 rfl (iinc_1 _) (by decide) rfl ?_
          refine j_goto (tgt := 4) C dX4_allWeights_30 (by decide) ?_
          refine j_lv [(0, .ref (g 1)), (1, .int x4_1), (2, .int (x4_2 + (1 : Int32)))] rfl ?_
          exact ih4 x4_1 (x4_2 + (1 : Int32)) (jms h7 hm4) (by rw [hr4, L_X4_allWeights_4, if_neg h7, if_pos h15])
        · refine j_iload_n C dX4_allWeights_18 rfl ?_
          refine j_aload_n C dX4_allWeights_19 rfl ?_
          refine j_get C f_X4_9.F 0 dX4_allWeights_20 mbW_0 rfl ?_
          refine j_iload_n C dX4_allWeights_23 rfl ?_
          refine j_iald C 1 dX4_allWeights_24 mbW_1 (has_X4 h15) ?_
          refine j_iadd C dX4_allWeights_25 ?_
          refine j_istore_n C [(1, _), (0, _), (2, _)] dX4_allWeights_26 (by decide) rfl ?_
          refine j_iinc C [(2, _), (1, _), (0, _)] (v := (x4_2 + (1 : Int32))) dX4_allWeights_27 rfl (iinc_1 _) (by decide) rfl ?_
          refine j_goto (tgt := 4) C dX4_allWeights_30 (by decide) ?_
          refine j_lv [(0, .ref (g 1)), (1, .int (x4_1 + (B 0 x4_2.toNatClampNeg))), (2, .int (x4_2 + (1 : Int32)))] rfl ?_
          exact ih4 (x4_1 + (B 0 x4_2.toNatClampNeg)) (x4_2 + (1 : Int32)) (jms h7 hm4) (by rw [hr4, L_X4_allWeights_4, if_neg h7, if_neg h15])
  refine j_lv [(0, .ref (g 1)), (1, .int (0 : Int32)), (2, .int (0 : Int32))] rfl ?_
  exact K4 9 (0 : Int32) (0 : Int32) (by decide) (by rw [r_X4_allWeights])


def L_X3_countOfMember_4 (B : jB) (a : Int32) : Nat → Int32 → Int32 → Int32
  | 0, _, _ => 0
  | n4 + 1, x4_2, x4_3 => (if (20 : Int32) ≤ x4_3 then x4_2 else (if (r_X3_has B x4_3) = (0 : Int32) then L_X3_countOfMember_4 B a n4 x4_2 (x4_3 + (1 : Int32)) else (if (B 7 x4_3.toNatClampNeg) = a then L_X3_countOfMember_4 B a n4 (x4_2 + (1 : Int32)) (x4_3 + (1 : Int32)) else L_X3_countOfMember_4 B a n4 x4_2 (x4_3 + (1 : Int32)))))
def r_X3_countOfMember (B : jB) (a : Int32) : Int32 := L_X3_countOfMember_4 B a 21 (0 : Int32) (0 : Int32)
set_option maxRecDepth 100000 in
set_option maxHeartbeats 4000000 in
theorem c_X3_countOfMember (l : Launch) (D : va_G) (ca : Nat → ClassId) (g : Nat → Nat) (B : jB) (a : Int32) : jM l D ca yX3_countOfMember cX3_countOfMember 4 (some .int) 1 21 0 0 [.ref (g 3), .int a] (ivW ca g B) (jD (some (.int (r_X3_countOfMember B a))) (ivW ca g B)) := by
  refine jM_of [(0, .ref (g 3)), (1, .int a)] (by decide) (Nat.le_of_ble_eq_true rfl) rfl (fun X C E => ?_)
  refine j_iconst C dX3_countOfMember_0 (0 : Int32) (by decide) ?_
  refine j_istore_n C [(2, _), (0, _), (1, _)] dX3_countOfMember_1 (by decide) rfl ?_
  refine j_iconst C dX3_countOfMember_2 (0 : Int32) (by decide) ?_
  refine j_istore_n C [(3, _), (2, _), (0, _), (1, _)] dX3_countOfMember_3 (by decide) rfl ?_
  have K4 : ∀ (n4 : Nat) (x4_2 : Int32) (x4_3 : Int32), ((20 : Int32).toInt - x4_3.toInt).toNat < n4 → r_X3_countOfMember B a = L_X3_countOfMember_4 B a n4 x4_2 x4_3 → J l { frames := 1, cells := 0, slots := 0, locals := 21 } D 4 X 0 0 (ivW ca g B) [(0, .ref (g 3)), (1, .int a), (2, .int x4_2), (3, .int x4_3)] [] 4 := by
    intro n4
    induction n4 with
    | zero =>
      intro x4_2 x4_3 hm4
      exact absurd hm4 (Nat.not_lt_zero _)
    | succ n4 ih4 =>
      intro x4_2 x4_3 hm4 hr4
      refine j_iload_n C dX3_countOfMember_4 rfl ?_
      refine j_bipush C dX3_countOfMember_5 (20 : Int32) (by decide) ?_
      refine j_icmp_ge (tgt := 37) C dX3_countOfMember_7 (by decide) (fun (h7 : (20 : Int32) ≤ x4_3) => ?_) (fun (h7 : ¬ ((20 : Int32) ≤ x4_3)) => ?_)
      · refine j_iload_n C dX3_countOfMember_37 rfl ?_
        have e9 : r_X3_countOfMember B a = x4_2 := by rw [hr4, L_X3_countOfMember_4, if_pos h7]
        exact j_iret E dX3_countOfMember_38 (by rw [e9]; exact ⟨rfl, rfl⟩)
      · refine j_aload_n C dX3_countOfMember_10 rfl ?_
        refine j_iload_n C dX3_countOfMember_11 rfl ?_
        refine j_callViRW C g_X3_37 (c_X3_has l D ca g B x4_3) 0 ivW_0 hcl_X3 ⟨Nat.le_of_ble_eq_true rfl, Nat.le_of_ble_eq_true rfl⟩ ⟨Nat.le_of_ble_eq_true rfl, Nat.le_of_ble_eq_true rfl⟩ rfl rfl (Nat.le_of_ble_eq_true rfl) dX3_countOfMember_12 ?_
        refine j_if_eq (tgt := 31) C dX3_countOfMember_15 (by decide) (fun (h15 : (r_X3_has B x4_3) = (0 : Int32)) => ?_) (fun (h15 : ¬ ((r_X3_has B x4_3) = (0 : Int32))) => ?_)
        · refine j_iinc C [(3, _), (0, _), (1, _), (2, _)] (v := (x4_3 + (1 : Int32))) dX3_countOfMember_31 rfl (iinc_1 _) (by decide) rfl ?_
          refine j_goto (tgt := 4) C dX3_countOfMember_34 (by decide) ?_
          refine j_lv [(0, .ref (g 3)), (1, .int a), (2, .int x4_2), (3, .int (x4_3 + (1 : Int32)))] rfl ?_
          exact ih4 x4_2 (x4_3 + (1 : Int32)) (jms h7 hm4) (by rw [hr4, L_X3_countOfMember_4, if_neg h7, if_pos h15])
        · refine j_aload_n C dX3_countOfMember_18 rfl ?_
          refine j_get C f_X3_9.F 0 dX3_countOfMember_19 ivW_0 rfl ?_
          refine j_iload_n C dX3_countOfMember_22 rfl ?_
          refine j_iald C 1 dX3_countOfMember_23 ivW_1 (has_X3 h15) ?_
          refine j_iload_n C dX3_countOfMember_24 rfl ?_
          refine j_icmp_ne (tgt := 31) C dX3_countOfMember_25 (by decide) (fun (h25 : ¬ ((B 7 x4_3.toNatClampNeg) = a)) => ?_) (fun (h25 : (B 7 x4_3.toNatClampNeg) = a) => ?_)
          · refine j_iinc C [(3, _), (0, _), (1, _), (2, _)] (v := (x4_3 + (1 : Int32))) dX3_countOfMember_31 rfl (iinc_1 _) (by decide) rfl ?_
            refine j_goto (tgt := 4) C dX3_countOfMember_34 (by decide) ?_
            refine j_lv [(0, .ref (g 3)), (1, .int a), (2, .int x4_2), (3, .int (x4_3 + (1 : Int32)))] rfl ?_
            exact ih4 x4_2 (x4_3 + (1 : Int32)) (jms h7 hm4) (by rw [hr4, L_X3_countOfMember_4, if_neg h7, if_neg h15, if_neg h25])
          · refine j_iinc C [(2, _), (0, _), (1, _), (3, _)] (v := (x4_2 + (1 : Int32))) dX3_countOfMember_28 rfl (iinc_1 _) (by decide) rfl ?_
            refine j_iinc C [(3, _), (2, _), (0, _), (1, _)] (v := (x4_3 + (1 : Int32))) dX3_countOfMember_31 rfl (iinc_1 _) (by decide) rfl ?_
            refine j_goto (tgt := 4) C dX3_countOfMember_34 (by decide) ?_
            refine j_lv [(0, .ref (g 3)), (1, .int a), (2, .int (x4_2 + (1 : Int32))), (3, .int (x4_3 + (1 : Int32)))] rfl ?_
            exact ih4 (x4_2 + (1 : Int32)) (x4_3 + (1 : Int32)) (jms h7 hm4) (by rw [hr4, L_X3_countOfMember_4, if_neg h7, if_neg h15, if_pos h25])
  refine j_lv [(0, .ref (g 3)), (1, .int a), (2, .int (0 : Int32)), (3, .int (0 : Int32))] rfl ?_
  exact K4 21 (0 : Int32) (0 : Int32) (by decide) (by rw [r_X3_countOfMember])


def L_X3_countOfMemberAhead_4 (B : jB) (a : Int32) : Nat → Int32 → Int32 → Int32
  | 0, _, _ => 0
  | n4 + 1, x4_2, x4_3 => (if (20 : Int32) ≤ x4_3 then x4_2 else (if (r_X3_has B x4_3) = (0 : Int32) then L_X3_countOfMemberAhead_4 B a n4 x4_2 (x4_3 + (1 : Int32)) else (if (B 7 x4_3.toNatClampNeg) = a then (if (B 11 x4_3.toNatClampNeg) = (1 : Int32) then L_X3_countOfMemberAhead_4 B a n4 (x4_2 + (1 : Int32)) (x4_3 + (1 : Int32)) else L_X3_countOfMemberAhead_4 B a n4 x4_2 (x4_3 + (1 : Int32))) else L_X3_countOfMemberAhead_4 B a n4 x4_2 (x4_3 + (1 : Int32)))))
def r_X3_countOfMemberAhead (B : jB) (a : Int32) : Int32 := L_X3_countOfMemberAhead_4 B a 21 (0 : Int32) (0 : Int32)
set_option maxRecDepth 100000 in
set_option maxHeartbeats 4000000 in
theorem c_X3_countOfMemberAhead (l : Launch) (D : va_G) (ca : Nat → ClassId) (g : Nat → Nat) (B : jB) (a : Int32) : jM l D ca yX3_countOfMemberAhead cX3_countOfMemberAhead 4 (some .int) 1 21 0 0 [.ref (g 3), .int a] (ivW ca g B) (jD (some (.int (r_X3_countOfMemberAhead B a))) (ivW ca g B)) := by
  refine jM_of [(0, .ref (g 3)), (1, .int a)] (by decide) (Nat.le_of_ble_eq_true rfl) rfl (fun X C E => ?_)
  refine j_iconst C dX3_countOfMemberAhead_0 (0 : Int32) (by decide) ?_
  refine j_istore_n C [(2, _), (0, _), (1, _)] dX3_countOfMemberAhead_1 (by decide) rfl ?_
  refine j_iconst C dX3_countOfMemberAhead_2 (0 : Int32) (by decide) ?_
  refine j_istore_n C [(3, _), (2, _), (0, _), (1, _)] dX3_countOfMemberAhead_3 (by decide) rfl ?_
  have K4 : ∀ (n4 : Nat) (x4_2 : Int32) (x4_3 : Int32), ((20 : Int32).toInt - x4_3.toInt).toNat < n4 → r_X3_countOfMemberAhead B a = L_X3_countOfMemberAhead_4 B a n4 x4_2 x4_3 → J l { frames := 1, cells := 0, slots := 0, locals := 21 } D 4 X 0 0 (ivW ca g B) [(0, .ref (g 3)), (1, .int a), (2, .int x4_2), (3, .int x4_3)] [] 4 := by
    intro n4
    induction n4 with
    | zero =>
      intro x4_2 x4_3 hm4
      exact absurd hm4 (Nat.not_lt_zero _)
    | succ n4 ih4 =>
      intro x4_2 x4_3 hm4 hr4
      refine j_iload_n C dX3_countOfMemberAhead_4 rfl ?_
      refine j_bipush C dX3_countOfMemberAhead_5 (20 : Int32) (by decide) ?_
      refine j_icmp_ge (tgt := 47) C dX3_countOfMemberAhead_7 (by decide) (fun (h7 : (20 : Int32) ≤ x4_3) => ?_) (fun (h7 : ¬ ((20 : Int32) ≤ x4_3)) => ?_)
      · refine j_iload_n C dX3_countOfMemberAhead_47 rfl ?_
        have e9 : r_X3_countOfMemberAhead B a = x4_2 := by rw [hr4, L_X3_countOfMemberAhead_4, if_pos h7]
        exact j_iret E dX3_countOfMemberAhead_48 (by rw [e9]; exact ⟨rfl, rfl⟩)
      · refine j_aload_n C dX3_countOfMemberAhead_10 rfl ?_
        refine j_iload_n C dX3_countOfMemberAhead_11 rfl ?_
        refine j_callViRW C g_X3_37 (c_X3_has l D ca g B x4_3) 0 ivW_0 hcl_X3 ⟨Nat.le_of_ble_eq_true rfl, Nat.le_of_ble_eq_true rfl⟩ ⟨Nat.le_of_ble_eq_true rfl, Nat.le_of_ble_eq_true rfl⟩ rfl rfl (Nat.le_of_ble_eq_true rfl) dX3_countOfMemberAhead_12 ?_
        refine j_if_eq (tgt := 41) C dX3_countOfMemberAhead_15 (by decide) (fun (h15 : (r_X3_has B x4_3) = (0 : Int32)) => ?_) (fun (h15 : ¬ ((r_X3_has B x4_3) = (0 : Int32))) => ?_)
        · refine j_iinc C [(3, _), (0, _), (1, _), (2, _)] (v := (x4_3 + (1 : Int32))) dX3_countOfMemberAhead_41 rfl (iinc_1 _) (by decide) rfl ?_
          refine j_goto (tgt := 4) C dX3_countOfMemberAhead_44 (by decide) ?_
          refine j_lv [(0, .ref (g 3)), (1, .int a), (2, .int x4_2), (3, .int (x4_3 + (1 : Int32)))] rfl ?_
          exact ih4 x4_2 (x4_3 + (1 : Int32)) (jms h7 hm4) (by rw [hr4, L_X3_countOfMemberAhead_4, if_neg h7, if_pos h15])
        · refine j_aload_n C dX3_countOfMemberAhead_18 rfl ?_
          refine j_get C f_X3_9.F 0 dX3_countOfMemberAhead_19 ivW_0 rfl ?_
          refine j_iload_n C dX3_countOfMemberAhead_22 rfl ?_
          refine j_iald C 1 dX3_countOfMemberAhead_23 ivW_1 (has_X3 h15) ?_
          refine j_iload_n C dX3_countOfMemberAhead_24 rfl ?_
          refine j_icmp_ne (tgt := 41) C dX3_countOfMemberAhead_25 (by decide) (fun (h25 : ¬ ((B 7 x4_3.toNatClampNeg) = a)) => ?_) (fun (h25 : (B 7 x4_3.toNatClampNeg) = a) => ?_)
          · refine j_iinc C [(3, _), (0, _), (1, _), (2, _)] (v := (x4_3 + (1 : Int32))) dX3_countOfMemberAhead_41 rfl (iinc_1 _) (by decide) rfl ?_
            refine j_goto (tgt := 4) C dX3_countOfMemberAhead_44 (by decide) ?_
            refine j_lv [(0, .ref (g 3)), (1, .int a), (2, .int x4_2), (3, .int (x4_3 + (1 : Int32)))] rfl ?_
            exact ih4 x4_2 (x4_3 + (1 : Int32)) (jms h7 hm4) (by rw [hr4, L_X3_countOfMemberAhead_4, if_neg h7, if_neg h15, if_neg h25])
          · refine j_aload_n C dX3_countOfMemberAhead_28 rfl ?_
            refine j_get C f_X3_24.F 0 dX3_countOfMemberAhead_29 ivW_0 rfl ?_
            refine j_iload_n C dX3_countOfMemberAhead_32 rfl ?_
            refine j_iald C 5 dX3_countOfMemberAhead_33 ivW_5 (has_X3 h15) ?_
            refine j_iconst C dX3_countOfMemberAhead_34 (1 : Int32) (by decide) ?_
            refine j_icmp_ne (tgt := 41) C dX3_countOfMemberAhead_35 (by decide) (fun (h35 : ¬ ((B 11 x4_3.toNatClampNeg) = (1 : Int32))) => ?_) (fun (h35 : (B 11 x4_3.toNatClampNeg) = (1 : Int32)) => ?_)
            · refine j_iinc C [(3, _), (0, _), (1, _), (2, _)] (v := (x4_3 + (1 : Int32))) dX3_countOfMemberAhead_41 rfl (iinc_1 _) (by decide) rfl ?_
              refine j_goto (tgt := 4) C dX3_countOfMemberAhead_44 (by decide) ?_
              refine j_lv [(0, .ref (g 3)), (1, .int a), (2, .int x4_2), (3, .int (x4_3 + (1 : Int32)))] rfl ?_
              exact ih4 x4_2 (x4_3 + (1 : Int32)) (jms h7 hm4) (by rw [hr4, L_X3_countOfMemberAhead_4, if_neg h7, if_neg h15, if_pos h25, if_neg h35])
            · refine j_iinc C [(2, _), (0, _), (1, _), (3, _)] (v := (x4_2 + (1 : Int32))) dX3_countOfMemberAhead_38 rfl (iinc_1 _) (by decide) rfl ?_
              refine j_iinc C [(3, _), (2, _), (0, _), (1, _)] (v := (x4_3 + (1 : Int32))) dX3_countOfMemberAhead_41 rfl (iinc_1 _) (by decide) rfl ?_
              refine j_goto (tgt := 4) C dX3_countOfMemberAhead_44 (by decide) ?_
              refine j_lv [(0, .ref (g 3)), (1, .int a), (2, .int (x4_2 + (1 : Int32))), (3, .int (x4_3 + (1 : Int32)))] rfl ?_
              exact ih4 (x4_2 + (1 : Int32)) (x4_3 + (1 : Int32)) (jms h7 hm4) (by rw [hr4, L_X3_countOfMemberAhead_4, if_neg h7, if_neg h15, if_pos h25, if_pos h35])
  refine j_lv [(0, .ref (g 3)), (1, .int a), (2, .int (0 : Int32)), (3, .int (0 : Int32))] rfl ?_
  exact K4 21 (0 : Int32) (0 : Int32) (by decide) (by rw [r_X3_countOfMemberAhead])
theorem uns_X3 {B : jB} {i : Int32} (h : ¬ r_X3_isUnsettled B i = 0) : vp_in i 20 := by
  unfold r_X3_isUnsettled at h
  by_cases h1 : r_X3_has B i = 0
  · rw [if_pos h1] at h; exact absurd rfl h
  · exact has_X3 h1


def L_X3_countOfClientUnsettled_4 (B : jB) (a : Int32) : Nat → Int32 → Int32 → Int32
  | 0, _, _ => 0
  | n4 + 1, x4_2, x4_3 => (if (20 : Int32) ≤ x4_3 then x4_2 else (if (r_X3_isUnsettled B x4_3) = (0 : Int32) then L_X3_countOfClientUnsettled_4 B a n4 x4_2 (x4_3 + (1 : Int32)) else (if (B 8 x4_3.toNatClampNeg) = a then L_X3_countOfClientUnsettled_4 B a n4 (x4_2 + (1 : Int32)) (x4_3 + (1 : Int32)) else L_X3_countOfClientUnsettled_4 B a n4 x4_2 (x4_3 + (1 : Int32)))))
def r_X3_countOfClientUnsettled (B : jB) (a : Int32) : Int32 := L_X3_countOfClientUnsettled_4 B a 21 (0 : Int32) (0 : Int32)
set_option maxRecDepth 100000 in
set_option maxHeartbeats 4000000 in
theorem c_X3_countOfClientUnsettled (l : Launch) (D : va_G) (ca : Nat → ClassId) (g : Nat → Nat) (B : jB) (a : Int32) : jM l D ca yX3_countOfClientUnsettled cX3_countOfClientUnsettled 4 (some .int) 2 42 0 0 [.ref (g 3), .int a] (ivW ca g B) (jD (some (.int (r_X3_countOfClientUnsettled B a))) (ivW ca g B)) := by
  refine jM_of [(0, .ref (g 3)), (1, .int a)] (by decide) (Nat.le_of_ble_eq_true rfl) rfl (fun X C E => ?_)
  refine j_iconst C dX3_countOfClientUnsettled_0 (0 : Int32) (by decide) ?_
  refine j_istore_n C [(2, _), (0, _), (1, _)] dX3_countOfClientUnsettled_1 (by decide) rfl ?_
  refine j_iconst C dX3_countOfClientUnsettled_2 (0 : Int32) (by decide) ?_
  refine j_istore_n C [(3, _), (2, _), (0, _), (1, _)] dX3_countOfClientUnsettled_3 (by decide) rfl ?_
  have K4 : ∀ (n4 : Nat) (x4_2 : Int32) (x4_3 : Int32), ((20 : Int32).toInt - x4_3.toInt).toNat < n4 → r_X3_countOfClientUnsettled B a = L_X3_countOfClientUnsettled_4 B a n4 x4_2 x4_3 → J l { frames := 2, cells := 0, slots := 0, locals := 42 } D 4 X 0 0 (ivW ca g B) [(0, .ref (g 3)), (1, .int a), (2, .int x4_2), (3, .int x4_3)] [] 4 := by
    intro n4
    induction n4 with
    | zero =>
      intro x4_2 x4_3 hm4
      exact absurd hm4 (Nat.not_lt_zero _)
    | succ n4 ih4 =>
      intro x4_2 x4_3 hm4 hr4
      refine j_iload_n C dX3_countOfClientUnsettled_4 rfl ?_
      refine j_bipush C dX3_countOfClientUnsettled_5 (20 : Int32) (by decide) ?_
      refine j_icmp_ge (tgt := 37) C dX3_countOfClientUnsettled_7 (by decide) (fun (h7 : (20 : Int32) ≤ x4_3) => ?_) (fun (h7 : ¬ ((20 : Int32) ≤ x4_3)) => ?_)
      · refine j_iload_n C dX3_countOfClientUnsettled_37 rfl ?_
        have e9 : r_X3_countOfClientUnsettled B a = x4_2 := by rw [hr4, L_X3_countOfClientUnsettled_4, if_pos h7]
        exact j_iret E dX3_countOfClientUnsettled_38 (by rw [e9]; exact ⟨rfl, rfl⟩)
      · refine j_aload_n C dX3_countOfClientUnsettled_10 rfl ?_
        refine j_iload_n C dX3_countOfClientUnsettled_11 rfl ?_
        refine j_callViRW C g_X3_41 (c_X3_isUnsettled l D ca g B x4_3) 0 ivW_0 hcl_X3 ⟨Nat.le_of_ble_eq_true rfl, Nat.le_of_ble_eq_true rfl⟩ ⟨Nat.le_of_ble_eq_true rfl, Nat.le_of_ble_eq_true rfl⟩ rfl rfl (Nat.le_of_ble_eq_true rfl) dX3_countOfClientUnsettled_12 ?_
        refine j_if_eq (tgt := 31) C dX3_countOfClientUnsettled_15 (by decide) (fun (h15 : (r_X3_isUnsettled B x4_3) = (0 : Int32)) => ?_) (fun (h15 : ¬ ((r_X3_isUnsettled B x4_3) = (0 : Int32))) => ?_)
        · refine j_iinc C [(3, _), (0, _), (1, _), (2, _)] (v := (x4_3 + (1 : Int32))) dX3_countOfClientUnsettled_31 rfl (iinc_1 _) (by decide) rfl ?_
          refine j_goto (tgt := 4) C dX3_countOfClientUnsettled_34 (by decide) ?_
          refine j_lv [(0, .ref (g 3)), (1, .int a), (2, .int x4_2), (3, .int (x4_3 + (1 : Int32)))] rfl ?_
          exact ih4 x4_2 (x4_3 + (1 : Int32)) (jms h7 hm4) (by rw [hr4, L_X3_countOfClientUnsettled_4, if_neg h7, if_pos h15])
        · refine j_aload_n C dX3_countOfClientUnsettled_18 rfl ?_
          refine j_get C f_X3_15.F 0 dX3_countOfClientUnsettled_19 ivW_0 rfl ?_
          refine j_iload_n C dX3_countOfClientUnsettled_22 rfl ?_
          refine j_iald C 2 dX3_countOfClientUnsettled_23 ivW_2 (uns_X3 h15) ?_
          refine j_iload_n C dX3_countOfClientUnsettled_24 rfl ?_
          refine j_icmp_ne (tgt := 31) C dX3_countOfClientUnsettled_25 (by decide) (fun (h25 : ¬ ((B 8 x4_3.toNatClampNeg) = a)) => ?_) (fun (h25 : (B 8 x4_3.toNatClampNeg) = a) => ?_)
          · refine j_iinc C [(3, _), (0, _), (1, _), (2, _)] (v := (x4_3 + (1 : Int32))) dX3_countOfClientUnsettled_31 rfl (iinc_1 _) (by decide) rfl ?_
            refine j_goto (tgt := 4) C dX3_countOfClientUnsettled_34 (by decide) ?_
            refine j_lv [(0, .ref (g 3)), (1, .int a), (2, .int x4_2), (3, .int (x4_3 + (1 : Int32)))] rfl ?_
            exact ih4 x4_2 (x4_3 + (1 : Int32)) (jms h7 hm4) (by rw [hr4, L_X3_countOfClientUnsettled_4, if_neg h7, if_neg h15, if_neg h25])
          · refine j_iinc C [(2, _), (0, _), (1, _), (3, _)] (v := (x4_2 + (1 : Int32))) dX3_countOfClientUnsettled_28 rfl (iinc_1 _) (by decide) rfl ?_
            refine j_iinc C [(3, _), (2, _), (0, _), (1, _)] (v := (x4_3 + (1 : Int32))) dX3_countOfClientUnsettled_31 rfl (iinc_1 _) (by decide) rfl ?_
            refine j_goto (tgt := 4) C dX3_countOfClientUnsettled_34 (by decide) ?_
            refine j_lv [(0, .ref (g 3)), (1, .int a), (2, .int (x4_2 + (1 : Int32))), (3, .int (x4_3 + (1 : Int32)))] rfl ?_
            exact ih4 (x4_2 + (1 : Int32)) (x4_3 + (1 : Int32)) (jms h7 hm4) (by rw [hr4, L_X3_countOfClientUnsettled_4, if_neg h7, if_neg h15, if_pos h25])
  refine j_lv [(0, .ref (g 3)), (1, .int a), (2, .int (0 : Int32)), (3, .int (0 : Int32))] rfl ?_
  exact K4 21 (0 : Int32) (0 : Int32) (by decide) (by rw [r_X3_countOfClientUnsettled])


def L_X3_countOfState_4 (B : jB) (a : Int32) : Nat → Int32 → Int32 → Int32
  | 0, _, _ => 0
  | n4 + 1, x4_2, x4_3 => (if (20 : Int32) ≤ x4_3 then x4_2 else (if (r_X3_has B x4_3) = (0 : Int32) then L_X3_countOfState_4 B a n4 x4_2 (x4_3 + (1 : Int32)) else (if (B 11 x4_3.toNatClampNeg) = a then L_X3_countOfState_4 B a n4 (x4_2 + (1 : Int32)) (x4_3 + (1 : Int32)) else L_X3_countOfState_4 B a n4 x4_2 (x4_3 + (1 : Int32)))))
def r_X3_countOfState (B : jB) (a : Int32) : Int32 := L_X3_countOfState_4 B a 21 (0 : Int32) (0 : Int32)
set_option maxRecDepth 100000 in
set_option maxHeartbeats 4000000 in
theorem c_X3_countOfState (l : Launch) (D : va_G) (ca : Nat → ClassId) (g : Nat → Nat) (B : jB) (a : Int32) : jM l D ca yX3_countOfState cX3_countOfState 4 (some .int) 1 21 0 0 [.ref (g 3), .int a] (ivW ca g B) (jD (some (.int (r_X3_countOfState B a))) (ivW ca g B)) := by
  refine jM_of [(0, .ref (g 3)), (1, .int a)] (by decide) (Nat.le_of_ble_eq_true rfl) rfl (fun X C E => ?_)
  refine j_iconst C dX3_countOfState_0 (0 : Int32) (by decide) ?_
  refine j_istore_n C [(2, _), (0, _), (1, _)] dX3_countOfState_1 (by decide) rfl ?_
  refine j_iconst C dX3_countOfState_2 (0 : Int32) (by decide) ?_
  refine j_istore_n C [(3, _), (2, _), (0, _), (1, _)] dX3_countOfState_3 (by decide) rfl ?_
  have K4 : ∀ (n4 : Nat) (x4_2 : Int32) (x4_3 : Int32), ((20 : Int32).toInt - x4_3.toInt).toNat < n4 → r_X3_countOfState B a = L_X3_countOfState_4 B a n4 x4_2 x4_3 → J l { frames := 1, cells := 0, slots := 0, locals := 21 } D 4 X 0 0 (ivW ca g B) [(0, .ref (g 3)), (1, .int a), (2, .int x4_2), (3, .int x4_3)] [] 4 := by
    intro n4
    induction n4 with
    | zero =>
      intro x4_2 x4_3 hm4
      exact absurd hm4 (Nat.not_lt_zero _)
    | succ n4 ih4 =>
      intro x4_2 x4_3 hm4 hr4
      refine j_iload_n C dX3_countOfState_4 rfl ?_
      refine j_bipush C dX3_countOfState_5 (20 : Int32) (by decide) ?_
      refine j_icmp_ge (tgt := 37) C dX3_countOfState_7 (by decide) (fun (h7 : (20 : Int32) ≤ x4_3) => ?_) (fun (h7 : ¬ ((20 : Int32) ≤ x4_3)) => ?_)
      · refine j_iload_n C dX3_countOfState_37 rfl ?_
        have e9 : r_X3_countOfState B a = x4_2 := by rw [hr4, L_X3_countOfState_4, if_pos h7]
        exact j_iret E dX3_countOfState_38 (by rw [e9]; exact ⟨rfl, rfl⟩)
      · refine j_aload_n C dX3_countOfState_10 rfl ?_
        refine j_iload_n C dX3_countOfState_11 rfl ?_
        refine j_callViRW C g_X3_37 (c_X3_has l D ca g B x4_3) 0 ivW_0 hcl_X3 ⟨Nat.le_of_ble_eq_true rfl, Nat.le_of_ble_eq_true rfl⟩ ⟨Nat.le_of_ble_eq_true rfl, Nat.le_of_ble_eq_true rfl⟩ rfl rfl (Nat.le_of_ble_eq_true rfl) dX3_countOfState_12 ?_
        refine j_if_eq (tgt := 31) C dX3_countOfState_15 (by decide) (fun (h15 : (r_X3_has B x4_3) = (0 : Int32)) => ?_) (fun (h15 : ¬ ((r_X3_has B x4_3) = (0 : Int32))) => ?_)
        · refine j_iinc C [(3, _), (0, _), (1, _), (2, _)] (v := (x4_3 + (1 : Int32))) dX3_countOfState_31 rfl (iinc_1 _) (by decide) rfl ?_
          refine j_goto (tgt := 4) C dX3_countOfState_34 (by decide) ?_
          refine j_lv [(0, .ref (g 3)), (1, .int a), (2, .int x4_2), (3, .int (x4_3 + (1 : Int32)))] rfl ?_
          exact ih4 x4_2 (x4_3 + (1 : Int32)) (jms h7 hm4) (by rw [hr4, L_X3_countOfState_4, if_neg h7, if_pos h15])
        · refine j_aload_n C dX3_countOfState_18 rfl ?_
          refine j_get C f_X3_24.F 0 dX3_countOfState_19 ivW_0 rfl ?_
          refine j_iload_n C dX3_countOfState_22 rfl ?_
          refine j_iald C 5 dX3_countOfState_23 ivW_5 (has_X3 h15) ?_
          refine j_iload_n C dX3_countOfState_24 rfl ?_
          refine j_icmp_ne (tgt := 31) C dX3_countOfState_25 (by decide) (fun (h25 : ¬ ((B 11 x4_3.toNatClampNeg) = a)) => ?_) (fun (h25 : (B 11 x4_3.toNatClampNeg) = a) => ?_)
          · refine j_iinc C [(3, _), (0, _), (1, _), (2, _)] (v := (x4_3 + (1 : Int32))) dX3_countOfState_31 rfl (iinc_1 _) (by decide) rfl ?_
            refine j_goto (tgt := 4) C dX3_countOfState_34 (by decide) ?_
            refine j_lv [(0, .ref (g 3)), (1, .int a), (2, .int x4_2), (3, .int (x4_3 + (1 : Int32)))] rfl ?_
            exact ih4 x4_2 (x4_3 + (1 : Int32)) (jms h7 hm4) (by rw [hr4, L_X3_countOfState_4, if_neg h7, if_neg h15, if_neg h25])
          · refine j_iinc C [(2, _), (0, _), (1, _), (3, _)] (v := (x4_2 + (1 : Int32))) dX3_countOfState_28 rfl (iinc_1 _) (by decide) rfl ?_
            refine j_iinc C [(3, _), (2, _), (0, _), (1, _)] (v := (x4_3 + (1 : Int32))) dX3_countOfState_31 rfl (iinc_1 _) (by decide) rfl ?_
            refine j_goto (tgt := 4) C dX3_countOfState_34 (by decide) ?_
            refine j_lv [(0, .ref (g 3)), (1, .int a), (2, .int (x4_2 + (1 : Int32))), (3, .int (x4_3 + (1 : Int32)))] rfl ?_
            exact ih4 (x4_2 + (1 : Int32)) (x4_3 + (1 : Int32)) (jms h7 hm4) (by rw [hr4, L_X3_countOfState_4, if_neg h7, if_neg h15, if_pos h25])
  refine j_lv [(0, .ref (g 3)), (1, .int a), (2, .int (0 : Int32)), (3, .int (0 : Int32))] rfl ?_
  exact K4 21 (0 : Int32) (0 : Int32) (by decide) (by rw [r_X3_countOfState])


def r_X1_riskOf (B : jB) (i : Int32) : UInt32 := (if (r_X1_has B i) = (0 : Int32) then (r_X7_noNumber) else (FP.fdiv (FP.i2f ((B 5 i.toNatClampNeg) + (1 : Int32))) (FP.i2f (((B 4 i.toNatClampNeg) + (B 5 i.toNatClampNeg)) + (2 : Int32)))))
def n_X1_riskOf (B : jB) (i : Int32) : Prop := (((r_X1_has B i) = (0 : Int32) → True) ∧ (¬ ((r_X1_has B i) = (0 : Int32)) → (vf_n32 (FP.fdiv (FP.i2f ((B 5 i.toNatClampNeg) + (1 : Int32))) (FP.i2f (((B 4 i.toNatClampNeg) + (B 5 i.toNatClampNeg)) + (2 : Int32)))) ∧ True)))
set_option maxRecDepth 100000 in
set_option maxHeartbeats 4000000 in
theorem c_X1_riskOf (l : Launch) (D : va_G) (ca : Nat → ClassId) (g : Nat → Nat) (B : jB) (i : Int32) (hq : n_X1_riskOf B i) : jM l D ca yX1_riskOf cX1_riskOf 2 (Option.some FieldType.float) 1 21 0 0 [.ref (g 2), .int i] (clW ca g B) (jD (some (.float (r_X1_riskOf B i))) (clW ca g B)) := by
  refine jM_of [(0, .ref (g 2)), (1, .int i)] (by decide) (Nat.le_of_ble_eq_true rfl) rfl (fun X C E => ?_)
  rw [n_X1_riskOf] at hq
  refine j_aload_n C dX1_riskOf_0 rfl ?_
  refine j_iload_n C dX1_riskOf_1 rfl ?_
  refine j_callViRW C g_X1_21 (c_X1_has l D ca g B i) 0 clW_0 hcl_X1 ⟨Nat.le_of_ble_eq_true rfl, Nat.le_of_ble_eq_true rfl⟩ ⟨Nat.le_of_ble_eq_true rfl, Nat.le_of_ble_eq_true rfl⟩ rfl rfl (Nat.le_of_ble_eq_true rfl) dX1_riskOf_2 ?_
  refine j_if_ne (tgt := 12) C dX1_riskOf_5 (by decide) (fun (h5 : ¬ ((r_X1_has B i) = (0 : Int32))) => ?_) (fun (h5 : (r_X1_has B i) = (0 : Int32)) => ?_)
  · have hq := hq.2 h5
    refine j_aload_n C dX1_riskOf_12 rfl ?_
    refine j_get C f_X1_15.F 0 dX1_riskOf_13 clW_0 rfl ?_
    refine j_iload_n C dX1_riskOf_16 rfl ?_
    refine j_iald C 2 dX1_riskOf_17 clW_2 (has_X1 h5) ?_
    refine j_iconst C dX1_riskOf_18 (1 : Int32) (by decide) ?_
    refine j_iadd C dX1_riskOf_19 ?_
    refine j_i2f C dX1_riskOf_20 ?_
    refine j_aload_n C dX1_riskOf_21 rfl ?_
    refine j_get C f_X1_9.F 0 dX1_riskOf_22 clW_0 rfl ?_
    refine j_iload_n C dX1_riskOf_25 rfl ?_
    refine j_iald C 1 dX1_riskOf_26 clW_1 (has_X1 h5) ?_
    refine j_aload_n C dX1_riskOf_27 rfl ?_
    refine j_get C f_X1_15.F 0 dX1_riskOf_28 clW_0 rfl ?_
    refine j_iload_n C dX1_riskOf_31 rfl ?_
    refine j_iald C 2 dX1_riskOf_32 clW_2 (has_X1 h5) ?_
    refine j_iadd C dX1_riskOf_33 ?_
    refine j_iconst C dX1_riskOf_34 (2 : Int32) (by decide) ?_
    refine j_iadd C dX1_riskOf_35 ?_
    refine j_i2f C dX1_riskOf_36 ?_
    obtain ⟨hv, hq⟩ := hq
    refine j_fdiv C dX1_riskOf_37 hv ?_
    have e9 : r_X1_riskOf B i = (FP.fdiv (FP.i2f ((B 5 i.toNatClampNeg) + (1 : Int32))) (FP.i2f (((B 4 i.toNatClampNeg) + (B 5 i.toNatClampNeg)) + (2 : Int32)))) := by rw [r_X1_riskOf, if_neg h5]
    exact j_fret E dX1_riskOf_38 (by rw [e9]; exact ⟨rfl, rfl⟩)
  · have hq := hq.1 h5
    refine j_callSNfR C g_X1_25 (c_X7_noNumber l D ca) ⟨Nat.le_of_ble_eq_true rfl, Nat.le_of_ble_eq_true rfl⟩ ⟨Nat.le_of_ble_eq_true rfl, Nat.le_of_ble_eq_true rfl⟩ [] rfl rfl rfl rfl (Nat.le_of_ble_eq_true rfl) dX1_riskOf_8 ?_
    have e9 : r_X1_riskOf B i = (r_X7_noNumber) := by rw [r_X1_riskOf, if_pos h5]
    exact j_fret E dX1_riskOf_11 (by rw [e9]; exact ⟨rfl, rfl⟩)
