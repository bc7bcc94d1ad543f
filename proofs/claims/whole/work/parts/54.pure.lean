/-- x is the float of t times 2 to the q -/
def VF (t : Nat) (q : Int) (x : UInt32) : Prop := FP.Core.val32 x = FP.Core.round FP.Core.b32 (FP.Core.Datum.fin false t q)
theorem b32_qmin : FP.Core.b32.qmin = -149 := by decide
theorem b32_qmax : FP.Core.b32.qmax = 104 := by decide
theorem val_half : FP.Core.val32 1056964608 = FP.Core.Datum.fin false (2 ^ 23) (-24) := by decide +kernel
theorem val_two : FP.Core.val32 0x40000000 = FP.Core.Datum.fin false (2 ^ 23) (-22) := by decide +kernel
theorem VF_nan {t : Nat} {q : Int} {x : UInt32} (h : VF t q x) : FP.Core.val32 x ≠ FP.Core.Datum.nan := by
  unfold VF at h
  rw [h]
  exact FP.Core.roundRatio_ne_nan _ _ _ _ _
theorem n32_of {x : UInt32} (h : FP.Core.val32 x ≠ FP.Core.Datum.nan) : vf_n32 x := by
  unfold vf_n32
  rw [UInt32.le_iff_toNat_le]
  have := FP.Core.mask_toNat32 x
  rw [this]
  exact (FP.Core.ne_nan32 x).mp h
theorem n32_to {x : UInt32} (h : vf_n32 x) : FP.Core.val32 x ≠ FP.Core.Datum.nan := by
  unfold vf_n32 at h
  rw [UInt32.le_iff_toNat_le] at h
  have := FP.Core.mask_toNat32 x
  rw [this] at h
  exact (FP.Core.ne_nan32 x).mpr h
theorem pow_shift {c t a b : Nat} (h : c * 2 ^ a = t * 2 ^ b) : c * 2 ^ 23 * 2 ^ (a - b - 23) = t * 2 ^ (b + 23 - a) := by
  rcases Nat.lt_or_ge a b with g | g
  · have e : b = (b - a) + a := by omega
    rw [e, Nat.pow_add, ← Nat.mul_assoc] at h
    have h := Nat.eq_of_mul_eq_mul_right (Nat.two_pow_pos a) h
    rw [show a - b - 23 = 0 by omega, show b + 23 - a = (b - a) + 23 by omega, Nat.pow_add, ← Nat.mul_assoc, ← h]
    omega
  · have e : a = (a - b) + b := by omega
    rw [e, Nat.pow_add, ← Nat.mul_assoc] at h
    have h := Nat.eq_of_mul_eq_mul_right (Nat.two_pow_pos b) h
    rw [← h, Nat.mul_assoc, Nat.mul_assoc, ← Nat.pow_add, ← Nat.pow_add]
    congr 2
    omega
theorem VF_step {t : Nat} {q : Int} {x y : UInt32} {k : Int} (ht : t < 2 ^ 24) (h : VF t q x) (hy : FP.Core.val32 y = FP.Core.Datum.fin false (2 ^ 23) (k - 23)) (q1 : -149 ≤ q) (q2 : q ≤ 104) : VF t (q + k) (FP.fmul x y) := by
  unfold VF at h ⊢
  obtain ⟨c', q', e1, e2⟩ := FP.Core.round_exact FP.Core.good_b32 false (c := t) (q := q) (show t < 2 ^ FP.Core.b32.p from ht) (by rw [b32_qmin]; exact q1) (by rw [b32_qmax]; exact q2)
  have hf := FP.Core.round_fits FP.Core.good_b32 (FP.Core.Datum.fin false t q)
  rw [e1] at hf h
  have hq : FP.Core.b32.qmin ≤ q' := hf.2.1
  rw [FP.Core.val32_fmul, h, hy]
  show FP.Core.roundRatio FP.Core.b32 false (c' * 2 ^ 23) 1 (q' + (k - 23)) = FP.Core.roundRatio FP.Core.b32 false t 1 (q + k)
  rw [b32_qmin] at hq
  unfold FP.Core.inUnits at e2
  rw [b32_qmin] at e2
  have e3 := pow_shift e2
  refine FP.Core.roundRatio_congr (by decide) (by decide) ?_
  rw [Nat.mul_one, Nat.mul_one, show (q' + (k - 23) - (q + k)).toNat = (q' - -149).toNat - (q - -149).toNat - 23 by omega, show (q + k - (q' + (k - 23))).toNat = (q - -149).toNat + 23 - (q' - -149).toNat by omega]
  exact e3
theorem VF_half {t : Nat} {q : Int} {x : UInt32} (ht : t < 2 ^ 24) (h : VF t q x) (q1 : -149 ≤ q) (q2 : q ≤ 104) : VF t (q - 1) (FP.fmul x 1056964608) := VF_step (k := -1) ht h val_half q1 q2
theorem VF_two {t : Nat} {q : Int} {x : UInt32} (ht : t < 2 ^ 24) (h : VF t q x) (q1 : -149 ≤ q) (q2 : q ≤ 104) : VF t (q + 1) (FP.fmul x 0x40000000) := VF_step (k := 1) ht h val_two q1 q2
theorem VF_i2f {a : Int32} (h : 0 ≤ a.toInt) : VF a.toInt.toNat 0 (FP.i2f a) := by
  unfold VF
  have := FP.Core.val32_i2f a
  rw [show FP.Core.val32 (FP.i2f a) = FP.Core.round FP.Core.b32 (FP.Core.ofInt a.toInt) from this]
  unfold FP.Core.ofInt
  rw [decide_eq_false (by omega), show a.toInt.natAbs = a.toInt.toNat by omega]
theorem VF_end {b : Nat} (hb : b < 2139095040) {x : UInt32} (h : VF (if b / 8388608 = 0 then b % 8388608 else 8388608 + b % 8388608) (if b / 8388608 = 0 then -149 else (b / 8388608 : Nat) - 150) x) : x = UInt32.ofNat b := by
  have hv : FP.Core.val32 (UInt32.ofNat b) = FP.Core.Datum.fin false (if b / 8388608 = 0 then b % 8388608 else 8388608 + b % 8388608) (if b / 8388608 = 0 then -149 else (b / 8388608 : Nat) - 150) := by
    unfold FP.Core.val32
    have hn : (UInt32.ofNat b).toNat = b := by
      show b % 2 ^ 32 = b
      omega
    rw [hn]
    unfold FP.Core.decode FP.Core.fieldE FP.Core.fieldT FP.Core.fieldS
    have h1 : FP.Core.b32.tails = 8388608 := by decide
    have h2 : FP.Core.b32.exps = 256 := by decide
    rw [h1, h2, b32_qmin]
    have e1 : b / 8388608 % 256 = b / 8388608 := by omega
    have e2 : b / 8388608 / 256 = 0 := by omega
    rw [e1, e2, if_neg (by omega)]
    by_cases g : b / 8388608 = 0
    · rw [if_pos g, if_pos g, if_pos g]; rfl
    · rw [if_neg g, if_neg g, if_neg g]
      congr 1
      omega
  have hf : FP.Core.fits FP.Core.b32 (FP.Core.val32 (UInt32.ofNat b)) := FP.Core.val32_fits _
  have h1 : FP.Core.val32 x = FP.Core.val32 (UInt32.ofNat b) := by
    unfold VF at h
    rw [h, ← hv]
    exact FP.Core.round_of_fits FP.Core.good_b32 hf
  exact FP.Core.val32_inj (VF_nan h) h1
theorem an_and (a b : Nat) : Int32.ofNat a &&& Int32.ofNat b = Int32.ofNat (a &&& b) := by
  apply Int32.toBitVec_inj.1
  show BitVec.ofNat 32 a &&& BitVec.ofNat 32 b = BitVec.ofNat 32 (a &&& b)
  apply BitVec.eq_of_getLsbD_eq
  intro i hi
  simp [hi]
theorem an_or (a b : Nat) : Int32.ofNat a ||| Int32.ofNat b = Int32.ofNat (a ||| b) := by
  apply Int32.toBitVec_inj.1
  show BitVec.ofNat 32 a ||| BitVec.ofNat 32 b = BitVec.ofNat 32 (a ||| b)
  apply BitVec.eq_of_getLsbD_eq
  intro i hi
  simp [hi]
theorem an_of {b : Int32} (h : 0 ≤ b.toInt) : b = Int32.ofNat b.toInt.toNat := by
  have hh := i_hi b
  rw [i_eq, Int32.toInt_ofNat_of_lt (by omega)]
  omega
theorem an_toInt {n : Nat} (h : n < 2147483648) : (Int32.ofNat n).toInt = n := Int32.toInt_ofNat_of_lt h
theorem an_frac {b : Int32} (h : 0 ≤ b.toInt) : (b &&& 8388607).toInt = (b.toInt.toNat % 8388608 : Nat) := by
  have e : (b &&& 8388607) = Int32.ofNat (b.toInt.toNat % 8388608) := by
    conv => lhs; rw [an_of h]
    show Int32.ofNat b.toInt.toNat &&& Int32.ofNat 8388607 = _
    rw [an_and, show (8388607 : Nat) = 2 ^ 23 - 1 from rfl, Nat.and_two_pow_sub_one_eq_mod]
  rw [e, an_toInt (by omega)]
theorem an_sig {b : Int32} (h : 0 ≤ b.toInt) : ((b &&& 8388607) ||| 8388608).toInt = (8388608 + b.toInt.toNat % 8388608 : Nat) := by
  have e : ((b &&& 8388607) ||| 8388608) = Int32.ofNat (8388608 + b.toInt.toNat % 8388608) := by
    conv => lhs; rw [an_of h]
    show (Int32.ofNat b.toInt.toNat &&& Int32.ofNat 8388607) ||| Int32.ofNat 8388608 = _
    rw [an_and, an_or, show (8388607 : Nat) = 2 ^ 23 - 1 from rfl, Nat.and_two_pow_sub_one_eq_mod, Nat.or_comm]
    have := Nat.two_pow_add_eq_or_of_lt (i := 23) (b := b.toInt.toNat % 2 ^ 23) (by omega) 1
    rw [Nat.mul_one] at this
    rw [show (8388608 : Nat) = 2 ^ 23 from rfl, this]
  rw [e, an_toInt (by omega)]
theorem an_sshr {b : Int32} (h : 0 ≤ b.toInt) : (b >>> ((23 : Int32) &&& 31)).toInt = (b.toInt.toNat / 8388608 : Nat) := by
  show (b >>> ((23 : Int32) &&& 31)).toBitVec.toInt = _
  rw [Int32.toBitVec_shiftRight]
  show (b.toBitVec.sshiftRight (((23 : Int32) &&& 31).toBitVec.smod 32).toNat).toInt = _
  rw [show (((23 : Int32) &&& 31).toBitVec.smod 32).toNat = 23 by decide, BitVec.toInt_sshiftRight]
  show b.toInt >>> 23 = _
  rw [Int.shiftRight_eq_div_pow]
  omega
theorem an_ushr {b : Int32} (h : 0 ≤ b.toInt) : ((b.toUInt32 >>> ((23 : Int32).toUInt32 &&& Int32.toUInt32 31)).toInt32).toInt = (b.toInt.toNat / 8388608 : Nat) := by
  have hh := i_hi b
  have hb : b.toUInt32.toNat = b.toInt.toNat := by
    conv => lhs; rw [an_of h]
    show b.toInt.toNat % 2 ^ 32 = _
    omega
  have e : (b.toUInt32 >>> ((23 : Int32).toUInt32 &&& Int32.toUInt32 31)).toNat = b.toInt.toNat / 8388608 := by
    rw [UInt32.toNat_shiftRight, hb, show ((23 : Int32).toUInt32 &&& Int32.toUInt32 31).toNat % 32 = 23 by decide, Nat.shiftRight_eq_div_pow]
  have e2 : b.toUInt32 >>> ((23 : Int32).toUInt32 &&& Int32.toUInt32 31) = UInt32.ofNat (b.toInt.toNat / 8388608) := by
    apply UInt32.toNat_inj.mp
    rw [e]
    show _ = b.toInt.toNat / 8388608 % 2 ^ 32
    omega
  rw [e2]
  exact an_toInt (n := b.toInt.toNat / 8388608) (by omega)
