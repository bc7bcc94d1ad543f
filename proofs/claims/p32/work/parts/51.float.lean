/-- x is the float of t times 2 to the q -/
def VF (t : Nat) (q : Int) (x : UInt32) : Prop := FP.Core.val32 x = FP.Core.round FP.Core.b32 (FP.Core.Datum.fin false t q)
theorem b32_qmin : FP.Core.b32.qmin = -149 := by decide
theorem b32_qmax : FP.Core.b32.qmax = 104 := by decide
theorem val_half : FP.Core.val32 1056964608 = FP.Core.Datum.fin false (2 ^ 23) (-24) := by decide +kernel
theorem val_two : FP.Core.val32 0x40000000 = FP.Core.Datum.fin false (2 ^ 23) (-22) := by decide +kernel
theorem VF_nan {t : Nat} {q : Int} {x : UInt32} (h : VF t q x) : FP.Core.val32 x ≠ FP.Core.Datum.nan := by
  unfold VF at h
  rw [h]
  exact FP.Core.roundRatio_ne_nan _ _ _ _ _
theorem n32_of {x : UInt32} (h : FP.Core.val32 x ≠ FP.Core.Datum.nan) : vf_n32 x := by
  unfold vf_n32
  rw [UInt32.le_iff_toNat_le]
  have := FP.Core.mask_toNat32 x
  rw [this]
  exact (FP.Core.ne_nan32 x).mp h
theorem n32_to {x : UInt32} (h : vf_n32 x) : FP.Core.val32 x ≠ FP.Core.Datum.nan := by
  unfold vf_n32 at h
  rw [UInt32.le_iff_toNat_le] at h
  have := FP.Core.mask_toNat32 x
  rw [this] at h
  exact (FP.Core.ne_nan32 x).mpr h
theorem pow_shift {c t a b : Nat} (h : c * 2 ^ a = t * 2 ^ b) : c * 2 ^ 23 * 2 ^ (a - b - 23) = t * 2 ^ (b + 23 - a) := by
  rcases Nat.lt_or_ge a b with g | g
  · have e : b = (b - a) + a := by omega
    rw [e, Nat.pow_add, ← Nat.mul_assoc] at h
    have h := Nat.eq_of_mul_eq_mul_right (Nat.two_pow_pos a) h
    rw [show a - b - 23 = 0 by omega, show b + 23 - a = (b - a) + 23 by omega, Nat.pow_add, ← Nat.mul_assoc, ← h]
    omega
  · have e : a = (a - b) + b := by omega
    rw [e, Nat.pow_add, ← Nat.mul_assoc] at h
    have h := Nat.eq_of_mul_eq_mul_right (Nat.two_pow_pos b) h
    rw [← h, Nat.mul_assoc, Nat.mul_assoc, ← Nat.pow_add, ← Nat.pow_add]
    congr 2
    omega
theorem VF_step {t : Nat} {q : Int} {x y : UInt32} {k : Int} (ht : t < 2 ^ 24) (h : VF t q x) (hy : FP.Core.val32 y = FP.Core.Datum.fin false (2 ^ 23) (k - 23)) (q1 : -149 ≤ q) (q2 : q ≤ 104) : VF t (q + k) (FP.fmul x y) := by
  unfold VF at h ⊢
  obtain ⟨c', q', e1, e2⟩ := FP.Core.round_exact FP.Core.good_b32 false (c := t) (q := q) (show t < 2 ^ FP.Core.b32.p from ht) (by rw [b32_qmin]; exact q1) (by rw [b32_qmax]; exact q2)
  have hf := FP.Core.round_fits FP.Core.good_b32 (FP.Core.Datum.fin false t q)
  rw [e1] at hf h
  have hq : FP.Core.b32.qmin ≤ q' := hf.2.1
  rw [FP.Core.val32_fmul, h, hy]
  show FP.Core.roundRatio FP.Core.b32 false (c' * 2 ^ 23) 1 (q' + (k - 23)) = FP.Core.roundRatio FP.Core.b32 false t 1 (q + k)
  rw [b32_qmin] at hq
  unfold FP.Core.inUnits at e2
  rw [b32_qmin] at e2
  have e3 := pow_shift e2
  refine FP.Core.roundRatio_congr (by decide) (by decide) ?_
  rw [Nat.mul_one, Nat.mul_one, show (q' + (k - 23) - (q + k)).toNat = (q' - -149).toNat - (q - -149).toNat - 23 by omega, show (q + k - (q' + (k - 23))).toNat = (q - -149).toNat + 23 - (q' - -149).toNat by omega]
  exact e3
theorem VF_half {t : Nat} {q : Int} {x : UInt32} (ht : t < 2 ^ 24) (h : VF t q x) (q1 : -149 ≤ q) (q2 : q ≤ 104) : VF t (q - 1) (FP.fmul x 1056964608) := VF_step (k := -1) ht h val_half q1 q2
theorem VF_two {t : Nat} {q : Int} {x : UInt32} (ht : t < 2 ^ 24) (h : VF t q x) (q1 : -149 ≤ q) (q2 : q ≤ 104) : VF t (q + 1) (FP.fmul x 0x40000000) := VF_step (k := 1) ht h val_two q1 q2
theorem VF_i2f {a : Int32} (h : 0 ≤ a.toInt) : VF a.toInt.toNat 0 (FP.i2f a) := by
  unfold VF
  have := FP.Core.val32_i2f a
  rw [show FP.Core.val32 (FP.i2f a) = FP.Core.round FP.Core.b32 (FP.Core.ofInt a.toInt) from this]
  unfold FP.Core.ofInt
  rw [decide_eq_false (by omega), show a.toInt.natAbs = a.toInt.toNat by omega]
theorem VF_end {b : Nat} (hb : b < 2139095040) {x : UInt32} (h : VF (if b / 8388608 = 0 then b % 8388608 else 8388608 + b % 8388608) (if b / 8388608 = 0 then -149 else (b / 8388608 : Nat) - 150) x) : x = UInt32.ofNat b := by
  have hv : FP.Core.val32 (UInt32.ofNat b) = FP.Core.Datum.fin false (if b / 8388608 = 0 then b % 8388608 else 8388608 + b % 8388608) (if b / 8388608 = 0 then -149 else (b / 8388608 : Nat) - 150) := by
    unfold FP.Core.val32
    have hn : (UInt32.ofNat b).toNat = b := by
      show b % 2 ^ 32 = b
      omega
    rw [hn]
    unfold FP.Core.decode FP.Core.fieldE FP.Core.fieldT FP.Core.fieldS
    have h1 : FP.Core.b32.tails = 8388608 := by decide
    have h2 : FP.Core.b32.exps = 256 := by decide
    rw [h1, h2, b32_qmin]
    have e1 : b / 8388608 % 256 = b / 8388608 := by omega
    have e2 : b / 8388608 / 256 = 0 := by omega
    rw [e1, e2, if_neg (by omega)]
    by_cases g : b / 8388608 = 0
    · rw [if_pos g, if_pos g, if_pos g]; rfl
    · rw [if_neg g, if_neg g, if_neg g]
      congr 1
      omega
  have hf : FP.Core.fits FP.Core.b32 (FP.Core.val32 (UInt32.ofNat b)) := FP.Core.val32_fits _
  have h1 : FP.Core.val32 x = FP.Core.val32 (UInt32.ofNat b) := by
    unfold VF at h
    rw [h, ← hv]
    exact FP.Core.round_of_fits FP.Core.good_b32 hf
  exact FP.Core.val32_inj (VF_nan h) h1
theorem an_and (a b : Nat) : Int32.ofNat a &&& Int32.ofNat b = Int32.ofNat (a &&& b) := by
  apply Int32.toBitVec_inj.1
  show BitVec.ofNat 32 a &&& BitVec.ofNat 32 b = BitVec.ofNat 32 (a &&& b)
  apply BitVec.eq_of_getLsbD_eq
  intro i hi
  simp [hi]
theorem an_or (a b : Nat) : Int32.ofNat a ||| Int32.ofNat b = Int32.ofNat (a ||| b) := by
  apply Int32.toBitVec_inj.1
  show BitVec.ofNat 32 a ||| BitVec.ofNat 32 b = BitVec.ofNat 32 (a ||| b)
  apply BitVec.eq_of_getLsbD_eq
  intro i hi
  simp [hi]
theorem an_of {b : Int32} (h : 0 ≤ b.toInt) : b = Int32.ofNat b.toInt.toNat := by
  have hh := i_hi b
  rw [i_eq, Int32.toInt_ofNat_of_lt (by omega)]
  omega
theorem an_toInt {n : Nat} (h : n < 2147483648) : (Int32.ofNat n).toInt = n := Int32.toInt_ofNat_of_lt h
theorem an_frac {b : Int32} (h : 0 ≤ b.toInt) : (b &&& 8388607).toInt = (b.toInt.toNat % 8388608 : Nat) := by
  have e : (b &&& 8388607) = Int32.ofNat (b.toInt.toNat % 8388608) := by
    conv => lhs; rw [an_of h]
    show Int32.ofNat b.toInt.toNat &&& Int32.ofNat 8388607 = _
    rw [an_and, show (8388607 : Nat) = 2 ^ 23 - 1 from rfl, Nat.and_two_pow_sub_one_eq_mod]
  rw [e, an_toInt (by omega)]
theorem an_sig {b : Int32} (h : 0 ≤ b.toInt) : ((b &&& 8388607) ||| 8388608).toInt = (8388608 + b.toInt.toNat % 8388608 : Nat) := by
  have e : ((b &&& 8388607) ||| 8388608) = Int32.ofNat (8388608 + b.toInt.toNat % 8388608) := by
    conv => lhs; rw [an_of h]
    show (Int32.ofNat b.toInt.toNat &&& Int32.ofNat 8388607) ||| Int32.ofNat 8388608 = _
    rw [an_and, an_or, show (8388607 : Nat) = 2 ^ 23 - 1 from rfl, Nat.and_two_pow_sub_one_eq_mod, Nat.or_comm]
    have := Nat.two_pow_add_eq_or_of_lt (i := 23) (b := b.toInt.toNat % 2 ^ 23) (by omega) 1
    rw [Nat.mul_one] at this
    rw [show (8388608 : Nat) = 2 ^ 23 from rfl, this]
  rw [e, an_toInt (by omega)]
theorem an_sshr {b : Int32} (h : 0 ≤ b.toInt) : (b >>> ((23 : Int32) &&& 31)).toInt = (b.toInt.toNat / 8388608 : Nat) := by
  show (b >>> ((23 : Int32) &&& 31)).toBitVec.toInt = _
  rw [Int32.toBitVec_shiftRight]
  show (b.toBitVec.sshiftRight (((23 : Int32) &&& 31).toBitVec.smod 32).toNat).toInt = _
  rw [show (((23 : Int32) &&& 31).toBitVec.smod 32).toNat = 23 by decide, BitVec.toInt_sshiftRight]
  show b.toInt >>> 23 = _
  rw [Int.shiftRight_eq_div_pow]
  omega
theorem an_ushr {b : Int32} (h : 0 ≤ b.toInt) : ((b.toUInt32 >>> ((23 : Int32).toUInt32 &&& Int32.toUInt32 31)).toInt32).toInt = (b.toInt.toNat / 8388608 : Nat) := by
  have hh := i_hi b
  have hb : b.toUInt32.toNat = b.toInt.toNat := by
    conv => lhs; rw [an_of h]
    show b.toInt.toNat % 2 ^ 32 = _
    omega
  have e : (b.toUInt32 >>> ((23 : Int32).toUInt32 &&& Int32.toUInt32 31)).toNat = b.toInt.toNat / 8388608 := by
    rw [UInt32.toNat_shiftRight, hb, show ((23 : Int32).toUInt32 &&& Int32.toUInt32 31).toNat % 32 = 23 by decide, Nat.shiftRight_eq_div_pow]
  have e2 : b.toUInt32 >>> ((23 : Int32).toUInt32 &&& Int32.toUInt32 31) = UInt32.ofNat (b.toInt.toNat / 8388608) := by
    apply UInt32.toNat_inj.mp
    rw [e]
    show _ = b.toInt.toNat / 8388608 % 2 ^ 32
    omega
  rw [e2]
  exact an_toInt (n := b.toInt.toNat / 8388608) (by omega)

theorem L40_spec {b : Int32} {t : Nat} (ht : t < 2 ^ 24) : ∀ (c n : Nat) (x : UInt32) (k : Int32) (q : Int), 0 ≤ k.toInt → k.toInt + c = 150 → c ≤ n → VF t q x → -149 ≤ q - c → q ≤ 0 → VF t (q - c) (L_X7_floatOf_40 b (n + 1) x k) ∧ NL_X7_floatOf_40 b (n + 1) x k
  | 0, n, x, k, q, hk, hc, hn, hx, h1, h2 => by
    have g : (150 : Int32) ≤ k := by rw [i_le, show (150 : Int32).toInt = 150 from rfl]; omega
    rw [L_X7_floatOf_40, NL_X7_floatOf_40, if_pos g]
    exact ⟨by rw [show q - ((0 : Nat) : Int) = q by omega]; exact hx, fun _ => trivial, fun q => absurd g q⟩
  | c + 1, n, x, k, q, hk, hc, hn, hx, h1, h2 => by
    obtain ⟨m, rfl⟩ : ∃ m, n = m + 1 := ⟨n - 1, by omega⟩
    have g : ¬ ((150 : Int32) ≤ k) := by rw [i_le, show (150 : Int32).toInt = 150 from rfl]; omega
    have hd := VF_half ht hx (by omega) (by omega)
    have ih := L40_spec (b := b) ht c m (FP.fmul x 1056964608) (k + 1) (q - 1) (by rw [ii_succ (by omega)]; omega) (by rw [ii_succ (by omega)]; omega) (by omega) hd (by omega) (by omega)
    rw [L_X7_floatOf_40, NL_X7_floatOf_40, if_neg g]
    refine ⟨?_, fun q => absurd q g, fun _ => ⟨n32_of (VF_nan hd), ih.2⟩⟩
    rw [show q - ((c + 1 : Nat) : Int) = q - 1 - (c : Int) by omega]
    exact ih.1
theorem u_ofNat {b : Int32} (h : 0 ≤ b.toInt) : UInt32.ofNat b.toInt.toNat = b.toUInt32 := by
  have hh := i_hi b
  conv => rhs; rw [an_of h]
  rfl
theorem e_floatOf {b : Int32} (h0 : 0 ≤ b.toInt) (h1 : b.toInt < 1258291200) : r_X7_floatOf b = b.toUInt32 ∧ n_X7_floatOf b := by
  have hs := an_ushr h0
  have z : (0 : Int32).toInt = 0 := rfl
  have z1 : (1 : Int32).toInt = 1 := rfl
  have z150 : (150 : Int32).toInt = 150 := rfl
  rw [← u_ofNat h0]
  unfold r_X7_floatOf n_X7_floatOf
  generalize hee : (b.toUInt32 >>> ((23 : Int32).toUInt32 &&& Int32.toUInt32 31)).toInt32 = e at hs
  by_cases g : e = 0
  · have g2 : b.toInt.toNat / 8388608 = 0 := by rw [g, z] at hs; omega
    have hf := an_frac h0
    have hv : VF (b.toInt.toNat % 8388608) 0 (FP.i2f (b &&& 8388607)) := by
      have := VF_i2f (a := b &&& 8388607) (by omega)
      rwa [hf] at this
    have sp := L40_spec (b := b) (t := b.toInt.toNat % 8388608) (by omega) 149 (((150 : Int32).toInt - (1 : Int32).toInt).toNat) _ 1 0 (by decide) (by rw [z1]; omega) (by decide) hv (by omega) (by omega)
    rw [if_pos g]
    refine ⟨VF_end (by omega) ?_, fun _ => sp.2, fun q => absurd g q⟩
    rw [if_pos g2, if_pos g2]
    exact sp.1
  · have g2 : ¬ (b.toInt.toNat / 8388608 = 0) := by intro q; apply g; rw [i_eq, hs, q]; rfl
    have hf := an_sig h0
    have hv : VF (8388608 + b.toInt.toNat % 8388608) 0 (FP.i2f ((b &&& 8388607) ||| 8388608)) := by
      have := VF_i2f (a := (b &&& 8388607) ||| 8388608) (by omega)
      rwa [hf] at this
    have sp := L40_spec (b := b) (t := 8388608 + b.toInt.toNat % 8388608) (by omega) (150 - b.toInt.toNat / 8388608) (((150 : Int32).toInt - e.toInt).toNat) _ e 0 (by omega) (by omega) (by rw [z150]; omega) hv (by omega) (by omega)
    rw [if_neg g]
    refine ⟨VF_end (by omega) ?_, fun q => absurd q g, fun _ => sp.2⟩
    rw [if_neg g2, if_neg g2]
    have := sp.1
    rw [show (0 : Int) - ((150 - b.toInt.toNat / 8388608 : Nat) : Int) = ((b.toInt.toNat / 8388608 : Nat) : Int) - 150 by omega] at this
    exact this
theorem bits_nat {b : Int32} (h : 0 ≤ b.toInt) : b.toUInt32.toNat = b.toInt.toNat := by
  have hh := i_hi b
  rw [← u_ofNat h]
  show b.toInt.toNat % 2 ^ 32 = _
  omega
theorem bits_ne {b : Int32} (h : 0 ≤ b.toInt) (h1 : b.toInt < 2139095040) : FP.Core.val32 b.toUInt32 ≠ FP.Core.Datum.nan := by
  rw [FP.Core.ne_nan32, bits_nat h]
  omega
/-- bits of no sign compare as they stand -/
theorem bits_cmp {a b : Int32} (ha : 0 ≤ a.toInt) (ha1 : a.toInt < 2139095040) (hb : 0 ≤ b.toInt) (hb1 : b.toInt < 2139095040) :
    (FP.fcmp a.toUInt32 b.toUInt32 = some .lt ↔ a.toInt < b.toInt) ∧ (FP.fcmp a.toUInt32 b.toUInt32 = some .eq ↔ a = b) ∧ (FP.fcmp a.toUInt32 b.toUInt32 = some .gt ↔ b.toInt < a.toInt) := by
  have h := FP.Core.mono_bits32 (bits_ne ha ha1) (bits_ne hb hb1) (by rw [bits_nat ha]; omega) (by rw [bits_nat hb]; omega)
  rw [bits_nat ha, bits_nat hb] at h
  rw [i_eq]
  refine ⟨h.1.trans (by omega), h.2.1.trans (by omega), ?_⟩
  have := h.2.2
  refine this.trans (by omega)

def zv (x : UInt32) : Int := FP.Core.zval FP.Core.b32 (FP.Core.val32 x)
def zm (x : UInt32) : Nat := FP.Core.zmag FP.Core.b32 (FP.Core.val32 x)
theorem zv_abs (x : UInt32) : zv x = (zm x : Int) ∨ zv x = -(zm x : Int) := by
  unfold zv zm FP.Core.zval FP.Core.signed
  split
  · right; rfl
  · left; rfl
theorem zv_nonneg {x : UInt32} (h : 0 ≤ zv x) : zv x = (zm x : Int) := by
  rcases zv_abs x with e | e <;> omega
theorem z_fmul_le {a b V : UInt32} (ha : FP.Core.FFin a) (hb : FP.Core.FFin b) (hV : FP.Core.val32 V ≠ FP.Core.Datum.nan) (h : zm a * zm b ≤ zm V * FP.Core.one32) : zm (FP.fmul a b) ≤ zm V := by
  obtain ⟨s, c, q, ea⟩ := ha
  obtain ⟨t, d, r, eb⟩ := hb
  have fa := FP.Core.val32_fits a
  have fb := FP.Core.val32_fits b
  unfold zm at h ⊢
  rw [ea] at fa h
  rw [eb] at fb h
  obtain ⟨h1, h2, h3⟩ := FP.Core.product_units fa fb
  have hm : FP.Core.val32 (FP.fmul a b) = _ := FP.Core.val32_fmul a b
  rw [hm, ea, eb, h1]
  show FP.Core.zmag FP.Core.b32 (FP.Core.roundRatio FP.Core.b32 (s != t) (c * d) 1 (q + r)) ≤ _
  refine FP.Core.zmag_roundRatio_le (e0 := 2 * FP.Core.b32.qmin) FP.Core.good_b32 (by decide) (FP.Core.val32_fits V) hV (by decide) h2 ?_
  rw [h3, Nat.mul_one]
  exact h
theorem z_fmul_pos {a b : UInt32} (ha : FP.Core.FFin a) (hb : FP.Core.FFin b) (h1 : 0 ≤ zv a) (h2 : 0 ≤ zv b) : 0 ≤ zv (FP.fmul a b) := by
  obtain ⟨s, c, q, ea⟩ := ha
  obtain ⟨t, d, r, eb⟩ := hb
  have hm : FP.Core.val32 (FP.fmul a b) = _ := FP.Core.val32_fmul a b
  unfold zv at h1 h2 ⊢
  rw [ea] at h1
  rw [eb] at h2
  rw [hm, ea, eb]
  show 0 ≤ FP.Core.zval FP.Core.b32 (FP.Core.roundRatio FP.Core.b32 (s != t) (c * d) 1 (q + r))
  unfold FP.Core.zval at h1 h2 ⊢
  rw [FP.Core.sgn_roundRatio]
  unfold FP.Core.sgn FP.Core.zmag FP.Core.inUnits at h1 h2
  have p1 := Nat.two_pow_pos (q - FP.Core.b32.qmin).toNat
  have p2 := Nat.two_pow_pos (r - FP.Core.b32.qmin).toNat
  cases s <;> cases t
  · exact Int.natCast_nonneg _
  · have : d = 0 := by
      simp only [FP.Core.signed, if_true] at h2
      rcases Nat.eq_zero_or_pos d with e | e
      · exact e
      · have := Nat.mul_pos e p2; omega
    subst this
    rw [Nat.mul_zero]
    show 0 ≤ FP.Core.signed true (FP.Core.zmag FP.Core.b32 (FP.Core.Datum.fin true 0 FP.Core.b32.qmin))
    decide
  · have : c = 0 := by
      simp only [FP.Core.signed, if_true] at h1
      rcases Nat.eq_zero_or_pos c with e | e
      · exact e
      · have := Nat.mul_pos e p1; omega
    subst this
    rw [Nat.zero_mul]
    show 0 ≤ FP.Core.signed true (FP.Core.zmag FP.Core.b32 (FP.Core.Datum.fin true 0 FP.Core.b32.qmin))
    decide
  · exact Int.natCast_nonneg _
theorem z_fdiv_le {a b V : UInt32} (ha : FP.Core.FFin a) (hb : FP.Core.FFin b) (hV : FP.Core.val32 V ≠ FP.Core.Datum.nan) (h0 : 0 < zm b) (h : zm a * FP.Core.one32 ≤ zm V * zm b) : zm (FP.fdiv a b) ≤ zm V := by
  obtain ⟨s, c, q, ea⟩ := ha
  obtain ⟨t, d, r, eb⟩ := hb
  have fa := FP.Core.val32_fits a
  have fb := FP.Core.val32_fits b
  unfold zm at h h0 ⊢
  rw [ea] at fa h
  rw [eb] at fb h h0
  have hm : FP.Core.val32 (FP.fdiv a b) = _ := FP.Core.val32_fdiv a b
  rw [hm, ea, eb]
  have hq1 : -149 ≤ q := by have := fa.2.1; rw [b32_qmin] at this; exact this
  have hr1 : -149 ≤ r := by have := fb.2.1; rw [b32_qmin] at this; exact this
  have hr2 : r ≤ 104 := by have := fb.2.2.1; rw [b32_qmax] at this; exact this
  have hd : d ≠ 0 := by
    intro e; subst e
    simp [FP.Core.zmag, FP.Core.inUnits] at h0
  have hd0 : 0 < d := Nat.pos_of_ne_zero hd
  show FP.Core.zmag FP.Core.b32 (if d = 0 then _ else FP.Core.roundRatio FP.Core.b32 (s != t) c d (q - r)) ≤ _
  rw [if_neg hd]
  refine FP.Core.zmag_roundRatio_le (e0 := -600) FP.Core.good_b32 hd0 (FP.Core.val32_fits V) hV (by decide) (by omega) ?_
  change FP.Core.inUnits c q FP.Core.b32.qmin * FP.Core.one32 ≤ FP.Core.zmag FP.Core.b32 (FP.Core.val32 V) * FP.Core.inUnits d r FP.Core.b32.qmin at h
  generalize FP.Core.zmag FP.Core.b32 (FP.Core.val32 V) = v at *
  unfold FP.Core.inUnits at h ⊢
  rw [b32_qmin] at h ⊢
  have hp := Nat.two_pow_pos (r - -149).toNat
  refine Nat.le_of_mul_le_mul_right ?_ hp
  have e1 : c * 2 ^ (q - r - -600).toNat * 2 ^ (r - -149).toNat = c * 2 ^ (q - -149).toNat * FP.Core.one32 * 2 ^ 451 := by
    unfold FP.Core.one32
    rw [Nat.mul_assoc, Nat.mul_assoc, Nat.mul_assoc, ← Nat.pow_add, ← Nat.pow_add, ← Nat.pow_add]
    congr 2
    omega
  have e2 : v * 2 ^ ((-149 : Int) - -600).toNat * d * 2 ^ (r - -149).toNat = v * (d * 2 ^ (r - -149).toNat) * 2 ^ 451 := by
    rw [show ((-149 : Int) - -600).toNat = 451 by decide]
    ac_rfl
  rw [e1, e2]
  exact Nat.mul_le_mul_right _ h
theorem z_fdiv_pos {a b : UInt32} (ha : FP.Core.FFin a) (hb : FP.Core.FFin b) (h1 : 0 ≤ zv a) (h2 : 0 < zv b) : 0 ≤ zv (FP.fdiv a b) := by
  obtain ⟨s, c, q, ea⟩ := ha
  obtain ⟨t, d, r, eb⟩ := hb
  have hm : FP.Core.val32 (FP.fdiv a b) = _ := FP.Core.val32_fdiv a b
  unfold zv at h1 h2 ⊢
  rw [ea] at h1
  rw [eb] at h2
  rw [hm, ea, eb]
  have hd : d ≠ 0 := by
    intro e; subst e
    cases t <;> simp [FP.Core.zval, FP.Core.zmag, FP.Core.inUnits, FP.Core.signed, FP.Core.sgn] at h2
  show 0 ≤ FP.Core.zval FP.Core.b32 (if d = 0 then _ else FP.Core.roundRatio FP.Core.b32 (s != t) c d (q - r))
  rw [if_neg hd]
  unfold FP.Core.zval at h1 h2 ⊢
  rw [FP.Core.sgn_roundRatio]
  unfold FP.Core.sgn FP.Core.zmag FP.Core.inUnits at h1 h2
  have p1 := Nat.two_pow_pos (q - FP.Core.b32.qmin).toNat
  cases t
  · cases s
    · exact Int.natCast_nonneg _
    · have : c = 0 := by
        simp only [FP.Core.signed, if_true] at h1
        rcases Nat.eq_zero_or_pos c with e | e
        · exact e
        · have := Nat.mul_pos e p1; omega
      subst this
      show 0 ≤ FP.Core.signed _ (FP.Core.zmag FP.Core.b32 (FP.Core.Datum.fin _ 0 FP.Core.b32.qmin))
      decide
  · simp only [FP.Core.signed, if_true] at h2; omega
theorem z_fsub_le {a b V : UInt32} (ha : FP.Core.FFin a) (hb : FP.Core.FFin b) (hV : FP.Core.val32 V ≠ FP.Core.Datum.nan) (h : zv a - zv b ≤ zv V) : zv (FP.fsub a b) ≤ zv V := by
  have hm : FP.Core.val32 (FP.fsub a b) = _ := FP.Core.val32_fsub a b
  unfold zv at h ⊢
  rw [hm]
  have hb' : ∃ s c q, FP.Core.negate (FP.Core.val32 b) = FP.Core.Datum.fin s c q := by
    obtain ⟨t, d, r, eb⟩ := hb
    exact ⟨!t, d, r, by rw [eb]; rfl⟩
  refine FP.Core.sum_le FP.Core.good_b32 ha hb' (FP.Core.val32_fits a) (FP.Core.negate_fits (FP.Core.val32_fits b)) (FP.Core.val32_fits V) hV ?_
  rw [FP.Core.zval_negate]
  omega
theorem z_fsub_ge {a b V : UInt32} (ha : FP.Core.FFin a) (hb : FP.Core.FFin b) (hV : FP.Core.val32 V ≠ FP.Core.Datum.nan) (h : zv V ≤ zv a - zv b) : zv V ≤ zv (FP.fsub a b) := by
  have hm : FP.Core.val32 (FP.fsub a b) = _ := FP.Core.val32_fsub a b
  unfold zv at h ⊢
  rw [hm]
  have hb' : ∃ s c q, FP.Core.negate (FP.Core.val32 b) = FP.Core.Datum.fin s c q := by
    obtain ⟨t, d, r, eb⟩ := hb
    exact ⟨!t, d, r, by rw [eb]; rfl⟩
  refine FP.Core.sum_ge FP.Core.good_b32 ha hb' (FP.Core.val32_fits a) (FP.Core.negate_fits (FP.Core.val32_fits b)) (FP.Core.val32_fits V) hV ?_
  rw [FP.Core.zval_negate]
  omega
theorem z_f2i {x : UInt32} {k : Nat} (hx : FP.Core.val32 x ≠ FP.Core.Datum.nan) (h0 : 0 ≤ zv x) (h1 : zm x ≤ k * FP.Core.one32) : 0 ≤ (FP.f2i x).toInt ∧ (FP.f2i x).toInt ≤ k := by
  have e : (FP.f2i x).toInt = _ := FP.Core.f2i_val hx
  rw [e]
  unfold zv FP.Core.zval at h0
  unfold zm at h1
  generalize FP.Core.zmag FP.Core.b32 (FP.Core.val32 x) = z at *
  have hz : z / FP.Core.one32 ≤ k := by
    have := Nat.div_le_div_right (c := FP.Core.one32) h1
    rwa [Nat.mul_div_cancel _ FP.Core.one32_pos] at this
  have hp : (0 : Int) ≤ FP.Core.signed (FP.Core.sgn (FP.Core.val32 x)) (z / FP.Core.one32) ∧ FP.Core.signed (FP.Core.sgn (FP.Core.val32 x)) (z / FP.Core.one32) ≤ k := by
    have hz0 : FP.Core.sgn (FP.Core.val32 x) = true → z / FP.Core.one32 = 0 := by
      intro hs
      unfold FP.Core.signed at h0
      rw [if_pos hs] at h0
      have : z = 0 := by omega
      subst this
      rw [Nat.zero_div]
    generalize z / FP.Core.one32 = m at hz hz0
    unfold FP.Core.signed
    split
    · rename_i hs
      have := hz0 hs
      omega
    · omega
  generalize FP.Core.signed (FP.Core.sgn (FP.Core.val32 x)) (z / FP.Core.one32) = w at hp ⊢
  omega
theorem z_i2f {v : Int32} (h0 : 0 ≤ v.toInt) (h1 : v.toInt ≤ 16777216) : zv (FP.i2f v) = v.toInt * (FP.Core.one32 : Int) ∧ zm (FP.i2f v) = v.toInt.toNat * FP.Core.one32 := by
  have hi : FP.Core.FInt v.toInt (FP.i2f v) := FP.Core.i2f_int (by omega)
  have hz : zv (FP.i2f v) = v.toInt * (FP.Core.one32 : Int) := FP.Core.FInt_zval hi
  refine ⟨hz, ?_⟩
  have hp : 0 ≤ v.toInt * (FP.Core.one32 : Int) := Int.mul_nonneg h0 (Int.natCast_nonneg _)
  have := zv_nonneg (x := FP.i2f v) (by rw [hz]; exact hp)
  rw [hz] at this
  apply Int.ofNat.inj
  show ((zm (FP.i2f v) : Nat) : Int) = ((v.toInt.toNat * FP.Core.one32 : Nat) : Int)
  rw [← this, Int.natCast_mul, Int.toNat_of_nonneg h0]
theorem z_i2f_pos {v : Int32} (h0 : 0 ≤ v.toInt) : 0 ≤ zv (FP.i2f v) := by
  have h := FP.Core.val32_i2f v
  unfold zv
  rw [show FP.Core.val32 (FP.i2f v) = FP.Core.round FP.Core.b32 (FP.Core.ofInt v.toInt) from h]
  unfold FP.Core.ofInt
  rw [decide_eq_false (by omega)]
  unfold FP.Core.zval
  show 0 ≤ FP.Core.signed (FP.Core.sgn (FP.Core.roundRatio FP.Core.b32 false _ 1 0)) _
  rw [FP.Core.sgn_roundRatio]
  exact Int.natCast_nonneg _
theorem z_bits {b : Int32} (h : 0 ≤ b.toInt) (h1 : b.toInt < 2139095040) : 0 ≤ zv b.toUInt32 := FP.Core.zval_nonneg32 (bits_ne h h1) (by rw [bits_nat h]; omega)
theorem z_one : zm 0x3f800000 = FP.Core.one32 := by decide +kernel
theorem zv_one : zv 0x3f800000 = (FP.Core.one32 : Int) := by decide +kernel
theorem zv_zero : zv 0 = 0 := by decide +kernel
theorem z_bits_le {b : Int32} (h : 0 ≤ b.toInt) (h1 : b.toInt ≤ 1065353216) : zm b.toUInt32 ≤ FP.Core.one32 := by
  have e1 := FP.Core.zmag_toNat32 (bits_ne h (by omega))
  have e2 : FP.Core.zmag FP.Core.b32 (FP.Core.val32 0x3f800000) = FP.Core.unitsOf FP.Core.b32 ((0x3f800000 : UInt32).toNat % 2 ^ 31) := FP.Core.zmag_toNat32 (by decide +kernel)
  have e3 : zm 0x3f800000 = FP.Core.one32 := z_one
  unfold zm at e3 ⊢
  rw [e1, ← e3, e2, FP.Core.unitsOf_le_iff, bits_nat h]
  have : (0x3f800000 : UInt32).toNat % 2 ^ 31 = 1065353216 := by decide
  omega

def mg (K : Nat) (x : UInt32) : Prop := x.toNat % 2 ^ 31 < K * 2 ^ 23
theorem mg_fin {K : Nat} {x : UInt32} (h : mg K x) (hK : K ≤ 255) : FP.Core.FFin x := FP.Core.fin_of_lt32 h hK
theorem mg_n32 {K : Nat} {x : UInt32} (h : mg K x) (hK : K ≤ 255) : vf_n32 x := n32_of (mg_fin h hK).ne_nan
theorem mg_mono {K L : Nat} {x : UInt32} (h : mg K x) (hK : K ≤ L) : mg L x := Nat.lt_of_lt_of_le (show x.toNat % 2 ^ 31 < K * 2 ^ 23 from h) (Nat.mul_le_mul_right _ hK)
theorem mg_i2f (v : Int32) : mg 160 (FP.i2f v) := FP.Core.i2f_mag v
theorem mg_mul {Ka Kb K : Nat} {a b : UInt32} (ha : mg Ka a) (hb : mg Kb b) (h1 : Ka ≤ 255) (h2 : Kb ≤ 255) (hK : Ka + Kb - 129 + 3 ≤ K) : mg K (FP.fmul a b) := mg_mono (K := Ka + Kb - 129 + 3) (FP.Core.fmul_mag ha hb h1 h2) hK
theorem mg_sub {Ka K : Nat} {a b : UInt32} (ha : mg Ka a) (hb : mg Ka b) (h1 : Ka ≤ 255) (hK : Ka + 2 ≤ K) : mg K (FP.fsub a b) := mg_mono (K := Ka + 2) (FP.Core.fsub_mag ha hb h1) hK
theorem mg_div {a : UInt32} {v : Int32} (ha : mg 160 a) (hv : v.toInt ≠ 0) : mg 161 (FP.fdiv a (FP.i2f v)) := mg_mono (K := 160 + (149 - 23 - 1) - 127 + 3) (FP.Core.fdiv_mag (L := 127) ha (FP.Core.i2f_big hv).1 (FP.Core.i2f_big hv).2 (by decide) (by decide)) (by decide)
theorem mg_div2 {K : Nat} {a : UInt32} {v : Int32} (ha : mg K a) (hK0 : 2 ≤ K) (hK : K ≤ 250) (hv : v.toInt ≠ 0) : mg (K + 1) (FP.fdiv a (FP.i2f v)) := mg_mono (K := K + (149 - 23 - 1) - 127 + 3) (FP.Core.fdiv_mag (L := 127) ha (FP.Core.i2f_big hv).1 (FP.Core.i2f_big hv).2 (by omega) (by decide)) (by omega)
theorem mg_bits {b : Int32} (h : 0 ≤ b.toInt) (h1 : b.toInt ≤ 1065353216) : mg 128 b.toUInt32 := by
  unfold mg
  rw [bits_nat h]
  omega
theorem mg_one : mg 128 0x3f800000 := by unfold mg; decide
theorem mg_zero : mg 1 0 := by unfold mg; decide
/-- what holds of a rate, a risk -/
def unitF (K : Nat) (x : UInt32) : Prop := mg K x ∧ 0 ≤ zv x ∧ zm x ≤ FP.Core.one32
theorem unit_zv {K : Nat} {x : UInt32} (h : unitF K x) : zv x ≤ (FP.Core.one32 : Int) := by
  have := zv_nonneg h.2.1
  have := h.2.2
  omega
theorem risk_unit {s l : Int32} (hs : 0 ≤ s.toInt) (hs1 : s.toInt ≤ 65536) (hl : 0 ≤ l.toInt) (hl1 : l.toInt ≤ 65536) : unitF 161 (FP.fdiv (FP.i2f (l + 1)) (FP.i2f (s + l + 2))) := by
  have z1 : (1 : Int32).toInt = 1 := rfl
  have z2 : (2 : Int32).toInt = 2 := rfl
  have e1 : (l + 1).toInt = l.toInt + 1 := ii_succ (by omega)
  have e2 : (s + l).toInt = s.toInt + l.toInt := i_add (by omega) (by omega)
  have e3 : (s + l + 2).toInt = s.toInt + l.toInt + 2 := by rw [i_add] <;> rw [e2, z2] <;> omega
  have a := z_i2f (v := l + 1) (by omega) (by omega)
  have b := z_i2f (v := s + l + 2) (by omega) (by omega)
  have fa := mg_fin (mg_i2f (l + 1)) (by decide)
  have fb := mg_fin (mg_i2f (s + l + 2)) (by decide)
  have p := FP.Core.one32_pos
  have hb0 : 0 < zm (FP.i2f (s + l + 2)) := by rw [b.2]; exact Nat.mul_pos (by omega) p
  refine ⟨mg_div (mg_i2f _) (by omega), ?_, ?_⟩
  · refine z_fdiv_pos fa fb (z_i2f_pos (by omega)) ?_
    rw [b.1]
    exact Int.mul_pos (by omega) (by omega)
  · have := z_fdiv_le (V := 0x3f800000) fa fb (by decide +kernel) hb0 (by
      rw [z_one, a.2, b.2, Nat.mul_comm]
      exact Nat.mul_le_mul_left _ (Nat.mul_le_mul_right _ (by omega)))
    rwa [z_one] at this
theorem one_sub {K : Nat} {x : UInt32} (h : unitF K x) (hK : 128 ≤ K) (hK2 : K ≤ 200) : unitF (K + 2) (FP.fsub 0x3f800000 x) := by
  have f1 := mg_fin mg_one (by decide)
  have f2 := mg_fin h.1 (by omega)
  have hz := unit_zv h
  have le : zv (FP.fsub 0x3f800000 x) ≤ zv 0x3f800000 := z_fsub_le f1 f2 (by decide +kernel) (by have := h.2.1; omega)
  have ge : zv 0 ≤ zv (FP.fsub 0x3f800000 x) := z_fsub_ge f1 f2 (by decide +kernel) (by rw [zv_zero, zv_one]; omega)
  rw [zv_zero] at ge
  rw [zv_one] at le
  have := zv_nonneg ge
  exact ⟨mg_sub (mg_mono mg_one hK) h.1 (by omega) (Nat.le_refl _), ge, by omega⟩
theorem held_unit {a b L : Int32} (ha : 0 ≤ a.toInt) (ha1 : a.toInt ≤ 1065353216) (hb : 0 ≤ b.toInt) (hb1 : b.toInt ≤ 1065353216) (hL : 0 ≤ L.toInt) :
    mg 162 (FP.fmul b.toUInt32 (FP.i2f L)) ∧ mg 164 (FP.fsub a.toUInt32 (FP.fmul b.toUInt32 (FP.i2f L))) ∧ (¬ (Op.cmpValue (FP.fcmp (FP.fsub a.toUInt32 (FP.fmul b.toUInt32 (FP.i2f L))) 0x00000000) CmpOp.l ≤ 0) → unitF 164 (FP.fsub a.toUInt32 (FP.fmul b.toUInt32 (FP.i2f L)))) := by
  have m1 : mg 162 (FP.fmul b.toUInt32 (FP.i2f L)) := mg_mul (mg_bits hb hb1) (mg_i2f L) (by decide) (by decide) (by decide)
  have m2 : mg 164 (FP.fsub a.toUInt32 (FP.fmul b.toUInt32 (FP.i2f L))) := mg_sub (mg_mono (mg_bits ha ha1) (by decide)) m1 (by decide) (by decide)
  refine ⟨m1, m2, fun hg => ⟨m2, ?_, ?_⟩⟩
  · have f2 := mg_fin m2 (by decide)
    have hz := FP.Core.fcmp_zval f2.ne_nan (b := 0) (by decide +kernel)
    have hz2 : FP.fcmp (FP.fsub a.toUInt32 (FP.fmul b.toUInt32 (FP.i2f L))) 0 = some (compare (zv (FP.fsub a.toUInt32 (FP.fmul b.toUInt32 (FP.i2f L)))) (zv 0)) := hz
    rw [zv_zero] at hz2
    rw [hz2] at hg
    rcases Int.lt_or_le (zv (FP.fsub a.toUInt32 (FP.fmul b.toUInt32 (FP.i2f L)))) 0 with h | h
    · exfalso; apply hg
      rw [(FP.Core.compare_lt_iff _ _).mpr h]; decide
    · exact h
  · have p1 : 0 ≤ zv (FP.fmul b.toUInt32 (FP.i2f L)) := z_fmul_pos (mg_fin (mg_bits hb hb1) (by decide)) (mg_fin (mg_i2f L) (by decide)) (z_bits hb (by omega)) (z_i2f_pos hL)
    have le : zv (FP.fsub a.toUInt32 (FP.fmul b.toUInt32 (FP.i2f L))) ≤ zv a.toUInt32 := z_fsub_le (mg_fin (mg_bits ha ha1) (by decide)) (mg_fin m1 (by decide)) (bits_ne ha (by omega)) (by omega)
    have f2 := mg_fin m2 (by decide)
    have hz := FP.Core.fcmp_zval f2.ne_nan (b := 0) (by decide +kernel)
    have hz2 : FP.fcmp (FP.fsub a.toUInt32 (FP.fmul b.toUInt32 (FP.i2f L))) 0 = some (compare (zv (FP.fsub a.toUInt32 (FP.fmul b.toUInt32 (FP.i2f L)))) (zv 0)) := hz
    rw [zv_zero] at hz2
    rw [hz2] at hg
    have h0 : 0 ≤ zv (FP.fsub a.toUInt32 (FP.fmul b.toUInt32 (FP.i2f L))) := by
      rcases Int.lt_or_le (zv (FP.fsub a.toUInt32 (FP.fmul b.toUInt32 (FP.i2f L)))) 0 with h | h
      · exfalso; apply hg
        rw [(FP.Core.compare_lt_iff _ _).mpr h]; decide
      · exact h
    have e1 := zv_nonneg h0
    have e2 := zv_nonneg (z_bits ha (by omega))
    have e3 := z_bits_le ha ha1
    omega
theorem zero_unit : unitF 1 0 := ⟨mg_zero, by rw [zv_zero]; decide, by decide +kernel⟩
theorem mul_unit {Ka Kb K : Nat} {a b : UInt32} (ha : unitF Ka a) (hb : unitF Kb b) (h1 : Ka ≤ 255) (h2 : Kb ≤ 255) (hK : Ka + Kb - 129 + 3 ≤ K) : unitF K (FP.fmul a b) := by
  have f1 := mg_fin ha.1 h1
  have f2 := mg_fin hb.1 h2
  refine ⟨mg_mul ha.1 hb.1 h1 h2 hK, z_fmul_pos f1 f2 ha.2.1 hb.2.1, ?_⟩
  have := z_fmul_le (V := 0x3f800000) f1 f2 (by decide +kernel) (by rw [z_one]; exact Nat.mul_le_mul ha.2.2 hb.2.2)
  rwa [z_one] at this
/-- an amount at a rate -/
theorem cut_of {K : Nat} {x : UInt32} {v : Int32} (h : unitF K x) (hK : K ≤ 220) (h0 : 0 ≤ v.toInt) (h1 : v.toInt ≤ 16777216) : mg (K + 34) (FP.fmul (FP.i2f v) x) ∧ 0 ≤ (FP.f2i (FP.fmul (FP.i2f v) x)).toInt ∧ (FP.f2i (FP.fmul (FP.i2f v) x)).toInt ≤ v.toInt := by
  have f1 := mg_fin (mg_i2f v) (by decide)
  have f2 := mg_fin h.1 (by omega)
  have m : mg (K + 34) (FP.fmul (FP.i2f v) x) := mg_mul (mg_i2f v) h.1 (by decide) (by omega) (by omega)
  have a := z_i2f h0 h1
  have hf := z_f2i (x := FP.fmul (FP.i2f v) x) (k := v.toInt.toNat) (mg_fin m (by omega)).ne_nan (z_fmul_pos f1 f2 (z_i2f_pos h0) h.2.1) (by
    rw [← a.2]
    exact z_fmul_le (V := FP.i2f v) f1 f2 f1.ne_nan (Nat.mul_le_mul_left _ h.2.2))
  exact ⟨m, hf.1, by omega⟩

theorem risk_of {n : Nat} {B : jB} (I : Inv n B) (hN : n ≤ 1000) {c : Int32} (h0 : 0 ≤ c.toInt) (h1 : c.toInt < 6) : unitF 161 (r_X1_riskOf B c) := by
  have hc := Inv_c I (nat_lt (n := 6) h0 h1)
  unfold r_X1_riskOf
  rw [if_neg (show ¬ (r_X1_has B c = 0) by rw [has1_1 B h0 h1]; exact one_ne)]
  exact risk_unit hc.1.1 (by omega) hc.2.1 (by omega)
theorem n_risk1 {n : Nat} {B : jB} (I : Inv n B) (hN : n ≤ 1000) (c : Int32) : n_X1_riskOf B c := by
  refine ⟨fun _ => trivial, fun q => ⟨?_, trivial⟩⟩
  rcases has1_cases B c with g | g
  · exact absurd g.1 q
  · have := risk_of I hN g.2.1 g.2.2
    unfold r_X1_riskOf at this
    rw [if_neg q] at this
    exact mg_n32 this.1 (by decide)
theorem rate_b0 {n : Nat} {B : jB} (I : Inv n B) : 0 ≤ (B 15 0).toInt ∧ (B 15 0).toInt ≤ 1065353216 := by have := Inv_r I; omega
theorem rate_b1 {n : Nat} {B : jB} (I : Inv n B) : 0 ≤ (B 15 1).toInt ∧ (B 15 1).toInt ≤ 1065353216 := by have := Inv_r I; omega
theorem rate_b2 {n : Nat} {B : jB} (I : Inv n B) : 0 ≤ (B 15 2).toInt ∧ (B 15 2).toInt ≤ 1065353216 := by have := Inv_r I; omega
theorem cl_of {n : Nat} {B : jB} (I : Inv n B) {i : Int32} (h0 : 0 ≤ i.toInt) (h1 : i.toInt < (B 16 1).toInt) : 0 ≤ (B 8 i.toNatClampNeg).toInt ∧ (B 8 i.toNatClampNeg).toInt < 6 := by
  have := (Inv_i I (nat_lt_i h0 h1)).2.1
  omega
theorem mem_of {n : Nat} {B : jB} (I : Inv n B) {i : Int32} (h0 : 0 ≤ i.toInt) (h1 : i.toInt < (B 16 1).toInt) : 0 ≤ (B 7 i.toNatClampNeg).toInt ∧ (B 7 i.toNatClampNeg).toInt < (B 16 0).toInt := (Inv_i I (nat_lt_i h0 h1)).1
theorem am_of {n : Nat} {B : jB} (I : Inv n B) {i : Int32} (h0 : 0 ≤ i.toInt) (h1 : i.toInt < (B 16 1).toInt) : 100 ≤ (B 9 i.toNatClampNeg).toInt ∧ (B 9 i.toNatClampNeg).toInt ≤ 1000000 := (Inv_i I (nat_lt_i h0 h1)).2.2.1
theorem paid_of {n : Nat} {B : jB} (I : Inv n B) {i : Int32} (h0 : 0 ≤ i.toInt) (h1 : i.toInt < (B 16 1).toInt) : 0 ≤ (B 12 i.toNatClampNeg).toInt ∧ (B 12 i.toNatClampNeg).toInt ≤ (B 9 i.toNatClampNeg).toInt := (Inv_i I (nat_lt_i h0 h1)).2.2.2.2.1
theorem adv_of {n : Nat} {B : jB} (I : Inv n B) {i : Int32} (h0 : 0 ≤ i.toInt) (h1 : i.toInt < (B 16 1).toInt) : 0 ≤ (B 13 i.toNatClampNeg).toInt ∧ (B 13 i.toNatClampNeg).toInt ≤ (B 9 i.toNatClampNeg).toInt := (Inv_i I (nat_lt_i h0 h1)).2.2.2.2.2
theorem rate_unit {n : Nat} {B : jB} (I : Inv n B) (hN : n ≤ 1000) {i : Int32} (h0 : 0 ≤ i.toInt) (h1 : i.toInt < (B 16 1).toInt) (d : Int32) : unitF 201 (r_X0_rateAfter B i d) ∧ n_X0_rateAfter B i d := by
  have hc := cl_of I h0 h1
  have hr := risk_of I hN hc.1 hc.2
  have hg := one_sub hr (by decide) (by decide)
  have hh := held_unit (rate_b0 I).1 (rate_b0 I).2 (rate_b1 I).1 (rate_b1 I).2 (late_pos (B := B) (i := i) d)
  have hq : ¬ (r_X3_has B i = 0) := by rw [has3_1 I h0 h1]; exact one_ne
  unfold r_X0_rateAfter n_X0_rateAfter
  rw [if_neg hq, show (B 15 (0 : Int32).toNatClampNeg) = B 15 0 from rfl, show (B 15 (1 : Int32).toNatClampNeg) = B 15 1 from rfl]
  refine ⟨?_, fun q => absurd q hq, fun _ => ⟨mg_n32 hh.1 (by decide), mg_n32 hh.2.1 (by decide), fun _ => ⟨n_risk1 I hN _, mg_n32 hg.1 (by decide), mg_n32 (mul_unit zero_unit hg (by decide) (by decide) (K := 201) (by decide)).1 (by decide), trivial⟩, fun q => ⟨n_risk1 I hN _, mg_n32 hg.1 (by decide), mg_n32 (mul_unit (hh.2.2 q) hg (by decide) (by decide) (K := 201) (by decide)).1 (by decide), trivial⟩⟩⟩
  split
  · exact mul_unit zero_unit hg (by decide) (by decide) (by decide)
  · rename_i q
    exact mul_unit (hh.2.2 q) hg (by decide) (by decide) (by decide)
theorem offer_cut {n : Nat} {B : jB} (I : Inv n B) (hN : n ≤ 1000) {i : Int32} (h0 : 0 ≤ i.toInt) (h1 : i.toInt < (B 16 1).toInt) (d : Int32) : mg 235 (FP.fmul (FP.i2f (B 9 i.toNatClampNeg)) (r_X0_rateAfter B i d)) ∧ 0 ≤ (r_X0_offerAfter B i d).toInt ∧ (r_X0_offerAfter B i d).toInt ≤ (B 9 i.toNatClampNeg).toInt := by
  have ha := am_of I h0 h1
  unfold r_X0_offerAfter
  rw [if_neg (show ¬ (r_X3_has B i = 0) by rw [has3_1 I h0 h1]; exact one_ne)]
  exact cut_of (rate_unit I hN h0 h1 d).1 (by decide) (by omega) (by omega)
theorem n_offer {n : Nat} {B : jB} (I : Inv n B) (hN : n ≤ 1000) (i d : Int32) : n_X0_offerAfter B i d := by
  refine ⟨fun _ => trivial, fun q => ?_⟩
  rcases has3_cases I i with g | g
  · exact absurd g.1 q
  · exact ⟨(rate_unit I hN g.2.1 g.2.2 d).2, mg_n32 (offer_cut I hN g.2.1 g.2.2 d).1 (by decide), trivial⟩
theorem n_rateAfter {n : Nat} {B : jB} (I : Inv n B) (hN : n ≤ 1000) (i d : Int32) : n_X0_rateAfter B i d := by
  rcases has3_cases I i with g | g
  · exact ⟨fun _ => trivial, fun q => absurd g.1 q⟩
  · exact (rate_unit I hN g.2.1 g.2.2 d).2
theorem worth_mg {n : Nat} {B : jB} (I : Inv n B) (hN : n ≤ 1000) {i : Int32} (h0 : 0 ≤ i.toInt) (h1 : i.toInt < (B 16 1).toInt) :
    mg 163 (FP.fsub 0x3f800000 (r_X1_riskOf B (B 8 i.toNatClampNeg))) ∧ mg 200 (FP.fmul (FP.i2f (B 9 i.toNatClampNeg - r_X0_offerAfter B i 0)) (FP.fsub 0x3f800000 (r_X1_riskOf B (B 8 i.toNatClampNeg)))) ∧ mg 200 (FP.fmul (FP.i2f (r_X0_offerAfter B i 0)) (r_X1_riskOf B (B 8 i.toNatClampNeg))) ∧ mg 202 (FP.fsub (FP.fmul (FP.i2f (B 9 i.toNatClampNeg - r_X0_offerAfter B i 0)) (FP.fsub 0x3f800000 (r_X1_riskOf B (B 8 i.toNatClampNeg)))) (FP.fmul (FP.i2f (r_X0_offerAfter B i 0)) (r_X1_riskOf B (B 8 i.toNatClampNeg)))) := by
  have hc := cl_of I h0 h1
  have hr := risk_of I hN hc.1 hc.2
  have hg := one_sub hr (by decide) (by decide)
  have a := mg_mul (K := 200) (mg_i2f (B 9 i.toNatClampNeg - r_X0_offerAfter B i 0)) hg.1 (by decide) (by decide) (by decide)
  have b := mg_mul (K := 200) (mg_i2f (r_X0_offerAfter B i 0)) hr.1 (by decide) (by decide) (by decide)
  exact ⟨hg.1, a, b, mg_sub a b (by decide) (by decide)⟩
theorem worth_fin {n : Nat} {B : jB} (I : Inv n B) (hN : n ≤ 1000) {i : Int32} (h0 : 0 ≤ i.toInt) (h1 : i.toInt < (B 16 1).toInt) : mg 202 (r_X0_worthOf B i) := by
  unfold r_X0_worthOf
  rw [if_neg (show ¬ (r_X3_has B i = 0) by rw [has3_1 I h0 h1]; exact one_ne)]
  exact (worth_mg I hN h0 h1).2.2.2
theorem n_worth {n : Nat} {B : jB} (I : Inv n B) (hN : n ≤ 1000) (i : Int32) : n_X0_worthOf B i := by
  refine ⟨fun _ => trivial, fun q => ?_⟩
  rcases has3_cases I i with g | g
  · exact absurd g.1 q
  · have w := worth_mg I hN g.2.1 g.2.2
    exact ⟨n_offer I hN i 0, n_risk1 I hN _, mg_n32 w.1 (by decide), mg_n32 w.2.1 (by decide), mg_n32 w.2.2.1 (by decide), mg_n32 w.2.2.2 (by decide), trivial⟩
theorem n_canPayAhead {n : Nat} {B : jB} (I : Inv n B) (hN : n ≤ 1000) (i : Int32) : n_X0_canPayAhead B i :=
  ⟨fun _ => trivial, fun _ => ⟨fun _ => ⟨fun _ => ⟨fun _ => ⟨n_offer I hN i 0, fun _ => trivial, fun _ => ⟨fun _ => trivial, fun _ => trivial⟩⟩, fun _ => trivial⟩, fun _ => trivial⟩, fun _ => trivial⟩⟩
