def zv (x : UInt32) : Int := FP.Core.zval FP.Core.b32 (FP.Core.val32 x)
def zm (x : UInt32) : Nat := FP.Core.zmag FP.Core.b32 (FP.Core.val32 x)
theorem zv_abs (x : UInt32) : zv x = (zm x : Int) ∨ zv x = -(zm x : Int) := by
  unfold zv zm FP.Core.zval FP.Core.signed
  split
  · right; rfl
  · left; rfl
theorem zv_nonneg {x : UInt32} (h : 0 ≤ zv x) : zv x = (zm x : Int) := by
  rcases zv_abs x with e | e <;> omega
theorem z_fmul_le {a b V : UInt32} (ha : FP.Core.FFin a) (hb : FP.Core.FFin b) (hV : FP.Core.val32 V ≠ FP.Core.Datum.nan) (h : zm a * zm b ≤ zm V * FP.Core.one32) : zm (FP.fmul a b) ≤ zm V := by
  obtain ⟨s, c, q, ea⟩ := ha
  obtain ⟨t, d, r, eb⟩ := hb
  have fa := FP.Core.val32_fits a
  have fb := FP.Core.val32_fits b
  unfold zm at h ⊢
  rw [ea] at fa h
  rw [eb] at fb h
  obtain ⟨h1, h2, h3⟩ := FP.Core.product_units fa fb
  have hm : FP.Core.val32 (FP.fmul a b) = _ := FP.Core.val32_fmul a b
  rw [hm, ea, eb, h1]
  show FP.Core.zmag FP.Core.b32 (FP.Core.roundRatio FP.Core.b32 (s != t) (c * d) 1 (q + r)) ≤ _
  refine FP.Core.zmag_roundRatio_le (e0 := 2 * FP.Core.b32.qmin) FP.Core.good_b32 (by decide) (FP.Core.val32_fits V) hV (by decide) h2 ?_
  rw [h3, Nat.mul_one]
  exact h
theorem z_fmul_pos {a b : UInt32} (ha : FP.Core.FFin a) (hb : FP.Core.FFin b) (h1 : 0 ≤ zv a) (h2 : 0 ≤ zv b) : 0 ≤ zv (FP.fmul a b) := by
  obtain ⟨s, c, q, ea⟩ := ha
  obtain ⟨t, d, r, eb⟩ := hb
  have hm : FP.Core.val32 (FP.fmul a b) = _ := FP.Core.val32_fmul a b
  unfold zv at h1 h2 ⊢
  rw [ea] at h1
  rw [eb] at h2
  rw [hm, ea, eb]
  show 0 ≤ FP.Core.zval FP.Core.b32 (FP.Core.roundRatio FP.Core.b32 (s != t) (c * d) 1 (q + r))
  unfold FP.Core.zval at h1 h2 ⊢
  rw [FP.Core.sgn_roundRatio]
  unfold FP.Core.sgn FP.Core.zmag FP.Core.inUnits at h1 h2
  have p1 := Nat.two_pow_pos (q - FP.Core.b32.qmin).toNat
  have p2 := Nat.two_pow_pos (r - FP.Core.b32.qmin).toNat
  cases s <;> cases t
  · exact Int.natCast_nonneg _
  · have : d = 0 := by
      simp only [FP.Core.signed, if_true] at h2
      rcases Nat.eq_zero_or_pos d with e | e
      · exact e
      · have := Nat.mul_pos e p2; omega
    subst this
    rw [Nat.mul_zero]
    show 0 ≤ FP.Core.signed true (FP.Core.zmag FP.Core.b32 (FP.Core.Datum.fin true 0 FP.Core.b32.qmin))
    decide
  · have : c = 0 := by
      simp only [FP.Core.signed, if_true] at h1
      rcases Nat.eq_zero_or_pos c with e | e
      · exact e
      · have := Nat.mul_pos e p1; omega
    subst this
    rw [Nat.zero_mul]
    show 0 ≤ FP.Core.signed true (FP.Core.zmag FP.Core.b32 (FP.Core.Datum.fin true 0 FP.Core.b32.qmin))
    decide
  · exact Int.natCast_nonneg _
theorem z_fdiv_le {a b V : UInt32} (ha : FP.Core.FFin a) (hb : FP.Core.FFin b) (hV : FP.Core.val32 V ≠ FP.Core.Datum.nan) (h0 : 0 < zm b) (h : zm a * FP.Core.one32 ≤ zm V * zm b) : zm (FP.fdiv a b) ≤ zm V := by
  obtain ⟨s, c, q, ea⟩ := ha
  obtain ⟨t, d, r, eb⟩ := hb
  have fa := FP.Core.val32_fits a
  have fb := FP.Core.val32_fits b
  unfold zm at h h0 ⊢
  rw [ea] at fa h
  rw [eb] at fb h h0
  have hm : FP.Core.val32 (FP.fdiv a b) = _ := FP.Core.val32_fdiv a b
  rw [hm, ea, eb]
  have hq1 : -149 ≤ q := by have := fa.2.1; rw [b32_qmin] at this; exact this
  have hr1 : -149 ≤ r := by have := fb.2.1; rw [b32_qmin] at this; exact this
  have hr2 : r ≤ 104 := by have := fb.2.2.1; rw [b32_qmax] at this; exact this
  have hd : d ≠ 0 := by
    intro e; subst e
    simp [FP.Core.zmag, FP.Core.inUnits] at h0
  have hd0 : 0 < d := Nat.pos_of_ne_zero hd
  show FP.Core.zmag FP.Core.b32 (if d = 0 then _ else FP.Core.roundRatio FP.Core.b32 (s != t) c d (q - r)) ≤ _
  rw [if_neg hd]
  refine FP.Core.zmag_roundRatio_le (e0 := -600) FP.Core.good_b32 hd0 (FP.Core.val32_fits V) hV (by decide) (by omega) ?_
  change FP.Core.inUnits c q FP.Core.b32.qmin * FP.Core.one32 ≤ FP.Core.zmag FP.Core.b32 (FP.Core.val32 V) * FP.Core.inUnits d r FP.Core.b32.qmin at h
  generalize FP.Core.zmag FP.Core.b32 (FP.Core.val32 V) = v at *
  unfold FP.Core.inUnits at h ⊢
  rw [b32_qmin] at h ⊢
  have hp := Nat.two_pow_pos (r - -149).toNat
  refine Nat.le_of_mul_le_mul_right ?_ hp
  have e1 : c * 2 ^ (q - r - -600).toNat * 2 ^ (r - -149).toNat = c * 2 ^ (q - -149).toNat * FP.Core.one32 * 2 ^ 451 := by
    unfold FP.Core.one32
    rw [Nat.mul_assoc, Nat.mul_assoc, Nat.mul_assoc, ← Nat.pow_add, ← Nat.pow_add, ← Nat.pow_add]
    congr 2
    omega
  have e2 : v * 2 ^ ((-149 : Int) - -600).toNat * d * 2 ^ (r - -149).toNat = v * (d * 2 ^ (r - -149).toNat) * 2 ^ 451 := by
    rw [show ((-149 : Int) - -600).toNat = 451 by decide]
    ac_rfl
  rw [e1, e2]
  exact Nat.mul_le_mul_right _ h
theorem z_fdiv_pos {a b : UInt32} (ha : FP.Core.FFin a) (hb : FP.Core.FFin b) (h1 : 0 ≤ zv a) (h2 : 0 < zv b) : 0 ≤ zv (FP.fdiv a b) := by
  obtain ⟨s, c, q, ea⟩ := ha
  obtain ⟨t, d, r, eb⟩ := hb
  have hm : FP.Core.val32 (FP.fdiv a b) = _ := FP.Core.val32_fdiv a b
  unfold zv at h1 h2 ⊢
  rw [ea] at h1
  rw [eb] at h2
  rw [hm, ea, eb]
  have hd : d ≠ 0 := by
    intro e; subst e
    cases t <;> simp [FP.Core.zval, FP.Core.zmag, FP.Core.inUnits, FP.Core.signed, FP.Core.sgn] at h2
  show 0 ≤ FP.Core.zval FP.Core.b32 (if d = 0 then _ else FP.Core.roundRatio FP.Core.b32 (s != t) c d (q - r))
  rw [if_neg hd]
  unfold FP.Core.zval at h1 h2 ⊢
  rw [FP.Core.sgn_roundRatio]
  unfold FP.Core.sgn FP.Core.zmag FP.Core.inUnits at h1 h2
  have p1 := Nat.two_pow_pos (q - FP.Core.b32.qmin).toNat
  cases t
  · cases s
    · exact Int.natCast_nonneg _
    · have : c = 0 := by
        simp only [FP.Core.signed, if_true] at h1
        rcases Nat.eq_zero_or_pos c with e | e
        · exact e
        · have := Nat.mul_pos e p1; omega
      subst this
      show 0 ≤ FP.Core.signed _ (FP.Core.zmag FP.Core.b32 (FP.Core.Datum.fin _ 0 FP.Core.b32.qmin))
      decide
  · simp only [FP.Core.signed, if_true] at h2; omega
theorem z_fsub_le {a b V : UInt32} (ha : FP.Core.FFin a) (hb : FP.Core.FFin b) (hV : FP.Core.val32 V ≠ FP.Core.Datum.nan) (h : zv a - zv b ≤ zv V) : zv (FP.fsub a b) ≤ zv V := by
  have hm : FP.Core.val32 (FP.fsub a b) = _ := FP.Core.val32_fsub a b
  unfold zv at h ⊢
  rw [hm]
  have hb' : ∃ s c q, FP.Core.negate (FP.Core.val32 b) = FP.Core.Datum.fin s c q := by
    obtain ⟨t, d, r, eb⟩ := hb
    exact ⟨!t, d, r, by rw [eb]; rfl⟩
  refine FP.Core.sum_le FP.Core.good_b32 ha hb' (FP.Core.val32_fits a) (FP.Core.negate_fits (FP.Core.val32_fits b)) (FP.Core.val32_fits V) hV ?_
  rw [FP.Core.zval_negate]
  omega
theorem z_fsub_ge {a b V : UInt32} (ha : FP.Core.FFin a) (hb : FP.Core.FFin b) (hV : FP.Core.val32 V ≠ FP.Core.Datum.nan) (h : zv V ≤ zv a - zv b) : zv V ≤ zv (FP.fsub a b) := by
  have hm : FP.Core.val32 (FP.fsub a b) = _ := FP.Core.val32_fsub a b
  unfold zv at h ⊢
  rw [hm]
  have hb' : ∃ s c q, FP.Core.negate (FP.Core.val32 b) = FP.Core.Datum.fin s c q := by
    obtain ⟨t, d, r, eb⟩ := hb
    exact ⟨!t, d, r, by rw [eb]; rfl⟩
  refine FP.Core.sum_ge FP.Core.good_b32 ha hb' (FP.Core.val32_fits a) (FP.Core.negate_fits (FP.Core.val32_fits b)) (FP.Core.val32_fits V) hV ?_
  rw [FP.Core.zval_negate]
  omega
theorem z_f2i {x : UInt32} {k : Nat} (hx : FP.Core.val32 x ≠ FP.Core.Datum.nan) (h0 : 0 ≤ zv x) (h1 : zm x ≤ k * FP.Core.one32) : 0 ≤ (FP.f2i x).toInt ∧ (FP.f2i x).toInt ≤ k := by
  have e : (FP.f2i x).toInt = _ := FP.Core.f2i_val hx
  rw [e]
  unfold zv FP.Core.zval at h0
  unfold zm at h1
  generalize FP.Core.zmag FP.Core.b32 (FP.Core.val32 x) = z at *
  have hz : z / FP.Core.one32 ≤ k := by
    have := Nat.div_le_div_right (c := FP.Core.one32) h1
    rwa [Nat.mul_div_cancel _ FP.Core.one32_pos] at this
  have hp : (0 : Int) ≤ FP.Core.signed (FP.Core.sgn (FP.Core.val32 x)) (z / FP.Core.one32) ∧ FP.Core.signed (FP.Core.sgn (FP.Core.val32 x)) (z / FP.Core.one32) ≤ k := by
    have hz0 : FP.Core.sgn (FP.Core.val32 x) = true → z / FP.Core.one32 = 0 := by
      intro hs
      unfold FP.Core.signed at h0
      rw [if_pos hs] at h0
      have : z = 0 := by omega
      subst this
      rw [Nat.zero_div]
    generalize z / FP.Core.one32 = m at hz hz0
    unfold FP.Core.signed
    split
    · rename_i hs
      have := hz0 hs
      omega
    · omega
  generalize FP.Core.signed (FP.Core.sgn (FP.Core.val32 x)) (z / FP.Core.one32) = w at hp ⊢
  omega
theorem z_i2f {v : Int32} (h0 : 0 ≤ v.toInt) (h1 : v.toInt ≤ 16777216) : zv (FP.i2f v) = v.toInt * (FP.Core.one32 : Int) ∧ zm (FP.i2f v) = v.toInt.toNat * FP.Core.one32 := by
  have hi : FP.Core.FInt v.toInt (FP.i2f v) := FP.Core.i2f_int (by omega)
  have hz : zv (FP.i2f v) = v.toInt * (FP.Core.one32 : Int) := FP.Core.FInt_zval hi
  refine ⟨hz, ?_⟩
  have hp : 0 ≤ v.toInt * (FP.Core.one32 : Int) := Int.mul_nonneg h0 (Int.natCast_nonneg _)
  have := zv_nonneg (x := FP.i2f v) (by rw [hz]; exact hp)
  rw [hz] at this
  apply Int.ofNat.inj
  show ((zm (FP.i2f v) : Nat) : Int) = ((v.toInt.toNat * FP.Core.one32 : Nat) : Int)
  rw [← this, Int.natCast_mul, Int.toNat_of_nonneg h0]
theorem z_i2f_pos {v : Int32} (h0 : 0 ≤ v.toInt) : 0 ≤ zv (FP.i2f v) := by
  have h := FP.Core.val32_i2f v
  unfold zv
  rw [show FP.Core.val32 (FP.i2f v) = FP.Core.round FP.Core.b32 (FP.Core.ofInt v.toInt) from h]
  unfold FP.Core.ofInt
  rw [decide_eq_false (by omega)]
  unfold FP.Core.zval
  show 0 ≤ FP.Core.signed (FP.Core.sgn (FP.Core.roundRatio FP.Core.b32 false _ 1 0)) _
  rw [FP.Core.sgn_roundRatio]
  exact Int.natCast_nonneg _
theorem z_bits {b : Int32} (h : 0 ≤ b.toInt) (h1 : b.toInt < 2139095040) : 0 ≤ zv b.toUInt32 := FP.Core.zval_nonneg32 (bits_ne h h1) (by rw [bits_nat h]; omega)
theorem z_one : zm 0x3f800000 = FP.Core.one32 := by decide +kernel
theorem zv_one : zv 0x3f800000 = (FP.Core.one32 : Int) := by decide +kernel
theorem zv_zero : zv 0 = 0 := by decide +kernel
theorem z_bits_le {b : Int32} (h : 0 ≤ b.toInt) (h1 : b.toInt ≤ 1065353216) : zm b.toUInt32 ≤ FP.Core.one32 := by
  have e1 := FP.Core.zmag_toNat32 (bits_ne h (by omega))
  have e2 : FP.Core.zmag FP.Core.b32 (FP.Core.val32 0x3f800000) = FP.Core.unitsOf FP.Core.b32 ((0x3f800000 : UInt32).toNat % 2 ^ 31) := FP.Core.zmag_toNat32 (by decide +kernel)
  have e3 : zm 0x3f800000 = FP.Core.one32 := z_one
  unfold zm at e3 ⊢
  rw [e1, ← e3, e2, FP.Core.unitsOf_le_iff, bits_nat h]
  have : (0x3f800000 : UInt32).toNat % 2 ^ 31 = 1065353216 := by decide
  omega
