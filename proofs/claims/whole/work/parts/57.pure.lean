def mg (K : Nat) (x : UInt32) : Prop := x.toNat % 2 ^ 31 < K * 2 ^ 23
theorem mg_fin {K : Nat} {x : UInt32} (h : mg K x) (hK : K ≤ 255) : FP.Core.FFin x := FP.Core.fin_of_lt32 h hK
theorem mg_n32 {K : Nat} {x : UInt32} (h : mg K x) (hK : K ≤ 255) : vf_n32 x := n32_of (mg_fin h hK).ne_nan
theorem mg_mono {K L : Nat} {x : UInt32} (h : mg K x) (hK : K ≤ L) : mg L x := Nat.lt_of_lt_of_le (show x.toNat % 2 ^ 31 < K * 2 ^ 23 from h) (Nat.mul_le_mul_right _ hK)
theorem mg_i2f (v : Int32) : mg 160 (FP.i2f v) := FP.Core.i2f_mag v
theorem mg_mul {Ka Kb K : Nat} {a b : UInt32} (ha : mg Ka a) (hb : mg Kb b) (h1 : Ka ≤ 255) (h2 : Kb ≤ 255) (hK : Ka + Kb - 129 + 3 ≤ K) : mg K (FP.fmul a b) := mg_mono (K := Ka + Kb - 129 + 3) (FP.Core.fmul_mag ha hb h1 h2) hK
theorem mg_sub {Ka K : Nat} {a b : UInt32} (ha : mg Ka a) (hb : mg Ka b) (h1 : Ka ≤ 255) (hK : Ka + 2 ≤ K) : mg K (FP.fsub a b) := mg_mono (K := Ka + 2) (FP.Core.fsub_mag ha hb h1) hK
theorem mg_div {a : UInt32} {v : Int32} (ha : mg 160 a) (hv : v.toInt ≠ 0) : mg 161 (FP.fdiv a (FP.i2f v)) := mg_mono (K := 160 + (149 - 23 - 1) - 127 + 3) (FP.Core.fdiv_mag (L := 127) ha (FP.Core.i2f_big hv).1 (FP.Core.i2f_big hv).2 (by decide) (by decide)) (by decide)
theorem mg_div2 {K : Nat} {a : UInt32} {v : Int32} (ha : mg K a) (hK0 : 2 ≤ K) (hK : K ≤ 250) (hv : v.toInt ≠ 0) : mg (K + 1) (FP.fdiv a (FP.i2f v)) := mg_mono (K := K + (149 - 23 - 1) - 127 + 3) (FP.Core.fdiv_mag (L := 127) ha (FP.Core.i2f_big hv).1 (FP.Core.i2f_big hv).2 (by omega) (by decide)) (by omega)
theorem mg_bits {b : Int32} (h : 0 ≤ b.toInt) (h1 : b.toInt ≤ 1065353216) : mg 128 b.toUInt32 := by
  unfold mg
  rw [bits_nat h]
  omega
theorem mg_one : mg 128 0x3f800000 := by unfold mg; decide
theorem mg_zero : mg 1 0 := by unfold mg; decide
/-- what holds of a rate, a risk -/
def unitF (K : Nat) (x : UInt32) : Prop := mg K x ∧ 0 ≤ zv x ∧ zm x ≤ FP.Core.one32
theorem unit_zv {K : Nat} {x : UInt32} (h : unitF K x) : zv x ≤ (FP.Core.one32 : Int) := by
  have := zv_nonneg h.2.1
  have := h.2.2
  omega
theorem risk_unit {s l : Int32} (hs : 0 ≤ s.toInt) (hs1 : s.toInt ≤ 65536) (hl : 0 ≤ l.toInt) (hl1 : l.toInt ≤ 65536) : unitF 161 (FP.fdiv (FP.i2f (l + 1)) (FP.i2f (s + l + 2))) := by
  have z1 : (1 : Int32).toInt = 1 := rfl
  have z2 : (2 : Int32).toInt = 2 := rfl
  have e1 : (l + 1).toInt = l.toInt + 1 := ii_succ (by omega)
  have e2 : (s + l).toInt = s.toInt + l.toInt := i_add (by omega) (by omega)
  have e3 : (s + l + 2).toInt = s.toInt + l.toInt + 2 := by rw [i_add] <;> rw [e2, z2] <;> omega
  have a := z_i2f (v := l + 1) (by omega) (by omega)
  have b := z_i2f (v := s + l + 2) (by omega) (by omega)
  have fa := mg_fin (mg_i2f (l + 1)) (by decide)
  have fb := mg_fin (mg_i2f (s + l + 2)) (by decide)
  have p := FP.Core.one32_pos
  have hb0 : 0 < zm (FP.i2f (s + l + 2)) := by rw [b.2]; exact Nat.mul_pos (by omega) p
  refine ⟨mg_div (mg_i2f _) (by omega), ?_, ?_⟩
  · refine z_fdiv_pos fa fb (z_i2f_pos (by omega)) ?_
    rw [b.1]
    exact Int.mul_pos (by omega) (by omega)
  · have := z_fdiv_le (V := 0x3f800000) fa fb (by decide +kernel) hb0 (by
      rw [z_one, a.2, b.2, Nat.mul_comm]
      exact Nat.mul_le_mul_left _ (Nat.mul_le_mul_right _ (by omega)))
    rwa [z_one] at this
theorem one_sub {K : Nat} {x : UInt32} (h : unitF K x) (hK : 128 ≤ K) (hK2 : K ≤ 200) : unitF (K + 2) (FP.fsub 0x3f800000 x) := by
  have f1 := mg_fin mg_one (by decide)
  have f2 := mg_fin h.1 (by omega)
  have hz := unit_zv h
  have le : zv (FP.fsub 0x3f800000 x) ≤ zv 0x3f800000 := z_fsub_le f1 f2 (by decide +kernel) (by have := h.2.1; omega)
  have ge : zv 0 ≤ zv (FP.fsub 0x3f800000 x) := z_fsub_ge f1 f2 (by decide +kernel) (by rw [zv_zero, zv_one]; omega)
  rw [zv_zero] at ge
  rw [zv_one] at le
  have := zv_nonneg ge
  exact ⟨mg_sub (mg_mono mg_one hK) h.1 (by omega) (Nat.le_refl _), ge, by omega⟩
theorem held_unit {a b L : Int32} (ha : 0 ≤ a.toInt) (ha1 : a.toInt ≤ 1065353216) (hb : 0 ≤ b.toInt) (hb1 : b.toInt ≤ 1065353216) (hL : 0 ≤ L.toInt) :
    mg 162 (FP.fmul b.toUInt32 (FP.i2f L)) ∧ mg 164 (FP.fsub a.toUInt32 (FP.fmul b.toUInt32 (FP.i2f L))) ∧ (¬ (Op.cmpValue (FP.fcmp (FP.fsub a.toUInt32 (FP.fmul b.toUInt32 (FP.i2f L))) 0x00000000) CmpOp.l ≤ 0) → unitF 164 (FP.fsub a.toUInt32 (FP.fmul b.toUInt32 (FP.i2f L)))) := by
  have m1 : mg 162 (FP.fmul b.toUInt32 (FP.i2f L)) := mg_mul (mg_bits hb hb1) (mg_i2f L) (by decide) (by decide) (by decide)
  have m2 : mg 164 (FP.fsub a.toUInt32 (FP.fmul b.toUInt32 (FP.i2f L))) := mg_sub (mg_mono (mg_bits ha ha1) (by decide)) m1 (by decide) (by decide)
  refine ⟨m1, m2, fun hg => ⟨m2, ?_, ?_⟩⟩
  · have f2 := mg_fin m2 (by decide)
    have hz := FP.Core.fcmp_zval f2.ne_nan (b := 0) (by decide +kernel)
    have hz2 : FP.fcmp (FP.fsub a.toUInt32 (FP.fmul b.toUInt32 (FP.i2f L))) 0 = some (compare (zv (FP.fsub a.toUInt32 (FP.fmul b.toUInt32 (FP.i2f L)))) (zv 0)) := hz
    rw [zv_zero] at hz2
    rw [hz2] at hg
    rcases Int.lt_or_le (zv (FP.fsub a.toUInt32 (FP.fmul b.toUInt32 (FP.i2f L)))) 0 with h | h
    · exfalso; apply hg
      rw [(FP.Core.compare_lt_iff _ _).mpr h]; decide
    · exact h
  · have p1 : 0 ≤ zv (FP.fmul b.toUInt32 (FP.i2f L)) := z_fmul_pos (mg_fin (mg_bits hb hb1) (by decide)) (mg_fin (mg_i2f L) (by decide)) (z_bits hb (by omega)) (z_i2f_pos hL)
    have le : zv (FP.fsub a.toUInt32 (FP.fmul b.toUInt32 (FP.i2f L))) ≤ zv a.toUInt32 := z_fsub_le (mg_fin (mg_bits ha ha1) (by decide)) (mg_fin m1 (by decide)) (bits_ne ha (by omega)) (by omega)
    have f2 := mg_fin m2 (by decide)
    have hz := FP.Core.fcmp_zval f2.ne_nan (b := 0) (by decide +kernel)
    have hz2 : FP.fcmp (FP.fsub a.toUInt32 (FP.fmul b.toUInt32 (FP.i2f L))) 0 = some (compare (zv (FP.fsub a.toUInt32 (FP.fmul b.toUInt32 (FP.i2f L)))) (zv 0)) := hz
    rw [zv_zero] at hz2
    rw [hz2] at hg
    have h0 : 0 ≤ zv (FP.fsub a.toUInt32 (FP.fmul b.toUInt32 (FP.i2f L))) := by
      rcases Int.lt_or_le (zv (FP.fsub a.toUInt32 (FP.fmul b.toUInt32 (FP.i2f L)))) 0 with h | h
      · exfalso; apply hg
        rw [(FP.Core.compare_lt_iff _ _).mpr h]; decide
      · exact h
    have e1 := zv_nonneg h0
    have e2 := zv_nonneg (z_bits ha (by omega))
    have e3 := z_bits_le ha ha1
    omega
theorem zero_unit : unitF 1 0 := ⟨mg_zero, by rw [zv_zero]; decide, by decide +kernel⟩
theorem mul_unit {Ka Kb K : Nat} {a b : UInt32} (ha : unitF Ka a) (hb : unitF Kb b) (h1 : Ka ≤ 255) (h2 : Kb ≤ 255) (hK : Ka + Kb - 129 + 3 ≤ K) : unitF K (FP.fmul a b) := by
  have f1 := mg_fin ha.1 h1
  have f2 := mg_fin hb.1 h2
  refine ⟨mg_mul ha.1 hb.1 h1 h2 hK, z_fmul_pos f1 f2 ha.2.1 hb.2.1, ?_⟩
  have := z_fmul_le (V := 0x3f800000) f1 f2 (by decide +kernel) (by rw [z_one]; exact Nat.mul_le_mul ha.2.2 hb.2.2)
  rwa [z_one] at this
/-- an amount at a rate -/
theorem cut_of {K : Nat} {x : UInt32} {v : Int32} (h : unitF K x) (hK : K ≤ 220) (h0 : 0 ≤ v.toInt) (h1 : v.toInt ≤ 16777216) : mg (K + 34) (FP.fmul (FP.i2f v) x) ∧ 0 ≤ (FP.f2i (FP.fmul (FP.i2f v) x)).toInt ∧ (FP.f2i (FP.fmul (FP.i2f v) x)).toInt ≤ v.toInt := by
  have f1 := mg_fin (mg_i2f v) (by decide)
  have f2 := mg_fin h.1 (by omega)
  have m : mg (K + 34) (FP.fmul (FP.i2f v) x) := mg_mul (mg_i2f v) h.1 (by decide) (by omega) (by omega)
  have a := z_i2f h0 h1
  have hf := z_f2i (x := FP.fmul (FP.i2f v) x) (k := v.toInt.toNat) (mg_fin m (by omega)).ne_nan (z_fmul_pos f1 f2 (z_i2f_pos h0) h.2.1) (by
    rw [← a.2]
    exact z_fmul_le (V := FP.i2f v) f1 f2 f1.ne_nan (Nat.mul_le_mul_left _ h.2.2))
  exact ⟨m, hf.1, by omega⟩
