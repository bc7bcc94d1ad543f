theorem L58_spec {b : Int32} (e : Int32) (he : b >>> ((23 : Int32) &&& 31) = e) (hE : e.toInt ≤ 254) {t : Nat} (ht : t < 2 ^ 24) : ∀ (c n : Nat) (x : UInt32) (k : Int32) (q : Int), 150 ≤ k.toInt → (k.toInt + c = e.toInt ∨ (c = 0 ∧ e.toInt ≤ k.toInt)) → c ≤ n → VF t q x → -149 ≤ q → q + c ≤ 104 → VF t (q + c) (L_X8_ofBits_58 b (n + 1) x k) ∧ NL_X8_ofBits_58 b (n + 1) x k
  | 0, n, x, k, q, hk, hc, hn, hx, h1, h2 => by
    have g : b >>> ((23 : Int32) &&& 31) ≤ k := by rw [he, i_le]; omega
    rw [L_X8_ofBits_58, NL_X8_ofBits_58, if_pos g]
    exact ⟨by rw [show q + ((0 : Nat) : Int) = q by omega]; exact hx, fun _ => trivial, fun q => absurd g q⟩
  | c + 1, n, x, k, q, hk, hc, hn, hx, h1, h2 => by
    obtain ⟨m, rfl⟩ : ∃ m, n = m + 1 := ⟨n - 1, by omega⟩
    have g : ¬ (b >>> ((23 : Int32) &&& 31) ≤ k) := by rw [he, i_le]; omega
    have hd := VF_two ht hx (by omega) (by omega)
    have ih := L58_spec e he hE ht c m (FP.fmul x 0x40000000) (k + 1) (q + 1) (by rw [ii_succ (by omega)]; omega) (by rw [ii_succ (by omega)]; omega) (by omega) hd (by omega) (by omega)
    rw [L_X8_ofBits_58, NL_X8_ofBits_58, if_neg g]
    refine ⟨?_, fun q => absurd q g, fun _ => ⟨n32_of (VF_nan hd), ih.2⟩⟩
    rw [show q + ((c + 1 : Nat) : Int) = q + 1 + (c : Int) by omega]
    exact ih.1
theorem L36_spec {b : Int32} (e : Int32) (he : b >>> ((23 : Int32) &&& 31) = e) (h0 : 0 ≤ e.toInt) (hE : e.toInt ≤ 254) {t : Nat} (ht : t < 2 ^ 24) : ∀ (c n : Nat) (x : UInt32) (k : Int32) (q : Int), 0 ≤ k.toInt → (k.toInt + c = 150 ∧ e.toInt ≤ 150 ∨ (c = 0 ∧ 150 ≤ k.toInt ∧ 150 ≤ e.toInt)) → c ≤ n → VF t q x → -149 ≤ q - c → q ≤ 0 → VF t (q - c + ((e.toInt - 150).toNat : Int)) (L_X8_ofBits_36 b (n + 1) x k) ∧ NL_X8_ofBits_36 b (n + 1) x k
  | 0, n, x, k, q, hk, hc, hn, hx, h1, h2 => by
    have g : (150 : Int32) ≤ k := by rw [i_le, show (150 : Int32).toInt = 150 from rfl]; omega
    have ih := L58_spec (b := b) e he hE ht (e.toInt - 150).toNat ((e.toInt - (150 : Int32).toInt).toNat) x 150 q (by decide) (by rw [show (150 : Int32).toInt = 150 from rfl]; omega) (by rw [show (150 : Int32).toInt = 150 from rfl]; omega) hx (by omega) (by omega)
    rw [L_X8_ofBits_36, NL_X8_ofBits_36, if_pos g, he]
    refine ⟨?_, fun _ => ih.2, fun q => absurd g q⟩
    rw [show q - ((0 : Nat) : Int) = q by omega]
    exact ih.1
  | c + 1, n, x, k, q, hk, hc, hn, hx, h1, h2 => by
    obtain ⟨m, rfl⟩ : ∃ m, n = m + 1 := ⟨n - 1, by omega⟩
    have g : ¬ ((150 : Int32) ≤ k) := by rw [i_le, show (150 : Int32).toInt = 150 from rfl]; omega
    have hd := VF_half ht hx (by omega) (by omega)
    have ih := L36_spec e he h0 hE ht c m (FP.fmul x 1056964608) (k + 1) (q - 1) (by rw [ii_succ (by omega)]; omega) (by rw [ii_succ (by omega)]; omega) (by omega) hd (by omega) (by omega)
    rw [L_X8_ofBits_36, NL_X8_ofBits_36, if_neg g]
    refine ⟨?_, fun q => absurd q g, fun _ => ⟨n32_of (VF_nan hd), ih.2⟩⟩
    rw [show q - ((c + 1 : Nat) : Int) = q - 1 - (c : Int) by omega]
    exact ih.1
theorem L40_spec {b : Int32} {t : Nat} (ht : t < 2 ^ 24) : ∀ (c n : Nat) (x : UInt32) (k : Int32) (q : Int), 0 ≤ k.toInt → k.toInt + c = 150 → c ≤ n → VF t q x → -149 ≤ q - c → q ≤ 0 → VF t (q - c) (L_X7_floatOf_40 b (n + 1) x k) ∧ NL_X7_floatOf_40 b (n + 1) x k
  | 0, n, x, k, q, hk, hc, hn, hx, h1, h2 => by
    have g : (150 : Int32) ≤ k := by rw [i_le, show (150 : Int32).toInt = 150 from rfl]; omega
    rw [L_X7_floatOf_40, NL_X7_floatOf_40, if_pos g]
    exact ⟨by rw [show q - ((0 : Nat) : Int) = q by omega]; exact hx, fun _ => trivial, fun q => absurd g q⟩
  | c + 1, n, x, k, q, hk, hc, hn, hx, h1, h2 => by
    obtain ⟨m, rfl⟩ : ∃ m, n = m + 1 := ⟨n - 1, by omega⟩
    have g : ¬ ((150 : Int32) ≤ k) := by rw [i_le, show (150 : Int32).toInt = 150 from rfl]; omega
    have hd := VF_half ht hx (by omega) (by omega)
    have ih := L40_spec (b := b) ht c m (FP.fmul x 1056964608) (k + 1) (q - 1) (by rw [ii_succ (by omega)]; omega) (by rw [ii_succ (by omega)]; omega) (by omega) hd (by omega) (by omega)
    rw [L_X7_floatOf_40, NL_X7_floatOf_40, if_neg g]
    refine ⟨?_, fun q => absurd q g, fun _ => ⟨n32_of (VF_nan hd), ih.2⟩⟩
    rw [show q - ((c + 1 : Nat) : Int) = q - 1 - (c : Int) by omega]
    exact ih.1
theorem u_ofNat {b : Int32} (h : 0 ≤ b.toInt) : UInt32.ofNat b.toInt.toNat = b.toUInt32 := by
  have hh := i_hi b
  conv => rhs; rw [an_of h]
  rfl
theorem e_ofBits8 {b : Int32} (h0 : 0 ≤ b.toInt) (h1 : b.toInt < 2139095040) : r_X8_ofBits b = b.toUInt32 ∧ n_X8_ofBits b := by
  have hs := an_sshr h0
  have z : (0 : Int32).toInt = 0 := rfl
  have z1 : (1 : Int32).toInt = 1 := rfl
  have z150 : (150 : Int32).toInt = 150 := rfl
  rw [← u_ofNat h0]
  unfold r_X8_ofBits n_X8_ofBits
  generalize hee : b >>> ((23 : Int32) &&& 31) = e at hs
  by_cases g : e = 0
  · have g2 : b.toInt.toNat / 8388608 = 0 := by rw [g, z] at hs; omega
    have hf := an_frac h0
    have hv : VF (b.toInt.toNat % 8388608) 0 (FP.i2f (b &&& 8388607)) := by
      have := VF_i2f (a := b &&& 8388607) (by omega)
      rwa [hf] at this
    have sp := L36_spec e hee (by omega) (by omega) (t := b.toInt.toNat % 8388608) (by omega) 149 (((150 : Int32).toInt - (1 : Int32).toInt).toNat) _ 1 0 (by decide) (by rw [z1]; omega) (by decide) hv (by omega) (by omega)
    rw [if_pos g]
    refine ⟨VF_end (by omega) ?_, fun _ => sp.2, fun q => absurd g q⟩
    rw [if_pos g2, if_pos g2]
    have := sp.1
    rw [show (0 : Int) - ((149 : Nat) : Int) + ((e.toInt - 150).toNat : Int) = -149 by omega] at this
    exact this
  · have g2 : ¬ (b.toInt.toNat / 8388608 = 0) := by intro q; apply g; rw [i_eq, hs, q]; rfl
    have hf := an_sig h0
    have hv : VF (8388608 + b.toInt.toNat % 8388608) 0 (FP.i2f ((b &&& 8388607) ||| 8388608)) := by
      have := VF_i2f (a := (b &&& 8388607) ||| 8388608) (by omega)
      rwa [hf] at this
    have sp := L36_spec e hee (by omega) (by omega) (t := 8388608 + b.toInt.toNat % 8388608) (by omega) (150 - b.toInt.toNat / 8388608) (((150 : Int32).toInt - e.toInt).toNat) _ e 0 (by omega) (by omega) (by rw [z150]; omega) hv (by omega) (by omega)
    rw [if_neg g]
    refine ⟨VF_end (by omega) ?_, fun q => absurd q g, fun _ => sp.2⟩
    rw [if_neg g2, if_neg g2]
    have := sp.1
    rw [show (0 : Int) - ((150 - b.toInt.toNat / 8388608 : Nat) : Int) + ((e.toInt - 150).toNat : Int) = ((b.toInt.toNat / 8388608 : Nat) : Int) - 150 by omega] at this
    exact this
theorem e_floatOf {b : Int32} (h0 : 0 ≤ b.toInt) (h1 : b.toInt < 1258291200) : r_X7_floatOf b = b.toUInt32 ∧ n_X7_floatOf b := by
  have hs := an_ushr h0
  have z : (0 : Int32).toInt = 0 := rfl
  have z1 : (1 : Int32).toInt = 1 := rfl
  have z150 : (150 : Int32).toInt = 150 := rfl
  rw [← u_ofNat h0]
  unfold r_X7_floatOf n_X7_floatOf
  generalize hee : (b.toUInt32 >>> ((23 : Int32).toUInt32 &&& Int32.toUInt32 31)).toInt32 = e at hs
  by_cases g : e = 0
  · have g2 : b.toInt.toNat / 8388608 = 0 := by rw [g, z] at hs; omega
    have hf := an_frac h0
    have hv : VF (b.toInt.toNat % 8388608) 0 (FP.i2f (b &&& 8388607)) := by
      have := VF_i2f (a := b &&& 8388607) (by omega)
      rwa [hf] at this
    have sp := L40_spec (b := b) (t := b.toInt.toNat % 8388608) (by omega) 149 (((150 : Int32).toInt - (1 : Int32).toInt).toNat) _ 1 0 (by decide) (by rw [z1]; omega) (by decide) hv (by omega) (by omega)
    rw [if_pos g]
    refine ⟨VF_end (by omega) ?_, fun _ => sp.2, fun q => absurd g q⟩
    rw [if_pos g2, if_pos g2]
    exact sp.1
  · have g2 : ¬ (b.toInt.toNat / 8388608 = 0) := by intro q; apply g; rw [i_eq, hs, q]; rfl
    have hf := an_sig h0
    have hv : VF (8388608 + b.toInt.toNat % 8388608) 0 (FP.i2f ((b &&& 8388607) ||| 8388608)) := by
      have := VF_i2f (a := (b &&& 8388607) ||| 8388608) (by omega)
      rwa [hf] at this
    have sp := L40_spec (b := b) (t := 8388608 + b.toInt.toNat % 8388608) (by omega) (150 - b.toInt.toNat / 8388608) (((150 : Int32).toInt - e.toInt).toNat) _ e 0 (by omega) (by omega) (by rw [z150]; omega) hv (by omega) (by omega)
    rw [if_neg g]
    refine ⟨VF_end (by omega) ?_, fun q => absurd q g, fun _ => sp.2⟩
    rw [if_neg g2, if_neg g2]
    have := sp.1
    rw [show (0 : Int) - ((150 - b.toInt.toNat / 8388608 : Nat) : Int) = ((b.toInt.toNat / 8388608 : Nat) : Int) - 150 by omega] at this
    exact this
theorem bits_nat {b : Int32} (h : 0 ≤ b.toInt) : b.toUInt32.toNat = b.toInt.toNat := by
  have hh := i_hi b
  rw [← u_ofNat h]
  show b.toInt.toNat % 2 ^ 32 = _
  omega
theorem bits_ne {b : Int32} (h : 0 ≤ b.toInt) (h1 : b.toInt < 2139095040) : FP.Core.val32 b.toUInt32 ≠ FP.Core.Datum.nan := by
  rw [FP.Core.ne_nan32, bits_nat h]
  omega
/-- bits of no sign compare as they stand -/
theorem bits_cmp {a b : Int32} (ha : 0 ≤ a.toInt) (ha1 : a.toInt < 2139095040) (hb : 0 ≤ b.toInt) (hb1 : b.toInt < 2139095040) :
    (FP.fcmp a.toUInt32 b.toUInt32 = some .lt ↔ a.toInt < b.toInt) ∧ (FP.fcmp a.toUInt32 b.toUInt32 = some .eq ↔ a = b) ∧ (FP.fcmp a.toUInt32 b.toUInt32 = some .gt ↔ b.toInt < a.toInt) := by
  have h := FP.Core.mono_bits32 (bits_ne ha ha1) (bits_ne hb hb1) (by rw [bits_nat ha]; omega) (by rw [bits_nat hb]; omega)
  rw [bits_nat ha, bits_nat hb] at h
  rw [i_eq]
  refine ⟨h.1.trans (by omega), h.2.1.trans (by omega), ?_⟩
  have := h.2.2
  refine this.trans (by omega)
