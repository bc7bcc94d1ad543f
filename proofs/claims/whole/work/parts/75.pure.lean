theorem fs_bd {g : Nat → Int32} : ∀ (c k : Nat) (a : Int32), (∀ j, k ≤ j → j < k + c → 1 ≤ (g j).toInt ∧ (g j).toInt ≤ 9) → 0 ≤ a.toInt → a.toInt + 9 * c < 2147483648 → a.toInt + c ≤ (fs g a c k).toInt ∧ (fs g a c k).toInt ≤ a.toInt + 9 * c
  | 0, k, a, hg, h0, h1 => by show a.toInt + ((0 : Nat) : Int) ≤ a.toInt ∧ a.toInt ≤ _; omega
  | c + 1, k, a, hg, h0, h1 => by
    have hk := hg k (Nat.le_refl _) (by omega)
    have e : (a + g k).toInt = a.toInt + (g k).toInt := i_add (by omega) (by omega)
    have ih := fs_bd c (k + 1) (a + g k) (fun j h1 h2 => hg j (by omega) (by omega)) (by omega) (by omega)
    show _ ≤ (fs g (a + g k) c (k + 1)).toInt ∧ (fs g (a + g k) c (k + 1)).toInt ≤ _
    omega
theorem W_bd {n : Nat} {B : jB} (I : Inv n B) (hm : 0 < (B 16 0).toInt) : 1 ≤ (r_X4_allWeights B).toInt ∧ (r_X4_allWeights B).toInt ≤ 72 := by
  have h8 := Inv_m I
  rw [e_allWeights4 I]
  have z : (0 : Int32).toInt = 0 := rfl
  have := fs_bd (g := fun k => B 0 k) (B 16 0).toInt.toNat 0 0 (fun j _ hj => Inv_w I (by omega)) (by omega) (by omega)
  omega
theorem part_bd {B : jB} {loss W : Int32} {k : Nat} (hl : 1 ≤ loss.toInt ∧ loss.toInt ≤ 1000000) (hw : 1 ≤ (B 0 k).toInt ∧ (B 0 k).toInt ≤ 9) (hW : 1 ≤ W.toInt ∧ W.toInt ≤ 72) : 0 ≤ (part B loss W k).toInt ∧ (part B loss W k).toInt ≤ 9000000 := by
  have fa := mg_fin (mg_i2f loss) (by decide)
  have fw := mg_fin (mg_i2f (B 0 k)) (by decide)
  have fW := mg_fin (mg_i2f W) (by decide)
  have mP : mg 194 (FP.fmul (FP.i2f loss) (FP.i2f (B 0 k))) := mg_mul (mg_i2f _) (mg_i2f _) (by decide) (by decide) (by decide)
  have fP := mg_fin mP (by decide)
  have mD : mg 195 (FP.fdiv (FP.fmul (FP.i2f loss) (FP.i2f (B 0 k))) (FP.i2f W)) := mg_div2 mP (by decide) (by decide) (by omega)
  have a := z_i2f (v := loss) (by omega) (by omega)
  have b := z_i2f (v := B 0 k) (by omega) (by omega)
  have w := z_i2f (v := W) (by omega) (by omega)
  have p0 : 0 ≤ zv (FP.fmul (FP.i2f loss) (FP.i2f (B 0 k))) := z_fmul_pos fa fw (z_i2f_pos (by omega)) (z_i2f_pos (by omega))
  have v9 := z_i2f (v := (9000000 : Int32)) (by decide) (by decide)
  have f9 := mg_fin (mg_i2f (9000000 : Int32)) (by decide)
  have o := FP.Core.one32_pos
  have prod : loss.toInt.toNat * (B 0 k).toInt.toNat ≤ 9000000 := by
    have : loss.toInt.toNat * (B 0 k).toInt.toNat ≤ 1000000 * 9 := Nat.mul_le_mul (by omega) (by omega)
    omega
  have pl : zm (FP.fmul (FP.i2f loss) (FP.i2f (B 0 k))) ≤ zm (FP.i2f 9000000) := by
    refine z_fmul_le fa fw f9.ne_nan ?_
    rw [a.2, b.2, v9.2]
    have e : loss.toInt.toNat * FP.Core.one32 * ((B 0 k).toInt.toNat * FP.Core.one32) = loss.toInt.toNat * (B 0 k).toInt.toNat * (FP.Core.one32 * FP.Core.one32) := by ac_rfl
    have e2 : (9000000 : Int32).toInt.toNat * FP.Core.one32 * FP.Core.one32 = 9000000 * (FP.Core.one32 * FP.Core.one32) := by rw [Nat.mul_assoc]; rfl
    rw [e, e2]
    exact Nat.mul_le_mul_right _ prod
  have w0 : 0 < zm (FP.i2f W) := by rw [w.2]; exact Nat.mul_pos (by omega) o
  have q : zm (FP.fdiv (FP.fmul (FP.i2f loss) (FP.i2f (B 0 k))) (FP.i2f W)) ≤ zm (FP.i2f 9000000) := by
    refine z_fdiv_le fP fW f9.ne_nan w0 ?_
    refine Nat.mul_le_mul pl ?_
    rw [w.2]
    exact Nat.le_mul_of_pos_left _ (by omega)
  have q0 : 0 ≤ zv (FP.fdiv (FP.fmul (FP.i2f loss) (FP.i2f (B 0 k))) (FP.i2f W)) := by
    refine z_fdiv_pos fP fW p0 ?_
    rw [w.1]
    exact Int.mul_pos (by omega) (by omega)
  have := z_f2i (x := FP.fdiv (FP.fmul (FP.i2f loss) (FP.i2f (B 0 k))) (FP.i2f W)) (k := 9000000) (mg_fin mD (by decide)).ne_nan q0 (by rw [v9.2] at q; exact q)
  unfold part
  omega
theorem lfp_bd {n : Nat} {B : jB} (I : Inv n B) {loss W : Int32} (hl : 1 ≤ loss.toInt ∧ loss.toInt ≤ 1000000) (hW : 1 ≤ W.toInt ∧ W.toInt ≤ 72) : ∀ k : Nat, (k : Int) ≤ (B 16 0).toInt → loss.toInt - 9000000 * k ≤ (lfp B loss W k).toInt ∧ (lfp B loss W k).toInt ≤ loss.toInt
  | 0, _ => by show _ ≤ loss.toInt ∧ loss.toInt ≤ _; omega
  | k + 1, hk => by
    have hm := Inv_m I
    have ih := lfp_bd I hl hW k (by omega)
    have pb := part_bd (k := k) hl (Inv_w I (k := k) (by omega)) hW
    show _ ≤ (lfp B loss W k - part B loss W k).toInt ∧ (lfp B loss W k - part B loss W k).toInt ≤ _
    rw [i_sub (by omega) (by omega)]
    omega
theorem share_eq {n : Nat} {M B : jB} (h : LB (M 0) B) (I : Inv n B) (hm : 0 < (B 16 0).toInt) {loss : Int32} (hl : 1 ≤ loss.toInt ∧ loss.toInt ≤ 1000000) :
    LB (r_X8_share M loss 0) (r_X0_share B loss) ∧ (∀ r, r ≠ 0 → r ≠ 5 → r_X8_share M loss r = M r) ∧ n_X0_share B loss ∧ n_X8_share M loss ∧ r_X0_share B loss = sEnd B loss (r_X4_allWeights B) (B 16 0).toInt.toNat := by
  have h8 := Inv_m I
  have hW := W_bd I hm
  have z0 : (0 : Int32).toInt = 0 := rfl
  have hpos : (0 : Int32) < r_X4_allWeights B := by rw [i_lt, z0]; omega
  have lb := lfp_bd I hl hW (B 16 0).toInt.toNat (by omega)
  have c18 := L18_spec I hm loss (r_X4_allWeights B) rfl (by omega) (by omega) (B 16 0).toInt.toNat 8 0 (by decide) (by rw [z0]; omega) (by omega)
  rw [show lfp B loss (r_X4_allWeights B) (0 : Int32).toNatClampNeg = loss from rfl, show shF B (Dp B loss (r_X4_allWeights B) (0 : Int32).toNatClampNeg) = B from sh0 B] at c18
  have eX0 : r_X0_share B loss = sEnd B loss (r_X4_allWeights B) (B 16 0).toInt.toNat := by
    unfold r_X0_share
    rw [if_pos hpos]; exact c18.1
  have c45 := L45_spec h I hm loss (r_X4_allWeights B) (by omega) (B 16 0).toInt.toNat (((B 16 0).toInt - (0 : Int32).toInt).toNat) 0 (by decide) (by rw [z0]; omega) (by omega)
  have esM : sM M (sP M B loss (r_X4_allWeights B) (0 : Int32).toNatClampNeg) = M := by
    funext r
    by_cases e : r = 5
    · subst e; rfl
    · exact sM_ne M _ e
  rw [esM, show lfp B loss (r_X4_allWeights B) (0 : Int32).toNatClampNeg = loss from rfl] at c45
  have eW := e_allWeights4 I
  have e13 : r_X8_share M loss = L_X8_share_45 M loss (((B 16 0).toInt - (0 : Int32).toInt).toNat + 1) (r_X4_allWeights B) loss 0 M := by
    unfold r_X8_share
    rw [rN8 h]
    refine (loopA (L := L_X8_share_13 M loss) (g := fun k => B 0 k) (fin := fun a => L_X8_share_45 M loss (((B 16 0).toInt - (0 : Int32).toInt).toNat + 1) a loss 0 M) (sz := B 16 0) (by omega) ?_ ?_ _ _ 0 0 (by decide) (sz_toNat h8.1 h8.2) (by omega)).trans ?_
    · intro n a x hx; rw [L_X8_share_13, rS8 h, if_pos hx, rN8 h]
    · intro n a x h0 h1
      rw [L_X8_share_13, rS8 h, if_neg (by rw [i_le]; omega), rM0 h h0 (by omega)]
    · show L_X8_share_45 M loss _ (fs (fun k => B 0 k) 0 (B 16 0).toInt.toNat 0) loss 0 M = _
      rw [← eW]
  have n13 : NL_X8_share_13 M loss (((B 16 0).toInt - (0 : Int32).toInt).toNat + 1) 0 0 = NL_X8_share_45 M loss (((B 16 0).toInt - (0 : Int32).toInt).toNat + 1) (r_X4_allWeights B) loss 0 M := by
    refine (loopA (L := NL_X8_share_13 M loss) (g := fun k => B 0 k) (fin := fun a => NL_X8_share_45 M loss (((B 16 0).toInt - (0 : Int32).toInt).toNat + 1) a loss 0 M) (sz := B 16 0) (by omega) ?_ ?_ _ _ 0 0 (by decide) (sz_toNat h8.1 h8.2) (by omega)).trans ?_
    · intro n a x hx
      rw [NL_X8_share_13, rS8 h, rN8 h]
      exact propext ⟨fun q => q.1 hx, fun q => ⟨fun _ => q, fun r => absurd hx r⟩⟩
    · intro n a x h0 h1
      have hx : ¬ (B 16 0 ≤ x) := by rw [i_le]; omega
      rw [NL_X8_share_13, rS8 h, rM0 h h0 (by omega)]
      exact propext ⟨fun q => q.2 hx, fun q => ⟨fun r => absurd r hx, fun _ => q⟩⟩
    · show NL_X8_share_45 M loss _ (fs (fun k => B 0 k) 0 (B 16 0).toInt.toNat 0) loss 0 M = _
      rw [← eW]
  refine ⟨?_, ?_, ⟨fun _ => c18.2, fun _ => trivial⟩, ⟨by rw [rN8 h, i_le]; exact h8.2, by rw [rN8 h, i_lt]; exact hm, ?_⟩, eX0⟩
  · rw [e13, eX0]
    refine LB_ext c45.1.1 ?_
    intro r k hv
    unfold sEnd
    rw [up2_at, up2_at, up2_at, up2_at]
    have ed : ∀ k, dT (B 16 0).toInt.toNat (rr (B 16 0).toInt.toNat (if 0 ≤ lfp B loss (r_X4_allWeights B) (B 16 0).toInt.toNat then 1 else -1) (lfp B loss (r_X4_allWeights B) (B 16 0).toInt.toNat).toInt.natAbs 0 (sP M B loss (r_X4_allWeights B) (B 16 0).toInt.toNat)) k = rr (B 16 0).toInt.toNat (if 0 ≤ lfp B loss (r_X4_allWeights B) (B 16 0).toInt.toNat then 1 else -1) (lfp B loss (r_X4_allWeights B) (B 16 0).toInt.toNat).toInt.natAbs 0 (Dp B loss (r_X4_allWeights B) (B 16 0).toInt.toNat) k := by
      intro k
      unfold dT
      by_cases q : k < (B 16 0).toInt.toNat
      · rw [if_pos q]
        refine rr_congr _ _ _ _ _ _ (by omega) (fun j hj => ?_) k q
        unfold sP Dp
        rw [if_pos hj, if_pos hj]
      · rw [if_neg q, rr_out _ _ _ _ _ _ (by omega) (by omega)]
        unfold Dp
        rw [if_neg q]
    have es : shF B (dT (B 16 0).toInt.toNat (rr (B 16 0).toInt.toNat (if 0 ≤ lfp B loss (r_X4_allWeights B) (B 16 0).toInt.toNat then 1 else -1) (lfp B loss (r_X4_allWeights B) (B 16 0).toInt.toNat).toInt.natAbs 0 (sP M B loss (r_X4_allWeights B) (B 16 0).toInt.toNat))) r k = shF B (rr (B 16 0).toInt.toNat (if 0 ≤ lfp B loss (r_X4_allWeights B) (B 16 0).toInt.toNat then 1 else -1) (lfp B loss (r_X4_allWeights B) (B 16 0).toInt.toNat).toInt.natAbs 0 (Dp B loss (r_X4_allWeights B) (B 16 0).toInt.toNat)) r k := by
      unfold shF
      rw [ed k]
    rw [es]
  · rw [e13]; exact c45.1.2
  · rw [rN8 h, n13]; exact c45.2
