def shF (B : jB) (D : Nat → Int32) : jB := fun r k => if r = 2 then B 2 k - D k else if r = 3 then B 3 k + D k else B r k
def part (B : jB) (loss W : Int32) (k : Nat) : Int32 := FP.f2i (FP.fdiv (FP.fmul (FP.i2f loss) (FP.i2f (B 0 k))) (FP.i2f W))
def rr (m : Nat) (cent : Int32) : Nat → Nat → (Nat → Int32) → (Nat → Int32)
  | 0, _, D => D
  | c + 1, j, D => rr m cent c (if j + 1 < m then j + 1 else 0) (upd D j (D j + cent))
def lfp (B : jB) (loss W : Int32) : Nat → Int32
  | 0 => loss
  | k + 1 => lfp B loss W k - part B loss W k
def Dp (B : jB) (loss W : Int32) (x : Nat) : Nat → Int32 := fun k => if k < x then part B loss W k else 0
theorem rr_out (m : Nat) (cent : Int32) : ∀ (c j : Nat) (D : Nat → Int32) (k : Nat), j < m → m ≤ k → rr m cent c j D k = D k
  | 0, _, _, _, _, _ => rfl
  | c + 1, j, D, k, hj, hk => by
    show rr m cent c _ (upd D j (D j + cent)) k = D k
    rw [rr_out m cent c _ _ k (by split <;> omega) hk]
    unfold upd
    rw [if_neg (by omega)]
theorem rr_congr (m : Nat) (cent : Int32) : ∀ (c j : Nat) (D S : Nat → Int32), j < m → (∀ k, k < m → D k = S k) → ∀ k, k < m → rr m cent c j D k = rr m cent c j S k
  | 0, _, _, _, _, h, k, hk => h k hk
  | c + 1, j, D, S, hj, h, k, hk => by
    refine rr_congr m cent c _ _ _ (by split <;> omega) (fun q hq => ?_) k hk
    unfold upd
    rw [h q hq, h j hj]
theorem bear_sh {B : jB} {D : Nat → Int32} {x v : Int32} (hh : r_X4_has B x = 1) : r_X4_bear (shF B D) x v = shF B (upd D x.toNatClampNeg (D x.toNatClampNeg + v)) := by
  unfold r_X4_bear z_X4_bear_0
  have h16 : shF B D 16 0 = B 16 0 := rfl
  rw [has4_sz h16, if_neg (by rw [hh]; exact one_ne)]
  funext r k
  rw [up2_at, up2_at]
  unfold shF upd
  by_cases e3 : r = 3
  · subst e3
    by_cases ek : k = x.toNatClampNeg
    · subst ek; simp; grind
    · simp [ek]
  · by_cases e2 : r = 2
    · subst e2
      by_cases ek : k = x.toNatClampNeg
      · subst ek; simp; grind
      · simp [ek]
    · simp [e2, e3]
theorem sh0 (B : jB) : shF B (fun _ => 0) = B := by
  funext r k
  unfold shF
  split
  · rename_i h; subst h; grind
  · split
    · rename_i h; subst h; grind
    · rfl
theorem Dp_succ (B : jB) (loss W : Int32) (x : Nat) : upd (Dp B loss W x) x (Dp B loss W x x + part B loss W x) = Dp B loss W (x + 1) := by
  funext k
  unfold upd Dp
  by_cases e : k = x
  · subst e; simp
  · rw [if_neg e]
    by_cases q : k < x
    · rw [if_pos q, if_pos (by omega)]
    · rw [if_neg q, if_neg (by omega)]
theorem L111_spec {n : Nat} {B : jB} (I : Inv n B) (loss d3 d4 : Int32) (dB : jB) (cent cents : Int32) : ∀ (c f : Nat) (next given : Int32) (D : Nat → Int32), 0 ≤ next.toInt → next.toInt < (B 16 0).toInt → 0 ≤ given.toInt → given.toInt + c = cents.toInt → c ≤ f →
    L_X0_share_111 B loss d3 d4 dB (f + 1) cent cents next given (shF B D) = up2 (up2 (shF B (rr (B 16 0).toInt.toNat cent c next.toNatClampNeg D)) 16 3 (B 16 3 + loss)) 16 7 (B 16 7 + loss)
  | 0, f, next, given, D, h0, h1, g0, g1, hf => by
    rw [L_X0_share_111, if_pos (by rw [i_le]; omega)]; rfl
  | c + 1, f, next, given, D, h0, h1, g0, g1, hf => by
    have hm := Inv_m I
    have hh := i_hi cents
    obtain ⟨f', rfl⟩ : ∃ f', f = f' + 1 := ⟨f - 1, by omega⟩
    rw [L_X0_share_111, if_neg (by rw [i_le]; omega), bear_sh (has4_1 I h0 h1)]
    have h16 : shF B (upd D next.toNatClampNeg (D next.toNatClampNeg + cent)) 16 0 = B 16 0 := rfl
    rw [has4_sz h16]
    have gs : (given + 1).toInt = given.toInt + 1 := ii_succ (by omega)
    by_cases q : next.toInt + 1 < (B 16 0).toInt
    · have ns : (next + 1).toInt = next.toInt + 1 := ii_succ (by omega)
      rw [if_neg (by rw [has4_1 I (i := next + 1) (by omega) (by omega)]; exact one_ne)]
      rw [L111_spec I loss d3 d4 dB cent cents c f' (next + 1) (given + 1) _ (by omega) (by omega) (by omega) (by omega) (by omega)]
      rw [nn_succ h0 (by omega)]
      show _ = up2 (up2 (shF B (rr _ cent c (if next.toNatClampNeg + 1 < (B 16 0).toInt.toNat then next.toNatClampNeg + 1 else 0) _)) 16 3 _) 16 7 _
      rw [if_pos (by rw [i_nat]; omega)]
    · have ns : (next + 1).toInt = next.toInt + 1 := ii_succ (by omega)
      rw [if_pos (has4_0 I (i := next + 1) (by omega))]
      rw [L111_spec I loss d3 d4 dB cent cents c f' 0 (given + 1) _ (by decide) (by have : (0 : Int32).toInt = 0 := rfl; omega) (by omega) (by omega) (by omega)]
      show _ = up2 (up2 (shF B (rr _ cent c (if next.toNatClampNeg + 1 < (B 16 0).toInt.toNat then next.toNatClampNeg + 1 else 0) _)) 16 3 _) 16 7 _
      rw [if_neg (by rw [i_nat]; omega)]; rfl
theorem NL111 (B : jB) (loss d3 d4 : Int32) (dB : jB) : ∀ (f : Nat) (cent cents next given : Int32) (X : jB), NL_X0_share_111 B loss d3 d4 dB f cent cents next given X
  | 0, _, _, _, _, _ => trivial
  | f + 1, cent, cents, next, given, X => by
    rw [NL_X0_share_111]
    exact ⟨fun _ => trivial, fun _ => ⟨fun _ => NL111 B loss d3 d4 dB f _ _ _ _ _, fun _ => NL111 B loss d3 d4 dB f _ _ _ _ _⟩⟩
theorem part_n32 {W : Int32} (hW : W.toInt ≠ 0) (a b : Int32) : vf_n32 (FP.fmul (FP.i2f a) (FP.i2f b)) ∧ vf_n32 (FP.fdiv (FP.fmul (FP.i2f a) (FP.i2f b)) (FP.i2f W)) := by
  have m : mg 194 (FP.fmul (FP.i2f a) (FP.i2f b)) := mg_mul (mg_i2f a) (mg_i2f b) (by decide) (by decide) (by decide)
  exact ⟨mg_n32 m (by decide), mg_n32 (mg_div2 m (by decide) (by decide) hW) (by decide)⟩
/-- where the parts end -/
def sEnd (B : jB) (loss W : Int32) (m : Nat) : jB :=
  up2 (up2 (shF B (rr m (if 0 ≤ lfp B loss W m then 1 else -1) (lfp B loss W m).toInt.natAbs 0 (Dp B loss W m))) 16 3 (B 16 3 + loss)) 16 7 (B 16 7 + loss)
theorem neg_toInt {x : Int32} (h : -2147483648 < x.toInt) : (-x).toInt = -x.toInt := by
  have hh := i_hi x
  rw [Int32.toInt_neg]
  exact Int.bmod_eq_of_le (by omega) (by omega)
theorem L18_end {n : Nat} {B : jB} (I : Inv n B) (hm : 0 < (B 16 0).toInt) (loss W x : Int32) (hl : -2147483648 < (lfp B loss W (B 16 0).toInt.toNat).toInt) (X : jB) (hX : X = shF B (Dp B loss W (B 16 0).toInt.toNat)) :
    (if (0 : Int32) ≤ lfp B loss W (B 16 0).toInt.toNat then L_X0_share_111 B loss (lfp B loss W (B 16 0).toInt.toNat) x X (((lfp B loss W (B 16 0).toInt.toNat).toInt - (0 : Int32).toInt).toNat + 1) (1 : Int32) (lfp B loss W (B 16 0).toInt.toNat) (0 : Int32) (0 : Int32) X else L_X0_share_111 B loss (lfp B loss W (B 16 0).toInt.toNat) x X (((-(lfp B loss W (B 16 0).toInt.toNat)).toInt - (0 : Int32).toInt).toNat + 1) (-1 : Int32) (-(lfp B loss W (B 16 0).toInt.toNat)) (0 : Int32) (0 : Int32) X) = sEnd B loss W (B 16 0).toInt.toNat := by
  have z0 : (0 : Int32).toInt = 0 := rfl
  unfold sEnd
  rw [hX]
  generalize lfp B loss W (B 16 0).toInt.toNat = l at *
  by_cases q : (0 : Int32) ≤ l
  · have q' := q
    rw [i_le, z0] at q'
    rw [if_pos q, if_pos q, L111_spec I loss l x _ 1 l l.toInt.natAbs _ 0 0 _ (by decide) (by omega) (by decide) (by omega) (by omega)]; rfl
  · have q' := q
    rw [i_le, z0] at q'
    have ng := neg_toInt hl
    rw [if_neg q, if_neg q, L111_spec I loss l x _ (-1) (-l) l.toInt.natAbs _ 0 0 _ (by decide) (by omega) (by decide) (by omega) (by omega)]; rfl
theorem L18_spec {n : Nat} {B : jB} (I : Inv n B) (hm : 0 < (B 16 0).toInt) (loss W : Int32) (hW : r_X4_allWeights B = W) (hW0 : W.toInt ≠ 0) (hl : -2147483648 < (lfp B loss W (B 16 0).toInt.toNat).toInt) : ∀ (c f : Nat) (x : Int32), 0 ≤ x.toInt → x.toInt + c = (B 16 0).toInt → c ≤ f →
    L_X0_share_18 B loss (f + 1) (lfp B loss W x.toNatClampNeg) x (shF B (Dp B loss W x.toNatClampNeg)) = sEnd B loss W (B 16 0).toInt.toNat ∧ NL_X0_share_18 B loss (f + 1) (lfp B loss W x.toNatClampNeg) x (shF B (Dp B loss W x.toNatClampNeg))
  | 0, f, x, h0, h1, hf => by
    have hms := Inv_m I
    have ex : x.toNatClampNeg = (B 16 0).toInt.toNat := by rw [i_nat]; omega
    have hno : r_X4_has (shF B (Dp B loss W x.toNatClampNeg)) x = 0 := by
      rw [has4_sz (show shF B (Dp B loss W x.toNatClampNeg) 16 0 = B 16 0 from rfl)]; exact has4_0 I (by omega)
    rw [L_X0_share_18, NL_X0_share_18, if_pos hno]
    rw [ex]
    have e := L18_end I hm loss W x hl (shF B (Dp B loss W (B 16 0).toInt.toNat)) rfl
    refine ⟨?_, fun _ => ⟨fun _ => NL111 _ _ _ _ _ _ _ _ _ _ _, fun _ => NL111 _ _ _ _ _ _ _ _ _ _ _⟩, fun _ => ⟨fun _ => ⟨fun _ => NL111 _ _ _ _ _ _ _ _ _ _ _, fun _ => NL111 _ _ _ _ _ _ _ _ _ _ _⟩, fun q => absurd (ex ▸ hno) q⟩⟩
    split
    · exact e
    · exact e
  | c + 1, f, x, h0, h1, hf => by
    have hms := Inv_m I
    obtain ⟨f', rfl⟩ : ∃ f', f = f' + 1 := ⟨f - 1, by omega⟩
    have z8 : (8 : Int32).toInt = 8 := rfl
    have hh : r_X4_has B x = 1 := has4_1 I h0 (by omega)
    have h16 : shF B (Dp B loss W x.toNatClampNeg) 16 0 = B 16 0 := rfl
    have hhs : ¬ (r_X4_has (shF B (Dp B loss W x.toNatClampNeg)) x = 0) := by rw [has4_sz h16, hh]; exact one_ne
    have h8 : ¬ ((8 : Int32) ≤ x) := by rw [i_le]; omega
    have ez : z_X0_share_0 B loss x (shF B (Dp B loss W x.toNatClampNeg)) = shF B (Dp B loss W (x + 1).toNatClampNeg) := by
      unfold z_X0_share_0
      rw [bear_sh hh, hW]
      show shF B (upd (Dp B loss W x.toNatClampNeg) x.toNatClampNeg (Dp B loss W x.toNatClampNeg x.toNatClampNeg + part B loss W x.toNatClampNeg)) = _
      rw [Dp_succ, nn_succ h0 (by omega)]
    have el : lfp B loss W x.toNatClampNeg - (FP.f2i (FP.fdiv (FP.fmul (FP.i2f loss) (FP.i2f (shF B (Dp B loss W x.toNatClampNeg) 0 x.toNatClampNeg))) (FP.i2f (r_X4_allWeights B)))) = lfp B loss W (x + 1).toNatClampNeg := by
      rw [hW, nn_succ h0 (by omega)]; rfl
    have ih := L18_spec I hm loss W hW hW0 hl c f' (x + 1) (by rw [ii_succ (by omega)]; omega) (by rw [ii_succ (by omega)]; omega) (by omega)
    rw [L_X0_share_18, NL_X0_share_18, if_neg h8, if_neg hhs, el, ez]
    refine ⟨ih.1, fun q => absurd q h8, fun _ => ⟨fun q => absurd q hhs, fun _ => ?_⟩⟩
    have pn := part_n32 hW0 loss (shF B (Dp B loss W x.toNatClampNeg) 0 x.toNatClampNeg)
    rw [hW]
    exact ⟨pn.1, pn.2, ih.2⟩

theorem fs_bd {g : Nat → Int32} : ∀ (c k : Nat) (a : Int32), (∀ j, k ≤ j → j < k + c → 1 ≤ (g j).toInt ∧ (g j).toInt ≤ 9) → 0 ≤ a.toInt → a.toInt + 9 * c < 2147483648 → a.toInt + c ≤ (fs g a c k).toInt ∧ (fs g a c k).toInt ≤ a.toInt + 9 * c
  | 0, k, a, hg, h0, h1 => by show a.toInt + ((0 : Nat) : Int) ≤ a.toInt ∧ a.toInt ≤ _; omega
  | c + 1, k, a, hg, h0, h1 => by
    have hk := hg k (Nat.le_refl _) (by omega)
    have e : (a + g k).toInt = a.toInt + (g k).toInt := i_add (by omega) (by omega)
    have ih := fs_bd c (k + 1) (a + g k) (fun j h1 h2 => hg j (by omega) (by omega)) (by omega) (by omega)
    show _ ≤ (fs g (a + g k) c (k + 1)).toInt ∧ (fs g (a + g k) c (k + 1)).toInt ≤ _
    omega
theorem W_bd {n : Nat} {B : jB} (I : Inv n B) (hm : 0 < (B 16 0).toInt) : 1 ≤ (r_X4_allWeights B).toInt ∧ (r_X4_allWeights B).toInt ≤ 72 := by
  have h8 := Inv_m I
  rw [e_allWeights4 I]
  have z : (0 : Int32).toInt = 0 := rfl
  have := fs_bd (g := fun k => B 0 k) (B 16 0).toInt.toNat 0 0 (fun j _ hj => Inv_w I (by omega)) (by omega) (by omega)
  omega
theorem part_bd {B : jB} {loss W : Int32} {k : Nat} (hl : 1 ≤ loss.toInt ∧ loss.toInt ≤ 1000000) (hw : 1 ≤ (B 0 k).toInt ∧ (B 0 k).toInt ≤ 9) (hW : 1 ≤ W.toInt ∧ W.toInt ≤ 72) : 0 ≤ (part B loss W k).toInt ∧ (part B loss W k).toInt ≤ 9000000 := by
  have fa := mg_fin (mg_i2f loss) (by decide)
  have fw := mg_fin (mg_i2f (B 0 k)) (by decide)
  have fW := mg_fin (mg_i2f W) (by decide)
  have mP : mg 194 (FP.fmul (FP.i2f loss) (FP.i2f (B 0 k))) := mg_mul (mg_i2f _) (mg_i2f _) (by decide) (by decide) (by decide)
  have fP := mg_fin mP (by decide)
  have mD : mg 195 (FP.fdiv (FP.fmul (FP.i2f loss) (FP.i2f (B 0 k))) (FP.i2f W)) := mg_div2 mP (by decide) (by decide) (by omega)
  have a := z_i2f (v := loss) (by omega) (by omega)
  have b := z_i2f (v := B 0 k) (by omega) (by omega)
  have w := z_i2f (v := W) (by omega) (by omega)
  have p0 : 0 ≤ zv (FP.fmul (FP.i2f loss) (FP.i2f (B 0 k))) := z_fmul_pos fa fw (z_i2f_pos (by omega)) (z_i2f_pos (by omega))
  have v9 := z_i2f (v := (9000000 : Int32)) (by decide) (by decide)
  have f9 := mg_fin (mg_i2f (9000000 : Int32)) (by decide)
  have o := FP.Core.one32_pos
  have prod : loss.toInt.toNat * (B 0 k).toInt.toNat ≤ 9000000 := by
    have : loss.toInt.toNat * (B 0 k).toInt.toNat ≤ 1000000 * 9 := Nat.mul_le_mul (by omega) (by omega)
    omega
  have pl : zm (FP.fmul (FP.i2f loss) (FP.i2f (B 0 k))) ≤ zm (FP.i2f 9000000) := by
    refine z_fmul_le fa fw f9.ne_nan ?_
    rw [a.2, b.2, v9.2]
    have e : loss.toInt.toNat * FP.Core.one32 * ((B 0 k).toInt.toNat * FP.Core.one32) = loss.toInt.toNat * (B 0 k).toInt.toNat * (FP.Core.one32 * FP.Core.one32) := by ac_rfl
    have e2 : (9000000 : Int32).toInt.toNat * FP.Core.one32 * FP.Core.one32 = 9000000 * (FP.Core.one32 * FP.Core.one32) := by rw [Nat.mul_assoc]; rfl
    rw [e, e2]
    exact Nat.mul_le_mul_right _ prod
  have w0 : 0 < zm (FP.i2f W) := by rw [w.2]; exact Nat.mul_pos (by omega) o
  have q : zm (FP.fdiv (FP.fmul (FP.i2f loss) (FP.i2f (B 0 k))) (FP.i2f W)) ≤ zm (FP.i2f 9000000) := by
    refine z_fdiv_le fP fW f9.ne_nan w0 ?_
    refine Nat.mul_le_mul pl ?_
    rw [w.2]
    exact Nat.le_mul_of_pos_left _ (by omega)
  have q0 : 0 ≤ zv (FP.fdiv (FP.fmul (FP.i2f loss) (FP.i2f (B 0 k))) (FP.i2f W)) := by
    refine z_fdiv_pos fP fW p0 ?_
    rw [w.1]
    exact Int.mul_pos (by omega) (by omega)
  have := z_f2i (x := FP.fdiv (FP.fmul (FP.i2f loss) (FP.i2f (B 0 k))) (FP.i2f W)) (k := 9000000) (mg_fin mD (by decide)).ne_nan q0 (by rw [v9.2] at q; exact q)
  unfold part
  omega
theorem lfp_bd {n : Nat} {B : jB} (I : Inv n B) {loss W : Int32} (hl : 1 ≤ loss.toInt ∧ loss.toInt ≤ 1000000) (hW : 1 ≤ W.toInt ∧ W.toInt ≤ 72) : ∀ k : Nat, (k : Int) ≤ (B 16 0).toInt → loss.toInt - 9000000 * k ≤ (lfp B loss W k).toInt ∧ (lfp B loss W k).toInt ≤ loss.toInt
  | 0, _ => by show _ ≤ loss.toInt ∧ loss.toInt ≤ _; omega
  | k + 1, hk => by
    have hm := Inv_m I
    have ih := lfp_bd I hl hW k (by omega)
    have pb := part_bd (k := k) hl (Inv_w I (k := k) (by omega)) hW
    show _ ≤ (lfp B loss W k - part B loss W k).toInt ∧ (lfp B loss W k - part B loss W k).toInt ≤ _
    rw [i_sub (by omega) (by omega)]
    omega
theorem sEnd_fr (B : jB) (loss W : Int32) (m : Nat) {r k : Nat} (h : r ≠ 2) (h3 : r ≠ 3) (h2 : ¬ (r = 16 ∧ (k = 3 ∨ k = 7))) : sEnd B loss W m r k = B r k := by
  unfold sEnd
  rw [up2_at, if_neg (by omega), up2_at, if_neg (by omega)]
  unfold shF
  rw [if_neg h, if_neg h3]
theorem sEnd_inv {S L : Int} {B : jB} (G : InvG S L B) (loss W : Int32) (m : Nat) : InvG S L (sEnd B loss W m) := by
  have e : ∀ r, r ≠ 2 → r ≠ 3 → r ≠ 16 → sEnd B loss W m r = B r := fun r h2 h3 h16 => funext fun k => sEnd_fr B loss W m h2 h3 (by omega)
  have e0 : sEnd B loss W m 16 0 = B 16 0 := sEnd_fr B loss W m (by omega) (by omega) (by omega)
  have e1 : sEnd B loss W m 16 1 = B 16 1 := sEnd_fr B loss W m (by omega) (by omega) (by omega)
  unfold InvG IInv at *
  rw [e0, e1, e 0 (by omega) (by omega) (by omega), e 4 (by omega) (by omega) (by omega), e 5 (by omega) (by omega) (by omega), e 7 (by omega) (by omega) (by omega), e 8 (by omega) (by omega) (by omega), e 9 (by omega) (by omega) (by omega), e 11 (by omega) (by omega) (by omega), e 12 (by omega) (by omega) (by omega), e 13 (by omega) (by omega) (by omega), e 15 (by omega) (by omega) (by omega)]
  exact G
