theorem cmp_g_lt (o : Option Ordering) : Op.cmpValue o CmpOp.g < 0 ↔ o = some .lt := by
  rcases o with _ | o
  · decide
  · cases o <;> decide
theorem cmp_l_le (o : Option Ordering) : Op.cmpValue o CmpOp.l ≤ 0 ↔ o ≠ some .gt := by
  rcases o with _ | o
  · decide
  · cases o <;> decide
theorem cmp_l_eq (o : Option Ordering) : Op.cmpValue o CmpOp.l = 0 ↔ o = some .eq := by
  rcases o with _ | o
  · decide
  · cases o <;> decide
theorem toU_toI (b : Int32) : b.toUInt32.toInt32 = b := by simp
theorem Inv_rate {n : Nat} {B : jB} (I : Inv n B) {k : Nat} {b : Int32} (hb : (k = 0 → 1036831949 ≤ b.toInt ∧ b.toInt ≤ 1065353216) ∧ (k = 1 → 0 ≤ b.toInt ∧ b.toInt ≤ 1028443341) ∧ (k = 2 → 0 ≤ b.toInt ∧ b.toInt ≤ 1056964608)) : Inv n (up2 B 15 k b) := by
  have e : ∀ q j, q ≠ 15 → up2 B 15 k b q j = B q j := fun q j hq => by rw [up2_at, if_neg (by omega)]
  obtain ⟨ia, ib, ic, id, ie, ig⟩ := I
  refine ⟨?_, ?_, ?_, ?_, ?_, ?_⟩
  · rw [e 16 0 (by decide)]; exact ia
  · rw [e 16 1 (by decide)]; exact ib
  · intro j; rw [e 16 0 (by decide), e 0 j (by decide)]; exact ic j
  · intro j hj; rw [e 4 j (by decide), e 5 j (by decide)]; exact id j hj
  · intro j; rw [e 16 1 (by decide)]; intro hj
    have := ie j hj
    unfold IInv at this ⊢
    rw [e 7 j (by decide), e 8 j (by decide), e 9 j (by decide), e 11 j (by decide), e 12 j (by decide), e 13 j (by decide), e 16 0 (by decide)]
    exact this
  · rw [up2_at, up2_at, up2_at]
    refine ⟨?_, ?_, ?_⟩
    · by_cases q : k = 0
      · rw [if_pos ⟨rfl, q.symm⟩]; exact hb.1 q
      · rw [if_neg (by omega)]; exact ig.1
    · by_cases q : k = 1
      · rw [if_pos ⟨rfl, q.symm⟩]; exact hb.2.1 q
      · rw [if_neg (by omega)]; exact ig.2.1
    · by_cases q : k = 2
      · rw [if_pos ⟨rfl, q.symm⟩]; exact hb.2.2 q
      · rw [if_neg (by omega)]; exact ig.2.2
theorem setRate_core {n : Nat} {K : Nat → jB} {M : jB} (h : Rel n K M) (w b : Int32) (k : Nat) (hk : k < 3) (hw : w.toNatClampNeg = k) (h2 : ((2 : Int32) + w).toNatClampNeg = 2 + k) (lo hi : Int32) (hlo : 0 ≤ lo.toInt) (hhi : hi.toInt ≤ 1065353216) (hlh : lo.toInt ≤ hi.toInt)
    (hold : 0 ≤ (K 0 15 k).toInt ∧ (K 0 15 k).toInt ≤ 1065353216)
    (hnew : ∀ b : Int32, lo.toInt ≤ b.toInt → b.toInt ≤ hi.toInt → (k = 0 → 1036831949 ≤ b.toInt ∧ b.toInt ≤ 1065353216) ∧ (k = 1 → 0 ≤ b.toInt ∧ b.toInt ≤ 1028443341) ∧ (k = 2 → 0 ≤ b.toInt ∧ b.toInt ≤ 1056964608)) (X : Int32 × jB)
    (hX : (b.toInt < 0 ∨ 2139095040 ≤ b.toInt) → X = ((-2 : Int32), M))
    (hX2 : 0 ≤ b.toInt → b.toInt < 2139095040 → X = (if (Op.cmpValue (FP.fcmp (r_X8_ofBits b) lo.toUInt32) CmpOp.g) < 0 then ((-2 : Int32), M) else (if (Op.cmpValue (FP.fcmp (r_X8_ofBits b) hi.toUInt32) CmpOp.l) ≤ 0 then (if (M 0 ((2 : Int32) + w).toNatClampNeg) = b then ((-5 : Int32), M) else ((1 : Int32), (up2 (r_X8_know M) 0 (((2 : Int32) + w)).toNatClampNeg b))) else ((-2 : Int32), M)))) :
    (if b < lo then ((-2 : Int32), K) else (if b ≤ hi then (if (Op.cmpValue (FP.fcmp ((K 0 15 w.toNatClampNeg).toUInt32) (r_X7_floatOf b)) CmpOp.l) = 0 then ((-5 : Int32), K) else ((1 : Int32), (z_X7_setRate_0 K w b))) else ((-2 : Int32), K))).1 = X.1
    ∧ Rel (n + 1) (if b < lo then ((-2 : Int32), K) else (if b ≤ hi then (if (Op.cmpValue (FP.fcmp ((K 0 15 w.toNatClampNeg).toUInt32) (r_X7_floatOf b)) CmpOp.l) = 0 then ((-5 : Int32), K) else ((1 : Int32), (z_X7_setRate_0 K w b))) else ((-2 : Int32), K))).2 X.2 := by
  obtain ⟨hp, np, nk, p0, p2, k0, k3, k6⟩ := R_push0 h
  have hL := R_L h
  have hm : Rel (n + 1) K M := Rel_mono h (Nat.le_succ n)
  have hv : vld 15 k := by unfold vld; omega
  have hpos : 2 + k = posOf 15 k := by unfold posOf; simp
  by_cases out : b.toInt < 0 ∨ 2139095040 ≤ b.toInt
  · rw [hX out]
    by_cases a : b < lo
    · rw [if_pos a]; exact ⟨rfl, hm⟩
    · rw [if_neg a, if_neg (show ¬ (b ≤ hi) by rw [i_lt] at a; rw [i_le]; omega)]; exact ⟨rfl, hm⟩
  have b0 : 0 ≤ b.toInt := by omega
  have b1 : b.toInt < 2139095040 := by omega
  rw [hX2 b0 b1, (e_ofBits8 b0 b1).1]
  have clo := bits_cmp b0 b1 hlo (by omega : lo.toInt < 2139095040)
  have chi := bits_cmp b0 b1 (by omega : 0 ≤ hi.toInt) (by omega : hi.toInt < 2139095040)
  by_cases a : b < lo
  · have a' := a
    rw [i_lt] at a'
    rw [if_pos a, if_pos ((cmp_g_lt _).mpr (clo.1.mpr a'))]; exact ⟨rfl, hm⟩
  have a' := a
  rw [i_lt] at a'
  rw [if_neg a, if_neg (fun q => a' (clo.1.mp ((cmp_g_lt _).mp q)))]
  by_cases c : b ≤ hi
  · have c' := c
    rw [i_le] at c'
    rw [if_pos c, if_pos ((cmp_l_le _).mpr (fun q => by have := chi.2.2.mp q; omega)), h2, hw]
    have e : M 0 (2 + k) = K 0 15 k := by rw [hpos]; exact LB_rd hL hv
    have fl := (e_floatOf b0 (by omega)).1
    have co := bits_cmp hold.1 (by omega : (K 0 15 k).toInt < 2139095040) b0 b1
    rw [e, fl]
    by_cases s : K 0 15 k = b
    · rw [if_pos s, if_pos ((cmp_l_eq _).mpr (co.2.1.mpr s))]; exact ⟨rfl, hm⟩
    · rw [if_neg s, if_neg (fun q => s (co.2.1.mp ((cmp_l_eq _).mp q)))]
      refine ⟨rfl, ?_⟩
      have ez : z_X7_setRate_0 K w b = up1 (r_X2_push_0 K) 0 (up2 (r_X2_push_0 K 0) 15 k b) := by
        unfold z_X7_setRate_0
        rw [fl, hw, toU_toI]
        rfl
      show Rel (n + 1) (z_X7_setRate_0 K w b) (up2 (r_X8_know M) 0 (2 + k) b)
      rw [ez]
      refine push_set h ?_ ?_ ?_
      · exact LB_up2 (by rw [k0, p0]; exact hL) hv hpos rfl
      · exact Inv_rate (by rw [p0]; exact R_I hm) (hnew b (by omega) (by omega))
      · intro r hr; exact up2_row_ne hr _ _ _
  · have c' := c
    rw [i_le] at c'
    rw [if_neg c, if_neg (fun q => (cmp_l_le _).mp q (chi.2.2.mpr (by omega)))]; exact ⟨rfl, hm⟩
theorem tree_if {α : Type} {p : Prop} [Decidable p] {a b : α} (h : a = b) : (if p then a else b) = b := by
  split
  · exact h
  · rfl
theorem R_setRate {n : Nat} {K : Nat → jB} {M : jB} (h : Rel n K M) (w b : Int32) : n_X7_setRate K w b ∧ n_X8_setRate M w b ∧ (r_X7_setRate K w b).1 = (r_X8_setRate M w b).1 ∧ Rel (n + 1) (r_X7_setRate K w b).2 (r_X8_setRate M w b).2 := by
  obtain ⟨hp, np, nk, p0, p2, k0, k3, k6⟩ := R_push0 h
  have hm : Rel (n + 1) K M := Rel_mono h (Nat.le_succ n)
  have hI := R_I h
  have z0 : (0 : Int32).toInt = 0 := rfl
  have z2 : (2 : Int32).toInt = 2 := rfl
  have z3 : (3 : Int32).toInt = 3 := rfl
  have z255 : (255 : Int32).toInt = 255 := rfl
  have e255 : ∀ hb : 0 ≤ b.toInt, (b >>> ((23 : Int32) &&& 31) = 255) ↔ 2139095040 ≤ b.toInt := by
    intro hb
    have hh := i_hi b
    rw [i_eq, an_sshr hb, z255]; omega
  have f1 : Op.cmpValue (FP.fcmp 3212836864 1036831949) CmpOp.g < 0 := by decide +kernel
  have f2 : Op.cmpValue (FP.fcmp 3212836864 0x00000000) CmpOp.g < 0 := by decide +kernel
  refine ⟨⟨fun _ => trivial, fun q0 => ⟨fun q1 => ⟨fun _ => trivial, fun q2 => ⟨fun q3 => ?_, fun _ => trivial⟩⟩, fun _ => trivial⟩⟩, ⟨fun _ => trivial, fun q => ?_⟩, ?_⟩
  · have w0 : 0 ≤ w.toInt := by rw [i_lt] at q0; omega
    have w1 : w.toInt ≤ 2 := by rw [i_lt] at q1; omega
    have hb : 0 ≤ b.toInt ∧ b.toInt ≤ 1065353216 := by
      rw [i_lt] at q2
      rw [i_le] at q3
      rcases w3 w0 w1 with e | e | e <;> subst e
      · have a1 : (sv 0 (0 : Int32).toNatClampNeg).toInt = 1036831949 := rfl
        have a2 : (sv 1 (0 : Int32).toNatClampNeg).toInt = 1065353216 := rfl
        omega
      · have a1 : (sv 0 (1 : Int32).toNatClampNeg).toInt = 0 := rfl
        have a2 : (sv 1 (1 : Int32).toNatClampNeg).toInt = 1028443341 := rfl
        omega
      · have a1 : (sv 0 (2 : Int32).toNatClampNeg).toInt = 0 := rfl
        have a2 : (sv 1 (2 : Int32).toNatClampNeg).toInt = 1056964608 := rfl
        omega
    exact ⟨(e_floatOf hb.1 (by omega)).2, fun _ => trivial, fun _ => ⟨np, trivial⟩⟩
  · rcases in_cases w 0 2 with c | c
    · exact absurd c.1 q
    · have vp : vp_in (2 + w) 204 := by
        rcases w3 c.2.1 c.2.2 with e | e | e <;> subst e <;> exact vpi_of (by decide) (by decide)
      refine ⟨fun _ => ⟨fun _ => ⟨fun _ => trivial, fun q => absurd f1 q⟩, fun _ => ⟨fun _ => ⟨fun _ => trivial, fun q => absurd f2 q⟩, fun _ => ⟨fun _ => trivial, fun q => absurd f2 q⟩⟩⟩, fun qb => ⟨fun _ => ⟨fun _ => ⟨fun _ => trivial, fun q => absurd f1 q⟩, fun _ => ⟨fun _ => ⟨fun _ => trivial, fun q => absurd f2 q⟩, fun _ => ⟨fun _ => trivial, fun q => absurd f2 q⟩⟩⟩, fun q255 => ?_⟩⟩
      have hb : 0 ≤ b.toInt := by rw [i_lt] at qb; omega
      have hb1 : b.toInt < 2139095040 := by rw [e255 hb] at q255; omega
      exact ⟨(e_ofBits8 hb hb1).2, fun _ => ⟨fun _ => trivial, fun _ => ⟨fun _ => ⟨vp, fun _ => trivial, fun _ => ⟨nk, vp, trivial⟩⟩, fun _ => trivial⟩⟩, fun _ => ⟨fun _ => ⟨fun _ => trivial, fun _ => ⟨fun _ => ⟨vp, fun _ => trivial, fun _ => ⟨nk, vp, trivial⟩⟩, fun _ => trivial⟩⟩, fun _ => ⟨fun _ => trivial, fun _ => ⟨fun _ => ⟨vp, fun _ => trivial, fun _ => ⟨nk, vp, trivial⟩⟩, fun _ => trivial⟩⟩⟩⟩
  unfold r_X7_setRate r_X8_setRate
  rcases in_cases w 0 2 with c | c
  · rw [if_pos c.1]
    by_cases a : w < 0
    · rw [if_pos a]; exact ⟨rfl, hm⟩
    · rw [if_neg a, if_neg (show ¬ (w < 3) by rw [i_lt] at a ⊢; omega)]; exact ⟨rfl, hm⟩
  rw [if_neg (show ¬ (r_X8_in w 0 2 = 0) by rw [c.1]; exact one_ne), if_neg (show ¬ (w < 0) by rw [i_lt]; omega), if_pos (show w < 3 by rw [i_lt]; omega), if_pos f1, if_pos f2, if_pos f2]
  have hr := Inv_r hI
  have g10 : ¬ ((1 : Int32) = 0) := by decide
  have g20 : ¬ ((2 : Int32) = 0) := by decide
  have g21 : ¬ ((2 : Int32) = 1) := by decide
  rcases w3 c.2.1 c.2.2 with e | e | e <;> subst e
  · refine setRate_core h 0 b 0 (by decide) rfl rfl 1036831949 1065353216 (by decide) (by decide) (by decide) (rate_b0 hI) ?_ _ ?_ ?_
    · intro b h1 h2
      have a1 : (1036831949 : Int32).toInt = 1036831949 := rfl
      have a2 : (1065353216 : Int32).toInt = 1065353216 := rfl
      omega
    · intro o
      by_cases qb : b < 0
      · rw [if_pos qb, if_pos rfl]
      · have hb : 0 ≤ b.toInt := by rw [i_lt] at qb; omega
        rw [if_neg qb, if_pos ((e255 hb).mpr (by omega)), if_pos rfl]
    · intro b0 b1
      rw [if_neg (show ¬ (b < 0) by rw [i_lt]; omega), if_neg (fun q => by have := (e255 b0).mp q; omega), if_pos rfl]; rfl
  · refine setRate_core h 1 b 1 (by decide) rfl rfl 0 1028443341 (by decide) (by decide) (by decide) (rate_b1 hI) ?_ _ ?_ ?_
    · intro b h1 h2
      have a2 : (1028443341 : Int32).toInt = 1028443341 := rfl
      omega
    · intro o
      by_cases qb : b < 0
      · rw [if_pos qb, if_neg g10, if_pos rfl]
      · have hb : 0 ≤ b.toInt := by rw [i_lt] at qb; omega
        rw [if_neg qb, if_pos ((e255 hb).mpr (by omega)), if_neg g10, if_pos rfl]
    · intro b0 b1
      rw [if_neg (show ¬ (b < 0) by rw [i_lt]; omega), if_neg (fun q => by have := (e255 b0).mp q; omega), if_neg g10, if_pos rfl]; rfl
  · refine setRate_core h 2 b 2 (by decide) rfl rfl 0 1056964608 (by decide) (by decide) (by decide) (rate_b2 hI) ?_ _ ?_ ?_
    · intro b h1 h2
      have a2 : (1056964608 : Int32).toInt = 1056964608 := rfl
      omega
    · intro o
      by_cases qb : b < 0
      · rw [if_pos qb, if_neg g20, if_neg g21]
      · have hb : 0 ≤ b.toInt := by rw [i_lt] at qb; omega
        rw [if_neg qb, if_pos ((e255 hb).mpr (by omega)), if_neg g20, if_neg g21]
    · intro b0 b1
      rw [if_neg (show ¬ (b < 0) by rw [i_lt]; omega), if_neg (fun q => by have := (e255 b0).mp q; omega), if_neg g20, if_neg g21]; rfl
