theorem pays_eq {n : Nat} {M B : jB} (h : LB (M 0) B) (I : Inv n B) {i c : Int32} (h0 : 0 ≤ i.toInt) (h1 : i.toInt < (B 16 1).toInt) (hl : 0 ≤ (B 9 i.toNatClampNeg - (B 12 i.toNatClampNeg + c)).toInt) :
    (r_X8_pays M i c).1 = B 9 i.toNatClampNeg - (B 12 i.toNatClampNeg + c) ∧ LB ((r_X8_pays M i c).2 0) (cEnd B i c) ∧ n_X8_pays M i c ∧ ∀ r, r ≠ 0 → (r_X8_pays M i c).2 r = M r := by
  have hs := Inv_s I
  have hm := Inv_m I
  have me := mem_of I h0 h1
  have hc := cl_of I h0 h1
  have hi : i.toInt < 20 := by omega
  have hm8 : (B 7 i.toNatClampNeg).toInt < 8 := by omega
  have z0 : (0 : Int32).toInt = 0 := rfl
  have l0 : LB (z_X8_pays_0 M i c 0) (up2 B 12 i.toNatClampNeg (B 12 i.toNatClampNeg + c)) := LB_up2 h (vI5 h0 hi) (pI5 h0 hi) (by rw [rI5 h h0 hi])
  have l1 : LB (z_X8_pays_1 M i c 0) (cA0 B i.toNatClampNeg c) := LB_up2 l0 vS11 rfl (by rw [rS11 l0, up2_at, if_neg (by omega)])
  have l2 : LB (z_X8_pays_2 M i c 0) (cA2 B i.toNatClampNeg c) := LB_up2 l1 (vM2 me.1 hm8) (by rw [rI0 h h0 hi]; exact pM2 me.1 hm8) (by rw [rI0 h h0 hi, rM2 l1 me.1 hm8, cA0_fr B _ c (by omega) (by omega)])
  have l6 : LB (z_X8_pays_6 M i c 0) (cA6 B i.toNatClampNeg c) := LB_up2 l1 vS1 rfl (by rw [rS1 l1, cA0_fr B _ c (by omega) (by omega)])
  -- what a settling does to a state X that holds the book C
  have set : ∀ (X3 X4 : jB) (X C : jB), LB (X 0) C → C 16 2 = B 16 2 → C 10 i.toNatClampNeg = B 10 i.toNatClampNeg →
      X3 = (up2 X 0 ((r_X8_of i (4 : Int32))).toNatClampNeg (2 : Int32)) → X4 = (up2 X3 0 ((r_X8_ofClient (M 0 (r_X8_of i (1 : Int32)).toNatClampNeg) (0 : Int32))).toNatClampNeg ((X3 0 (r_X8_ofClient (M 0 (r_X8_of i (1 : Int32)).toNatClampNeg) (0 : Int32)).toNatClampNeg) + (1 : Int32))) →
      LB ((up2 X4 0 ((r_X8_ofClient (M 0 (r_X8_of i (1 : Int32)).toNatClampNeg) (2 : Int32))).toNatClampNeg ((X4 0 (r_X8_ofClient (M 0 (r_X8_of i (1 : Int32)).toNatClampNeg) (2 : Int32)).toNatClampNeg) + (r_X8_late X4 i (0 : Int32)))) 0) (cSet B i.toNatClampNeg (lt0 B i 0) C) := by
    intro X3 X4 X C hX hC2 hC10 e3 e4
    have m3 : LB (X3 0) (up2 C 11 i.toNatClampNeg 2) := by rw [e3]; exact LB_up2 hX (vI4 h0 hi) (pI4 h0 hi) rfl
    have m4 : LB (X4 0) (up2 (up2 C 11 i.toNatClampNeg 2) 4 (B 8 i.toNatClampNeg).toNatClampNeg (C 4 (B 8 i.toNatClampNeg).toNatClampNeg + 1)) := by
      rw [e4, rI1 h h0 hi]
      exact LB_up2 m3 (vC0 hc.1 hc.2) (pC0 hc.1 hc.2) (by rw [rC0 m3 hc.1 hc.2, up2_at, if_neg (by omega)])
    rw [rI1 h h0 hi]
    refine LB_up2 m4 (vC2 hc.1 hc.2) (pC2 hc.1 hc.2) ?_
    rw [rC2 m4 hc.1 hc.2, late8_lt0 m4 h0 hi, up2_at, if_neg (by omega), up2_at, if_neg (by omega)]
    have el : lt0 (up2 (up2 C 11 i.toNatClampNeg 2) 4 (B 8 i.toNatClampNeg).toNatClampNeg (C 4 (B 8 i.toNatClampNeg).toNatClampNeg + 1)) i 0 = lt0 B i 0 := by
      have a : up2 (up2 C 11 i.toNatClampNeg 2) 4 (B 8 i.toNatClampNeg).toNatClampNeg (C 4 (B 8 i.toNatClampNeg).toNatClampNeg + 1) 16 2 = B 16 2 := by
        rw [up2_at, if_neg (by omega), up2_at, if_neg (by omega)]; exact hC2
      have b : up2 (up2 C 11 i.toNatClampNeg 2) 4 (B 8 i.toNatClampNeg).toNatClampNeg (C 4 (B 8 i.toNatClampNeg).toNatClampNeg + 1) 10 i.toNatClampNeg = B 10 i.toNatClampNeg := by
        rw [up2_at, if_neg (by omega), up2_at, if_neg (by omega)]; exact hC10
      unfold lt0
      rw [a, b]
    rw [el]
  have l5 : LB (z_X8_pays_5 M i c 0) (cSet B i.toNatClampNeg (lt0 B i 0) (cA2 B i.toNatClampNeg c)) :=
    set (z_X8_pays_3 M i c) (z_X8_pays_4 M i c) (z_X8_pays_2 M i c) _ l2 (cA2_fr B _ c (by omega) (by omega) (by omega)) (cA2_fr B _ c (by omega) (by omega) (by omega)) rfl rfl
  have l9 : LB (z_X8_pays_9 M i c 0) (cSet B i.toNatClampNeg (lt0 B i 0) (cA6 B i.toNatClampNeg c)) :=
    set (z_X8_pays_7 M i c) (z_X8_pays_8 M i c) (z_X8_pays_6 M i c) _ l6 (cA6_fr B _ c (by omega) (by omega) (by omega)) (cA6_fr B _ c (by omega) (by omega) (by omega)) rfl rfl
  have sfr : ∀ (X : jB) (r j : Nat), ¬ (r = 11 ∨ r = 4 ∨ r = 6) → cSet B i.toNatClampNeg (lt0 B i 0) X r j = X r j := by
    intro X r j hr
    unfold cSet
    rw [up2_at, if_neg (by omega), up2_at, if_neg (by omega), up2_at, if_neg (by omega)]
  have f9 : cSet B i.toNatClampNeg (lt0 B i 0) (cA6 B i.toNatClampNeg c) 9 i.toNatClampNeg = B 9 i.toNatClampNeg := by rw [sfr _ _ _ (by omega), cA6_fr B _ c (by omega) (by omega) (by omega)]
  have f13 : cSet B i.toNatClampNeg (lt0 B i 0) (cA6 B i.toNatClampNeg c) 13 i.toNatClampNeg = B 13 i.toNatClampNeg := by rw [sfr _ _ _ (by omega), cA6_fr B _ c (by omega) (by omega) (by omega)]
  have f15 : cSet B i.toNatClampNeg (lt0 B i 0) (cA6 B i.toNatClampNeg c) 15 2 = B 15 2 := by rw [sfr _ _ _ (by omega), cA6_fr B _ c (by omega) (by omega) (by omega)]
  have g9 : cSet B i.toNatClampNeg (lt0 B i 0) (cA2 B i.toNatClampNeg c) 9 i.toNatClampNeg = B 9 i.toNatClampNeg := by rw [sfr _ _ _ (by omega), cA2_fr B _ c (by omega) (by omega) (by omega)]
  have g15 : cSet B i.toNatClampNeg (lt0 B i 0) (cA2 B i.toNatClampNeg c) 15 2 = B 15 2 := by rw [sfr _ _ _ (by omega), cA2_fr B _ c (by omega) (by omega) (by omega)]
  have r9 := rate2_of l9 (by rw [f15]; exact rate_b2 I)
  have r5 := rate2_of l5 (by rw [g15]; exact rate_b2 I)
  have eR : (((z_X8_pays_9 M i c) 0 (r_X8_of i (2 : Int32)).toNatClampNeg) - ((z_X8_pays_9 M i c) 0 (r_X8_of i (6 : Int32)).toNatClampNeg)) - (FP.f2i (FP.fmul (FP.i2f ((z_X8_pays_9 M i c) 0 (r_X8_of i (2 : Int32)).toNatClampNeg)) (r_X8_rateOf (z_X8_pays_9 M i c) (2 : Int32)))) = cRest B i.toNatClampNeg := by
    rw [r9.1, rI2 l9 h0 hi, rI6 l9 h0 hi, f9, f13, f15]; rfl
  have left6 : ((z_X8_pays_6 M i c) 0 (r_X8_of i (2 : Int32)).toNatClampNeg) - ((z_X8_pays_6 M i c) 0 (r_X8_of i (5 : Int32)).toNatClampNeg) = B 9 i.toNatClampNeg - (B 12 i.toNatClampNeg + c) := by
    rw [rI2 l6 h0 hi, rI5 l6 h0 hi, cA6_fr B _ c (r := 9) (by omega) (by omega) (by omega)]
    have : cA6 B i.toNatClampNeg c 12 i.toNatClampNeg = B 12 i.toNatClampNeg + c := by unfold cA6; rw [up2_at, if_neg (by omega), cA0_12]
    rw [this]
  have left2 : ((z_X8_pays_2 M i c) 0 (r_X8_of i (2 : Int32)).toNatClampNeg) - ((z_X8_pays_2 M i c) 0 (r_X8_of i (5 : Int32)).toNatClampNeg) = B 9 i.toNatClampNeg - (B 12 i.toNatClampNeg + c) := by
    rw [rI2 l2 h0 hi, rI5 l2 h0 hi, cA2_fr B _ c (r := 9) (by omega) (by omega) (by omega)]
    have : cA2 B i.toNatClampNeg c 12 i.toNatClampNeg = B 12 i.toNatClampNeg + c := by unfold cA2; rw [up2_at, if_neg (by omega), cA0_12]
    rw [this]
  have l12 : LB (z_X8_pays_12 M i c 0) (cSet B i.toNatClampNeg (lt0 B i 0) (cPas B i.toNatClampNeg (cA6 B i.toNatClampNeg c))) := by
    have a10 : LB (z_X8_pays_10 M i c 0) (up2 (cSet B i.toNatClampNeg (lt0 B i 0) (cA6 B i.toNatClampNeg c)) 16 3 (cA6 B i.toNatClampNeg c 16 3 - cRest B i.toNatClampNeg)) := by
      unfold z_X8_pays_10
      rw [eR]
      exact LB_up2 l9 vS1 rfl (by rw [rS1 l9, sfr _ _ _ (by omega)])
    have a11 : LB (z_X8_pays_11 M i c 0) (up2 (up2 (cSet B i.toNatClampNeg (lt0 B i 0) (cA6 B i.toNatClampNeg c)) 16 3 (cA6 B i.toNatClampNeg c 16 3 - cRest B i.toNatClampNeg)) 2 (B 7 i.toNatClampNeg).toNatClampNeg (cA6 B i.toNatClampNeg c 2 (B 7 i.toNatClampNeg).toNatClampNeg + cRest B i.toNatClampNeg)) := by
      unfold z_X8_pays_11
      rw [eR, rI0 h h0 hi]
      exact LB_up2 a10 (vM2 me.1 hm8) (pM2 me.1 hm8) (by rw [rM2 a10 me.1 hm8, up2_at, if_neg (by omega), sfr _ _ _ (by omega)])
    have a12 : LB (z_X8_pays_12 M i c 0) (up2 (up2 (up2 (cSet B i.toNatClampNeg (lt0 B i 0) (cA6 B i.toNatClampNeg c)) 16 3 (cA6 B i.toNatClampNeg c 16 3 - cRest B i.toNatClampNeg)) 2 (B 7 i.toNatClampNeg).toNatClampNeg (cA6 B i.toNatClampNeg c 2 (B 7 i.toNatClampNeg).toNatClampNeg + cRest B i.toNatClampNeg)) 16 6 (cA6 B i.toNatClampNeg c 16 6 + cRest B i.toNatClampNeg)) := by
      unfold z_X8_pays_12
      rw [eR]
      exact LB_up2 a11 vS12 rfl (by rw [rS12 a11, up2_at, if_neg (by omega), up2_at, if_neg (by omega), sfr _ _ _ (by omega)])
    refine LB_ext a12 ?_
    intro r j hv
    unfold cSet cPas
    generalize cA6 B i.toNatClampNeg c = X
    generalize cRest B i.toNatClampNeg = R
    generalize lt0 B i 0 = d
    generalize (B 7 i.toNatClampNeg).toNatClampNeg = m
    generalize (B 8 i.toNatClampNeg).toNatClampNeg = q
    generalize i.toNatClampNeg = k
    simp only [up2_at]
    grind
  have st : M 0 (r_X8_of i (4 : Int32)).toNatClampNeg = B 11 i.toNatClampNeg := rI4 h h0 hi
  have le0 : B 9 i.toNatClampNeg - (B 12 i.toNatClampNeg + c) ≤ 0 ↔ B 9 i.toNatClampNeg - (B 12 i.toNatClampNeg + c) = 0 := by
    rw [i_le, i_eq, z0]; omega
  have rl0 : cRest B i.toNatClampNeg ≤ 0 ↔ ¬ (0 < cRest B i.toNatClampNeg) := by rw [i_le, i_lt]; omega
  refine ⟨?_, ?_, ?_, ?_⟩
  · unfold r_X8_pays
    rw [st, left6, left2, eR]
    by_cases a : B 11 i.toNatClampNeg = 1
    · rw [if_pos a]
      by_cases b : B 9 i.toNatClampNeg - (B 12 i.toNatClampNeg + c) = 0
      · rw [if_pos (le0.mpr b), b]; split <;> rfl
      · rw [if_neg (fun q => b (le0.mp q))]
    · rw [if_neg a]
      by_cases b : B 9 i.toNatClampNeg - (B 12 i.toNatClampNeg + c) = 0
      · rw [if_pos (le0.mpr b), b]
      · rw [if_neg (fun q => b (le0.mp q))]
  · unfold r_X8_pays cEnd
    rw [st, left6, left2, eR]
    by_cases a : B 11 i.toNatClampNeg = 1
    · rw [if_pos a, if_pos a]
      by_cases b : B 9 i.toNatClampNeg - (B 12 i.toNatClampNeg + c) = 0
      · rw [if_pos (le0.mpr b), if_pos b]
        by_cases d : 0 < cRest B i.toNatClampNeg
        · rw [if_neg (fun q => (rl0.mp q) d), if_pos d]; exact l12
        · rw [if_pos (rl0.mpr d), if_neg d]; exact l9
      · rw [if_neg (fun q => b (le0.mp q)), if_neg b]; exact l6
    · rw [if_neg a, if_neg a]
      by_cases b : B 9 i.toNatClampNeg - (B 12 i.toNatClampNeg + c) = 0
      · rw [if_pos (le0.mpr b), if_pos b]; exact l5
      · rw [if_neg (fun q => b (le0.mp q)), if_neg b]; exact l2
  · unfold n_X8_pays
    rw [rI0 h h0 hi, rI1 h h0 hi, r9.1, r5.1, rI2 l9 h0 hi, f9, f15, rI2 l5 h0 hi, g9, g15]
    have vc0 := vp_ofC hc.1 hc.2 (w := 0) (by decide) (by decide)
    have vc2 := vp_ofC hc.1 hc.2 (w := 2) (by decide) (by decide)
    have vm2 := vp_ofM me.1 hm8 (w := 2) (by decide) (by decide)
    have nf := fee_n32 (rate_b2 I) (B 9 i.toNatClampNeg)
    exact ⟨vpi_of h0 hi, fun _ => ⟨fun _ => ⟨vc0, vc0, vc2, n_late8 _ h0 hi 0, vc2, r9.2, nf, fun _ => trivial, fun _ => ⟨vm2, vm2, trivial⟩⟩, fun _ => trivial⟩, fun _ => ⟨vm2, vm2, fun _ => ⟨vc0, vc0, vc2, n_late8 _ h0 hi 0, vc2, r5.2, nf, trivial⟩, fun _ => trivial⟩⟩
  · intro r hr
    unfold r_X8_pays
    have e1 : z_X8_pays_1 M i c r = M r := by unfold z_X8_pays_1 z_X8_pays_0; rw [up2_row_ne hr, up2_row_ne hr]
    have e2 : z_X8_pays_2 M i c r = M r := by unfold z_X8_pays_2; rw [up2_row_ne hr, e1]
    have e6 : z_X8_pays_6 M i c r = M r := by unfold z_X8_pays_6; rw [up2_row_ne hr, e1]
    have e5 : z_X8_pays_5 M i c r = M r := by unfold z_X8_pays_5 z_X8_pays_4 z_X8_pays_3; rw [up2_row_ne hr, up2_row_ne hr, up2_row_ne hr, e2]
    have e9 : z_X8_pays_9 M i c r = M r := by unfold z_X8_pays_9 z_X8_pays_8 z_X8_pays_7; rw [up2_row_ne hr, up2_row_ne hr, up2_row_ne hr, e6]
    have e12 : z_X8_pays_12 M i c r = M r := by unfold z_X8_pays_12 z_X8_pays_11 z_X8_pays_10; rw [up2_row_ne hr, up2_row_ne hr, up2_row_ne hr, e9]
    split
    · split
      · split
        · exact e9
        · exact e12
      · exact e6
    · split
      · exact e5
      · exact e2
