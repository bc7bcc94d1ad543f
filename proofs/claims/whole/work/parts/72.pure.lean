theorem noFault {n : Nat} {B : jB} (I : Inv n B) {i c : Int32} (h : r_X0_errorOfPayment B i c = 0) : 0 ≤ i.toInt ∧ i.toInt < (B 16 1).toInt ∧ (B 11 i.toNatClampNeg).toInt ≤ 1 ∧ 1 ≤ c.toInt ∧ c.toInt ≤ (B 9 i.toNatClampNeg).toInt - (B 12 i.toNatClampNeg).toInt := by
  unfold r_X0_errorOfPayment at h
  have z1 : (1 : Int32).toInt = 1 := rfl
  rcases has3_cases I i with g | ⟨g, h0, h1⟩
  · rw [if_pos g.1] at h; exact absurd h (by decide)
  rw [if_neg (by rw [g]; exact one_ne)] at h
  rcases unset_cases I h0 h1 with a | a
  · rw [if_pos a.1] at h; exact absurd h (by decide)
  rw [if_neg (by rw [a.1]; exact one_ne)] at h
  by_cases b : c < 1
  · rw [if_pos b] at h; exact absurd h (by decide)
  rw [if_neg b] at h
  by_cases d : c ≤ B 9 i.toNatClampNeg - B 12 i.toNatClampNeg
  · have am := am_of I h0 h1
    have pd := paid_of I h0 h1
    rw [i_lt] at b
    rw [i_le, i_sub (by omega) (by omega)] at d
    exact ⟨h0, h1, a.2, by omega, d⟩
  · rw [if_neg d] at h; exact absurd h (by decide)
theorem left_of {n : Nat} {B : jB} (I : Inv n B) {i c : Int32} (h0 : 0 ≤ i.toInt) (h1 : i.toInt < (B 16 1).toInt) (hc : 1 ≤ c.toInt) (hc2 : c.toInt ≤ (B 9 i.toNatClampNeg).toInt - (B 12 i.toNatClampNeg).toInt) : (B 12 i.toNatClampNeg + c).toInt = (B 12 i.toNatClampNeg).toInt + c.toInt ∧ (B 9 i.toNatClampNeg - (B 12 i.toNatClampNeg + c)).toInt = (B 9 i.toNatClampNeg).toInt - ((B 12 i.toNatClampNeg).toInt + c.toInt) := by
  have am := am_of I h0 h1
  have pd := paid_of I h0 h1
  have e : (B 12 i.toNatClampNeg + c).toInt = (B 12 i.toNatClampNeg).toInt + c.toInt := i_add (by omega) (by omega)
  refine ⟨e, ?_⟩
  rw [i_sub] <;> rw [e] <;> omega
theorem cEnd_inv {n : Nat} {S L : Int} {B : jB} (I : Inv n B) (G : InvG S L B) (hS : S ≤ 1000000) {i c : Int32} (h0 : 0 ≤ i.toInt) (h1 : i.toInt < (B 16 1).toInt) (hc : 1 ≤ c.toInt) (hc2 : c.toInt ≤ (B 9 i.toNatClampNeg).toInt - (B 12 i.toNatClampNeg).toInt) : InvG (S + 1) L (cEnd B i c) := by
  have le := left_of I h0 h1 hc hc2
  have am := am_of I h0 h1
  have pd := paid_of I h0 h1
  have ii := Inv_i I (nat_lt_i h0 h1)
  have cl := cl_of I h0 h1
  have cl6 := nat_lt (n := 6) cl.1 cl.2
  have G0 : InvG (S + 1) L (cA0 B i.toNatClampNeg c) := by
    unfold cA0
    refine G_free (G_iup (G_mono G (by omega) (Int.le_refl _)) (by omega) (fun _ => ?_)) _ (by omega)
    unfold IInv at ii ⊢
    simp only [up2_at]
    simp [-Int32.toInt_add]
    rw [le.1]
    omega
  have hcs : cA0 B i.toNatClampNeg c 4 (B 8 i.toNatClampNeg).toNatClampNeg = B 4 (B 8 i.toNatClampNeg).toNatClampNeg := cA0_fr B _ c (by omega) (by omega)
  have setI : ∀ X : jB, InvG (S + 1) L X → X 4 (B 8 i.toNatClampNeg).toNatClampNeg = B 4 (B 8 i.toNatClampNeg).toNatClampNeg → InvG (S + 1) L (cSet B i.toNatClampNeg (lt0 B i 0) X) := by
    intro X hX e
    unfold cSet
    refine G_free (G_cup (G_iup hX (by omega) (fun hk => ?_)) (fun _ => ?_)) _ (by omega)
    · have := hX.2.2.2.2.1 i.toNatClampNeg hk
      unfold IInv at this ⊢
      simp only [up2_at]
      simp
      omega
    · rw [e]
      have := G.2.2.2.1 (B 8 i.toNatClampNeg).toNatClampNeg cl6
      rw [ii_succ (by omega)]
      omega
  have G2 : InvG (S + 1) L (cA2 B i.toNatClampNeg c) := G_free G0 _ (by omega)
  have G6 : InvG (S + 1) L (cA6 B i.toNatClampNeg c) := G_free G0 _ (by omega)
  have GP : InvG (S + 1) L (cPas B i.toNatClampNeg (cA6 B i.toNatClampNeg c)) := G_free (G_free (G_free G6 _ (by omega)) _ (by omega)) _ (by omega)
  have s2 : cA2 B i.toNatClampNeg c 4 (B 8 i.toNatClampNeg).toNatClampNeg = B 4 (B 8 i.toNatClampNeg).toNatClampNeg := cA2_fr B _ c (by omega) (by omega) (by omega)
  have s6 : cA6 B i.toNatClampNeg c 4 (B 8 i.toNatClampNeg).toNatClampNeg = B 4 (B 8 i.toNatClampNeg).toNatClampNeg := cA6_fr B _ c (by omega) (by omega) (by omega)
  have sP : cPas B i.toNatClampNeg (cA6 B i.toNatClampNeg c) 4 (B 8 i.toNatClampNeg).toNatClampNeg = B 4 (B 8 i.toNatClampNeg).toNatClampNeg := by
    unfold cPas
    rw [up2_at, if_neg (by omega), up2_at, if_neg (by omega), up2_at, if_neg (by omega)]; exact s6
  unfold cEnd
  split
  · split
    · split
      · exact setI _ GP sP
      · exact setI _ G6 s6
    · exact G6
  · split
    · exact setI _ G2 s2
    · exact G2
theorem err_cases (B : jB) (i c : Int32) : r_X0_errorOfPayment B i c = 0 ∨ (r_X0_errorOfPayment B i c).toInt < 0 := by
  unfold r_X0_errorOfPayment
  repeat' split
  all_goals first | (left; rfl) | (right; decide)
theorem R_pay {n : Nat} {K : Nat → jB} {M : jB} (h : Rel n K M) (hN : n ≤ 1000) (i c : Int32) : n_X7_pay K i c ∧ n_X8_pay M i c ∧ (r_X7_pay K i c).1 = (r_X8_pay M i c).1 ∧ Rel (n + 1) (r_X7_pay K i c).2 (r_X8_pay M i c).2 := by
  obtain ⟨hp, np, nk, p0, p2, k0, k3, k6⟩ := R_push0 h
  have hL := R_L h
  have hI := R_I h
  have hm : Rel (n + 1) K M := Rel_mono h (Nat.le_succ n)
  have hs := Inv_s hI
  have l0 : LB (r_X8_know M 0) (K 0) := by rw [k0]; exact hL
  have ep := e_payFault hL hI i c
  have npf : n_X8_payFault M i c := ⟨by rw [rN9 hL, i_le]; exact hs.2, by rw [rN9 hL, i_le]; exact hs.1, trivial⟩
  unfold n_X7_pay n_X8_pay r_X7_pay r_X8_pay
  rw [ep, p0]
  have z0 : (0 : Int32).toInt = 0 := rfl
  rcases err_cases (K 0) i c with e | e
  · obtain ⟨h0, h1, s1, c1, c2⟩ := noFault hI e
    have ce := collect_eq hI h0 h1 (c := c)
    have le := left_of hI h0 h1 c1 c2
    obtain ⟨q1, q2, q3, q4⟩ := pays_eq l0 hI h0 h1 (c := c) (by rw [le.2]; omega)
    have hle : (0 : Int32) ≤ r_X0_errorOfPayment (K 0) i c := by rw [e]; decide
    rw [if_pos e, if_pos hle]
    refine ⟨⟨fun _ => ⟨np, ce.2, trivial⟩, fun _ => trivial⟩, ⟨npf, fun _ => ⟨nk, q3, trivial⟩, fun _ => trivial⟩, ?_, ?_⟩
    · show (r_X0_collect (K 0) i c).1 = (r_X8_pays (r_X8_know M) i c).1
      rw [ce.1, q1]
    · show Rel (n + 1) (up1 (r_X2_push_0 K) 0 (r_X0_collect (K 0) i c).2) (r_X8_pays (r_X8_know M) i c).2
      rw [ce.1]
      refine push_set h q2 ?_ q4
      have := cEnd_inv hI (G_of hI) (by omega) h0 h1 c1 c2
      exact G_to this (by omega) (by omega)
  · have en : ¬ (r_X0_errorOfPayment (K 0) i c = 0) := by rw [i_eq, z0]; omega
    have hle : ¬ ((0 : Int32) ≤ r_X0_errorOfPayment (K 0) i c) := by rw [i_le, z0]; omega
    rw [if_neg en, if_neg hle]
    exact ⟨⟨fun q => absurd q en, fun _ => trivial⟩, ⟨npf, fun q => absurd q hle, fun _ => trivial⟩, rfl, hm⟩
