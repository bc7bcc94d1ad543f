/-- a payment that is passed on keeps the accounts -/
theorem Acc_pas {P : Int32} {Y : jB} (A : Acc P Y) (ρ : Int32) {m : Nat} (hm : m < mN Y) : Acc P (up2 (up2 (up2 Y 16 3 (Y 16 3 - ρ)) 16 6 (Y 16 6 + ρ)) 2 m (Y 2 m + ρ)) := by
  refine Acc_of A (-ρ) 0 0 ρ 0 0 ρ 0 0 ?_ ?_ ?_ ?_ ?_ ?_ ?_ ?_ ?_ ?_ ?_ ?_
  · rw [up2_at, if_neg (by omega), up2_at, if_neg (by omega), up2_at, if_pos ⟨rfl, rfl⟩]; grind
  · rw [up2_at, if_neg (by omega), up2_at, if_neg (by omega), up2_at, if_neg (by omega), add_zero32]
  · rw [up2_at, if_neg (by omega), up2_at, if_neg (by omega), up2_at, if_neg (by omega), add_zero32]
  · rw [up2_at, if_neg (by omega), up2_at, if_pos ⟨rfl, rfl⟩]
  · rw [up2_at, if_neg (by omega), up2_at, if_neg (by omega), up2_at, if_neg (by omega), add_zero32]
  · rw [mN_ne (by omega), mN_ne (by omega), mN_ne (by omega), sm_ne (by omega), sm_ne (by omega), sm_ne (by omega), add_zero32]
  · rw [mN_ne (by omega), mN_ne (by omega), mN_ne (by omega), sm_in _ _ hm, sm_ne (by omega), sm_ne (by omega), up2_at _ 16 6, if_neg (by omega), up2_at _ 16 3, if_neg (by omega)]; grind
  · rw [mN_ne (by omega), mN_ne (by omega), mN_ne (by omega), sm_ne (by omega), sm_ne (by omega), sm_ne (by omega), add_zero32]
  · rw [add_zero32]
  · grind
  · grind
  · rfl
theorem cA6_acc {P : Int32} {B : jB} (A : Acc P B) (k : Nat) (c : Int32) : Acc (P + c) (cA6 B k c) := by
  unfold cA6 cA0
  refine Acc_of A c 0 c 0 0 0 0 0 c ?_ ?_ ?_ ?_ ?_ ?_ ?_ ?_ rfl ?_ ?_ rfl
  · rw [up2_at, if_pos ⟨rfl, rfl⟩]
  · rw [up2_at, if_neg (by omega), up2_at, if_neg (by omega), up2_at, if_neg (by omega), add_zero32]
  · rw [up2_at, if_neg (by omega), up2_at, if_pos ⟨rfl, rfl⟩]
  · rw [up2_at, if_neg (by omega), up2_at, if_neg (by omega), up2_at, if_neg (by omega), add_zero32]
  · rw [up2_at, if_neg (by omega), up2_at, if_neg (by omega), up2_at, if_neg (by omega), add_zero32]
  · rw [mN_ne (by omega), mN_ne (by omega), mN_ne (by omega), sm_ne (by omega), sm_ne (by omega), sm_ne (by omega), add_zero32]
  · rw [mN_ne (by omega), mN_ne (by omega), mN_ne (by omega), sm_ne (by omega), sm_ne (by omega), sm_ne (by omega), add_zero32]
  · rw [mN_ne (by omega), mN_ne (by omega), mN_ne (by omega), sm_ne (by omega), sm_ne (by omega), sm_ne (by omega), add_zero32]
  · grind
  · grind
theorem cA2_acc {P : Int32} {B : jB} (A : Acc P B) (k : Nat) (c : Int32) (hm : (B 7 k).toNatClampNeg < mN B) : Acc P (cA2 B k c) := by
  unfold cA2 cA0
  refine Acc_of A 0 0 c 0 0 0 c 0 0 ?_ ?_ ?_ ?_ ?_ ?_ ?_ ?_ (add_zero32 _).symm ?_ ?_ rfl
  · rw [up2_at, if_neg (by omega), up2_at, if_neg (by omega), up2_at, if_neg (by omega), add_zero32]
  · rw [up2_at, if_neg (by omega), up2_at, if_neg (by omega), up2_at, if_neg (by omega), add_zero32]
  · rw [up2_at, if_neg (by omega), up2_at, if_pos ⟨rfl, rfl⟩]
  · rw [up2_at, if_neg (by omega), up2_at, if_neg (by omega), up2_at, if_neg (by omega), add_zero32]
  · rw [up2_at, if_neg (by omega), up2_at, if_neg (by omega), up2_at, if_neg (by omega), add_zero32]
  · rw [mN_ne (by omega), mN_ne (by omega), mN_ne (by omega), sm_ne (by omega), sm_ne (by omega), sm_ne (by omega), add_zero32]
  · rw [mN_ne (by omega), mN_ne (by omega), mN_ne (by omega), sm_in _ _ hm, sm_ne (by omega), sm_ne (by omega), up2_at _ 16 5, if_neg (by omega), up2_at _ 12, if_neg (by omega)]; grind
  · rw [mN_ne (by omega), mN_ne (by omega), mN_ne (by omega), sm_ne (by omega), sm_ne (by omega), sm_ne (by omega), add_zero32]
  · grind
  · grind
theorem cSet_acc {P : Int32} {B X : jB} (A : Acc P X) (k : Nat) (d : Int32) : Acc P (cSet B k d X) := by
  unfold cSet
  refine Acc_eq A (fun j _ _ _ => ?_) ?_ ?_ ?_
  · rw [up2_at, if_neg (by omega), up2_at, if_neg (by omega), up2_at, if_neg (by omega)]
  · rw [up2_row_ne (by omega), up2_row_ne (by omega), up2_row_ne (by omega)]
  · rw [up2_row_ne (by omega), up2_row_ne (by omega), up2_row_ne (by omega)]
  · rw [up2_row_ne (by omega), up2_row_ne (by omega), up2_row_ne (by omega)]
theorem cSet_cls {B X : jB} (C : Cls X) {k : Nat} (d : Int32) (hk : k < sN X) (h2 : X 11 k ≠ 2) (h3 : X 11 k ≠ 3) (h6 : (B 8 k).toNatClampNeg < 6) : Cls (cSet B k d X) := by
  unfold cSet
  refine Cls_of C 1 0 ?_ ?_ ?_ ?_
  · rw [sm_ne (by omega), sm_in _ _ h6, sm_ne (by omega), up2_at, if_neg (by omega)]; grind
  · rw [sm_ne (by omega), sm_ne (by omega), sm_ne (by omega), add_zero32]
  · rw [ct_ne (by omega) (by omega), ct_ne (by omega) (by omega), ct_11 _ hk, if_pos rfl, if_neg h2]; rfl
  · rw [ct_ne (by omega) (by omega), ct_ne (by omega) (by omega), ct_11 _ hk, if_neg (by decide), if_neg h3]; rfl
theorem cSet_fr (B X : jB) (k : Nat) (d : Int32) {r j : Nat} (h : r ≠ 4) (h6 : r ≠ 6) (h11 : ¬ (r = 11 ∧ j = k)) : cSet B k d X r j = X r j := by
  unfold cSet
  rw [up2_at, if_neg (by omega), up2_at, if_neg (by omega), up2_at, if_neg (by omega)]
theorem cSet_11 (B X : jB) (k : Nat) (d : Int32) : cSet B k d X 11 k = 2 := by
  unfold cSet
  rw [up2_at, if_neg (by omega), up2_at, if_neg (by omega), up2_at, if_pos ⟨rfl, rfl⟩]
theorem cPas_fr (B X : jB) (k : Nat) {r j : Nat} (h : r ≠ 2) (h6 : ¬ (r = 16 ∧ (j = 3 ∨ j = 6))) : cPas B k X r j = X r j := by
  unfold cPas
  rw [up2_at, if_neg (by omega), up2_at, if_neg (by omega), up2_at, if_neg (by omega)]
/-- the state behind a payment: what it is made of -/
theorem cEnd_X {P : Int32} {B : jB} (A : Acc P B) (i c : Int32) (hm : (B 7 i.toNatClampNeg).toNatClampNeg < mN B) : ∃ X : jB, Acc (P + if B 11 i.toNatClampNeg = 1 then c else 0) X ∧ (∀ r j, r ≠ 2 → ¬ (r = 12 ∧ j = i.toNatClampNeg) → ¬ (r = 16 ∧ (j = 3 ∨ j = 5 ∨ j = 6)) → X r j = B r j) ∧ X 12 i.toNatClampNeg = B 12 i.toNatClampNeg + c ∧ X 16 5 = B 16 5 + c ∧
    cEnd B i c = if B 9 i.toNatClampNeg - (B 12 i.toNatClampNeg + c) = 0 then cSet B i.toNatClampNeg (lt0 B i 0) X else X := by
  generalize hk : i.toNatClampNeg = k at *
  have f2 : ∀ r j, r ≠ 2 → ¬ (r = 12 ∧ j = k) → ¬ (r = 16 ∧ (j = 3 ∨ j = 5 ∨ j = 6)) → cA2 B k c r j = B r j := fun r j q1 q2 q3 => cA2_fr B k c q1 q2 (by omega)
  have f6 : ∀ r j, r ≠ 2 → ¬ (r = 12 ∧ j = k) → ¬ (r = 16 ∧ (j = 3 ∨ j = 5 ∨ j = 6)) → cA6 B k c r j = B r j := fun r j q1 q2 q3 => cA6_fr B k c (by omega) q2 (by omega)
  have t2 : cA2 B k c 12 k = B 12 k + c := by unfold cA2; rw [up2_at, if_neg (by omega), cA0_12]
  have t6 : cA6 B k c 12 k = B 12 k + c := by unfold cA6; rw [up2_at, if_neg (by omega), cA0_12]
  have v2 : cA2 B k c 16 5 = B 16 5 + c := by unfold cA2 cA0; rw [up2_at, if_neg (by omega), up2_at, if_pos ⟨rfl, rfl⟩]
  have v6 : cA6 B k c 16 5 = B 16 5 + c := by unfold cA6 cA0; rw [up2_at, if_neg (by omega), up2_at, if_pos ⟨rfl, rfl⟩]
  unfold cEnd
  rw [hk]
  by_cases s : B 11 k = 1
  · rw [if_pos s, if_pos s]
    by_cases l : B 9 k - (B 12 k + c) = 0
    · rw [if_pos l]
      by_cases q : 0 < cRest B k
      · rw [if_pos q]
        refine ⟨cPas B k (cA6 B k c), ?_, fun r j q1 q2 q3 => by rw [cPas_fr _ _ _ q1 (by omega)]; exact f6 r j q1 q2 q3, by rw [cPas_fr _ _ _ (by omega) (by omega)]; exact t6, by rw [cPas_fr _ _ _ (by omega) (by omega)]; exact v6, (if_pos l).symm⟩
        exact Acc_pas (cA6_acc A k c) _ (by unfold mN; rw [f6 16 0 (by omega) (by omega) (by omega)]; exact hm)
      · rw [if_neg q]
        exact ⟨cA6 B k c, cA6_acc A k c, f6, t6, v6, (if_pos l).symm⟩
    · rw [if_neg l]
      exact ⟨cA6 B k c, cA6_acc A k c, f6, t6, v6, (if_neg l).symm⟩
  · rw [if_neg s, if_neg s, add_zero32]
    exact ⟨cA2 B k c, cA2_acc A k c hm, f2, t2, v2, rfl⟩
theorem C_pay {n : Nat} {P : Int32} {K : Nat → jB} (h : St n P K) (hN : n ≤ 900) (i c : Int32) : n_X7_pay K i c ∧ -5 ≤ (r_X7_pay K i c).1.toInt ∧ St (n + 1) (P + if r_X7_invoice K i 4 = 1 then (r_X7_pay K i c).2 0 16 5 - K 0 16 5 else 0) (r_X7_pay K i c).2 := by
  obtain ⟨np, p0, ps⟩ := push_St h.2
  have hI := St_I h
  have z0 : (0 : Int32).toInt = 0 := rfl
  have e4 : 0 ≤ i.toInt → i.toInt < (K 0 16 1).toInt → r_X7_invoice K i 4 = K 0 11 i.toNatClampNeg := by
    intro h0 h1
    unfold r_X7_invoice
    rw [if_neg (show ¬ (r_X3_has (K 0) i = 0) by rw [has3_1 hI h0 h1]; exact one_ne), if_neg (by decide), if_neg (by decide), if_neg (by decide), if_neg (by decide), if_pos rfl]
  unfold n_X7_pay r_X7_pay
  rw [p0]
  rcases err_cases (K 0) i c with e | e
  rotate_left
  · have en : ¬ (r_X0_errorOfPayment (K 0) i c = 0) := by rw [i_eq, z0]; omega
    rw [if_neg en]
    refine ⟨⟨fun q => absurd q en, fun _ => trivial⟩, ?_, ?_⟩
    · show -5 ≤ (r_X0_errorOfPayment (K 0) i c).toInt
      unfold r_X0_errorOfPayment
      (repeat' split) <;> decide
    · have e0 : (if r_X7_invoice K i 4 = 1 then K 0 16 5 - K 0 16 5 else 0) = (0 : Int32) := by split <;> grind
      show St (n + 1) (P + if r_X7_invoice K i 4 = 1 then K 0 16 5 - K 0 16 5 else 0) K
      rw [e0, add_zero32]
      exact St_mono h (Nat.le_succ n)
  obtain ⟨h0, h1, s1, c1, c2⟩ := noFault hI e
  have ce := collect_eq hI h0 h1 (c := c)
  have le := left_of hI h0 h1 c1 c2
  rw [if_pos e, e4 h0 h1]
  refine ⟨⟨fun _ => ⟨np, ce.2, trivial⟩, fun _ => trivial⟩, ?_, ?_⟩
  · show -5 ≤ (r_X0_collect (K 0) i c).1.toInt
    rw [ce.1]; show -5 ≤ (K 0 9 i.toNatClampNeg - (K 0 12 i.toNatClampNeg + c)).toInt
    rw [le.2]; omega
  show St (n + 1) _ (up1 (r_X2_push_0 K) 0 (r_X0_collect (K 0) i c).2)
  rw [ce.1]
  show St (n + 1) (P + if K 0 11 i.toNatClampNeg = 1 then up1 (r_X2_push_0 K) 0 (cEnd (K 0) i c) 0 16 5 - K 0 16 5 else 0) (up1 (r_X2_push_0 K) 0 (cEnd (K 0) i c))
  rw [up1_0]
  have me := mem_of hI h0 h1
  have am := am_of hI h0 h1
  have pd := paid_of hI h0 h1
  have cl := cl_of hI h0 h1
  have hst := st_cases hI h0 h1
  have cI := cEnd_inv hI (G_of hI) (by omega) h0 h1 c1 c2
  have mk : (K 0 7 i.toNatClampNeg).toNatClampNeg < mN (K 0) := by unfold mN; rw [i_nat]; omega
  have c6 : (K 0 8 i.toNatClampNeg).toNatClampNeg < 6 := nat_lt (n := 6) cl.1 cl.2
  obtain ⟨-, A, V, C, R0⟩ := h.1
  obtain ⟨X, hA, fr, x12, x5, eX⟩ := cEnd_X A i c mk
  have kI := nat_lt_i h0 h1
  have Vk := V i.toNatClampNeg kI
  generalize hk : i.toNatClampNeg = k at *
  have kN : k < sN (K 0) := by unfold sN; omega
  have z2 : (2 : Int32).toInt = 2 := rfl
  have z3 : (3 : Int32).toInt = 3 := rfl
  have n2 : K 0 11 k ≠ 2 := by rw [Ne, i_eq, z2]; omega
  have n3 : K 0 11 k ≠ 3 := by rw [Ne, i_eq, z3]; omega
  have x11 : ∀ j, X 11 j = K 0 11 j := fun j => fr 11 j (by omega) (by omega) (by omega)
  have x16 : X 16 1 = K 0 16 1 := fr 16 1 (by omega) (by omega) (by omega)
  have xrow : ∀ r, r ≠ 2 → r ≠ 12 → r ≠ 16 → X r = K 0 r := fun r q1 q2 q3 => funext fun j => fr r j q1 (by omega) (by omega)
  have xC : Cls X := Cls_eq C (xrow 4 (by omega) (by omega) (by omega)) (xrow 5 (by omega) (by omega) (by omega)) (xrow 11 (by omega) (by omega) (by omega)) x16
  have xsN : sN X = sN (K 0) := by unfold sN; rw [x16]
  have E5 : cEnd (K 0) i c 16 5 = K 0 16 5 + c := by
    rw [eX]
    split
    · rw [cSet_fr _ _ _ _ (by omega) (by omega) (by omega)]; exact x5
    · exact x5
  have eP : (if K 0 11 k = 1 then cEnd (K 0) i c 16 5 - K 0 16 5 else 0) = (if K 0 11 k = 1 then c else 0) := by
    rw [E5]; split
    · grind
    · rfl
  rw [eP]
  have efr : ∀ r j, r ≠ 2 → r ≠ 4 → r ≠ 6 → ¬ (r = 11 ∧ j = k) → ¬ (r = 12 ∧ j = k) → ¬ (r = 16 ∧ (j = 3 ∨ j = 5 ∨ j = 6)) → cEnd (K 0) i c r j = K 0 r j := by
    intro r j q1 q2 q3 q4 q5 q6
    rw [eX]
    split
    · rw [cSet_fr _ _ _ _ q2 q3 q4]; exact fr r j q1 q5 q6
    · exact fr r j q1 q5 q6
  have e12 : cEnd (K 0) i c 12 k = K 0 12 k + c := by
    rw [eX]
    split
    · rw [cSet_fr _ _ _ _ (by omega) (by omega) (by omega)]; exact x12
    · exact x12
  refine St_set h.2 ⟨G_to cI (by omega) (by omega), ?_, ?_, ?_, ?_⟩
  · rw [eX]
    by_cases l : K 0 9 k - (K 0 12 k + c) = 0
    · rw [if_pos l]; exact cSet_acc hA _ _
    · rw [if_neg l]; exact hA
  · intro j
    rw [efr 16 1 (by omega) (by omega) (by omega) (by omega) (by omega) (by omega)]
    intro hj
    rw [efr 9 j (by omega) (by omega) (by omega) (by omega) (by omega) (by omega), efr 13 j (by omega) (by omega) (by omega) (by omega) (by omega) (by omega)]
    by_cases ej : j = k
    · subst ej
      rw [e12]
      by_cases l : K 0 9 j - (K 0 12 j + c) = 0
      · have e11 : cEnd (K 0) i c 11 j = 2 := by rw [eX, if_pos l]; exact cSet_11 _ _ _ _
        rw [e11]
        exact ⟨⟨fun _ => rfl, fun _ => by grind⟩, fun q => absurd q (by decide), fun q => absurd q (by decide)⟩
      · have e11 : cEnd (K 0) i c 11 j = K 0 11 j := by rw [eX, if_neg l]; exact x11 j
        rw [e11]
        exact ⟨⟨fun q => absurd (by rw [q]; grind) l, fun q => absurd q n2⟩, Vk.2⟩
    · rw [efr 11 j (by omega) (by omega) (by omega) (by omega) (by omega) (by omega), efr 12 j (by omega) (by omega) (by omega) (by omega) (by omega) (by omega)]
      exact V j hj
  · rw [eX]
    split
    · exact cSet_cls xC _ (by rw [xsN]; exact kN) (by rw [x11]; exact n2) (by rw [x11]; exact n3) c6
    · exact xC
  · refine Rng_eq R0 (efr _ _ (by omega) (by omega) (by omega) (by omega) (by omega) (by omega)) (efr _ _ (by omega) (by omega) (by omega) (by omega) (by omega) (by omega)) (funext fun j => efr 1 j (by omega) (by omega) (by omega) (by omega) (by omega) (by omega)) (funext fun j => efr 14 j (by omega) (by omega) (by omega) (by omega) (by omega) (by omega))
