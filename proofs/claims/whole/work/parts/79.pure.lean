theorem nat_of {x : Int32} (h : 0 ≤ x.toInt) : Int32.ofNat x.toNatClampNeg = x := by rw [i_nat]; exact (an_of h).symm
theorem wb_fin {n : Nat} {B : jB} (I : Inv n B) (hN : n ≤ 1000) {k : Nat} (hk : (k : Int) < (B 16 1).toInt) : FP.Core.val32 (wb B k) ≠ FP.Core.Datum.nan := by
  have hs := Inv_s I
  have e : (Int32.ofNat k).toInt = k := an_toInt (by omega)
  exact (mg_fin (worth_fin I hN (i := Int32.ofNat k) (by omega) (by omega)) (by decide)).ne_nan
theorem Rnk_desc {B : jB} {x : Nat} {l : List Nat} (h : Rnk B x l) : ∀ q1 q2 (h1 : q1 < l.length) (h2 : q2 < l.length), q1 ≤ q2 → wv B l[q2] ≤ wv B l[q1] := by
  intro q1 q2 h1 h2 hq
  rcases Nat.lt_or_ge q1 q2 with g | g
  · have := List.pairwise_iff_getElem.mp h.1 q1 q2 h1 h2 g
    unfold bfb at this
    simp at this
    omega
  · have e : q1 = q2 := by omega
    subst e; exact Int.le_refl _
theorem best17 {n : Nat} {K : Nat → jB} (I : Inv n (K 0)) (hN : n ≤ 1000) (K0 : Nat → jB) (r : Int32) (hr : 0 ≤ r.toInt) : ∀ (c f : Nat) (x : Int32) (K17 : Nat → jB) (l : List Nat), 0 ≤ x.toInt → x.toInt + c = (K 0 16 1).toInt → c ≤ f → Sm K K17 → Rnk (K 0) x.toNatClampNeg l → Rk (K 0) K17 l →
    (∃ l', Rnk (K 0) (K 0 16 1).toInt.toNat l' ∧ (L_X7_best_17 K0 r (f + 1) x K17).1 = (if h : r.toInt.toNat < l'.length then Int32.ofNat l'[r.toInt.toNat] else -5) ∧ Sm K (L_X7_best_17 K0 r (f + 1) x K17).2) ∧ NL_X7_best_17 K0 r (f + 1) x K17
  | 0, f, x, K17, l, h0, h1, hf, hsm, hR, hk => by
    have hs := Inv_s I
    have e0 : K17 0 = K 0 := hsm.1 0 (by decide)
    have g : K17 0 16 1 ≤ x := by rw [e0, i_le]; omega
    have ex : x.toNatClampNeg = (K 0 16 1).toInt.toNat := by rw [i_nat]; omega
    have ll := Rnk_len hR
    rw [L_X7_best_17, NL_X7_best_17, if_pos g]
    refine ⟨⟨l, by rw [← ex]; exact hR, ?_, ?_⟩, fun _ => ⟨fun _ => trivial, fun _ => trivial⟩, fun q => absurd g q⟩
    · by_cases q : r.toInt.toNat < l.length
      · rw [if_neg (show ¬ (K17 7 5 4 ≤ r) by rw [i_le, hk.1]; omega), dif_pos q]
        show r_X5_invoiceAt K17 r = _
        unfold r_X5_invoiceAt
        have z0 : (0 : Int32).toInt = 0 := rfl
        have z20 : (20 : Int32).toInt = 20 := rfl
        rw [if_neg (show ¬ (r < 0) by rw [i_lt]; omega), if_pos (show r < 20 by rw [i_lt]; omega)]
        exact (hk.2 r.toInt.toNat q).1
      · rw [if_pos (show K17 7 5 4 ≤ r by rw [i_le, hk.1]; omega), dif_neg q]
    · split <;> exact hsm
  | c + 1, f, x, K17, l, h0, h1, hf, hsm, hR, hk => by
    have hs := Inv_s I
    obtain ⟨f', rfl⟩ : ∃ f', f = f' + 1 := ⟨f - 1, by omega⟩
    have e0 : K17 0 = K 0 := hsm.1 0 (by decide)
    have g : ¬ (K17 0 16 1 ≤ x) := by rw [e0, i_le]; omega
    have xs : (x + 1).toInt = x.toInt + 1 := ii_succ (by omega)
    have xn : (x + 1).toNatClampNeg = x.toNatClampNeg + 1 := nn_succ h0 (by omega)
    rw [L_X7_best_17, NL_X7_best_17, if_neg g, e0]
    by_cases a : r_X0_canPayAhead (K 0) x = 0
    · have ha : Ab (K 0) x.toNatClampNeg = false := by unfold Ab; rw [nat_of h0]; simp [a]
      have ih := best17 I hN K0 r hr c f' (x + 1) K17 l (by omega) (by omega) (by omega) hsm (by rw [xn]; exact Rnk_skip hR ha) hk
      rw [if_pos a]
      exact ⟨ih.1, fun q => absurd q (by rw [e0] at g; exact g), fun _ => ⟨n_canPayAhead I hN x, fun _ => ih.2, fun q => absurd a q⟩⟩
    · have ha : Ab (K 0) x.toNatClampNeg = true := by unfold Ab; rw [nat_of h0]; simp [a]
      have hl := Rnk_len hR
      have hlt : l.length < 20 := by rw [i_nat] at hl; omega
      have hv : ∀ k, (k = x.toNatClampNeg ∨ k ∈ l) → FP.Core.val32 (wb (K 0) k) ≠ FP.Core.Datum.nan := by
        intro k hk'
        refine wb_fin I hN ?_
        rcases hk' with e | e
        · rw [e, i_nat]; omega
        · have := ((Rnk_mem hR k).mp e).1
          rw [i_nat] at this
          omega
      obtain ⟨p', hp', hlo, hhi, hsm', hrk'⟩ := ins_loop (B := K 0) (x := x.toNatClampNeg) (l := l) hv hlt K17 K l.length ((K17 7 5 4).toInt.toNat + 1) (K17 7 5 4) K17 hk.1 (Nat.le_refl _) (by have := hk.1; omega) hk.1 hsm (fun q hq _ => hk.2 q hq) (fun q hq h => absurd hq (by omega)) (fun q hq h => absurd hq (by omega)) (Rnk_desc hR)
      rw [nat_of h0] at hsm' hrk'
      have ew : wb (K 0) x.toNatClampNeg = r_X0_worthOf (K 0) x := by unfold wb; rw [nat_of h0]
      rw [ew] at hsm' hrk'
      have ei : r_X5_insert K17 x (r_X0_worthOf (K 0) x) = L_X5_insert_22 K17 x (r_X0_worthOf (K 0) x) ((K17 7 5 4).toInt.toNat + 1) (K17 7 5 4) K17 := by
        unfold r_X5_insert
        have z0 : (0 : Int32).toInt = 0 := rfl
        have z20 : (20 : Int32).toInt = 20 := rfl
        have := hk.1
        rw [if_neg (show ¬ (K17 7 5 4 < 0) by rw [i_lt]; omega), if_pos (show K17 7 5 4 < 20 by rw [i_lt]; omega)]
      rw [← ei] at hsm' hrk'
      have ih := best17 I hN K0 r hr c f' (x + 1) (r_X5_insert K17 x (r_X0_worthOf (K 0) x)) (l.take p' ++ x.toNatClampNeg :: l.drop p') (by omega) (by omega) (by omega) hsm' (by rw [xn]; exact Rnk_ins hR ha hp' hlo hhi) hrk'
      rw [if_neg a]
      exact ⟨ih.1, fun q => absurd q (by rw [e0] at g; exact g), fun _ => ⟨n_canPayAhead I hN x, fun q => absurd q a, fun _ => ⟨n_worth I hN x, ih.2⟩⟩⟩
theorem best25 {n : Nat} {M B : jB} (h : LB (M 0) B) (I : Inv n B) (hN : n ≤ 1000) (r x : Int32) (k : Int32 → Int32) (h0 : 0 ≤ x.toInt) (h1 : x.toInt < (B 16 1).toInt) :
    L_X8_best_25 M r x k (((M 0 9).toInt - (0 : Int32).toInt).toNat + 1) 0 0 = (if r_X0_canPayAhead B x = 0 then k (x + 1) else if fs (fun j => if (Ab B j && bfb B j x.toNatClampNeg) = true then 1 else 0) 0 (B 16 1).toInt.toNat 0 = r then x else k (x + 1)) := by
  have hs := Inv_s I
  have z0 : (0 : Int32).toInt = 0 := rfl
  rw [rN9 h]
  refine loopA (L := L_X8_best_25 M r x k) (g := fun j => if (Ab B j && bfb B j x.toNatClampNeg) = true then 1 else 0) (fin := fun a => if r_X0_canPayAhead B x = 0 then k (x + 1) else if a = r then x else k (x + 1)) (sz := B 16 1) (by omega) ?_ ?_ _ _ 0 0 (by decide) (sz_toNat hs.1 hs.2) (by omega)
  · intro n a y hy; rw [L_X8_best_25, rS9 h, if_pos hy, e_mayAhead h I h0 h1]
  · intro n a y g0 g1
    rw [L_X8_best_25, rS9 h, if_neg (show ¬ (B 16 1 ≤ y) by rw [i_le]; omega), e_mayAhead h I g0 g1, e_worthOf h I g0 g1, e_worthOf h I h0 h1]
    have vy := wb_fin I hN (k := y.toNatClampNeg) (by rw [i_nat]; omega)
    have vx := wb_fin I hN (k := x.toNatClampNeg) (by rw [i_nat]; omega)
    have ey : wb B y.toNatClampNeg = r_X0_worthOf B y := by unfold wb; rw [nat_of g0]
    have ex : wb B x.toNatClampNeg = r_X0_worthOf B x := by unfold wb; rw [nat_of h0]
    have cg := FP.Core.fcmp_gt_key vy vx
    have ce := FP.Core.fcmp_eq_key vy vx
    have cgt : (0 : Int32) < Op.cmpValue (FP.fcmp (r_X0_worthOf B y) (r_X0_worthOf B x)) CmpOp.l ↔ wv B x.toNatClampNeg < wv B y.toNatClampNeg := by
      rw [← ey, ← ex]
      unfold wv
      rw [← cg]
      show _ ↔ FP.fcmp (wb B y.toNatClampNeg) (wb B x.toNatClampNeg) = some .gt
      generalize FP.fcmp (wb B y.toNatClampNeg) (wb B x.toNatClampNeg) = o
      rcases o with _ | o
      · decide
      · cases o <;> decide
    have ceq : Op.cmpValue (FP.fcmp (r_X0_worthOf B y) (r_X0_worthOf B x)) CmpOp.l = 0 ↔ wv B y.toNatClampNeg = wv B x.toNatClampNeg := by
      rw [← ey, ← ex]
      unfold wv
      rw [← ce]
      exact cmp_l_eq _
    have hA : Ab B y.toNatClampNeg = true ↔ ¬ (r_X0_canPayAhead B y = 0) := by unfold Ab; rw [nat_of g0]; simp
    by_cases a : r_X0_canPayAhead B y = 0
    · rw [if_pos a, if_neg (by rw [Bool.and_eq_true]; exact fun q => (hA.mp q.1) a)]
    · have hA' := hA.mpr a
      rw [if_neg a, hA', Bool.true_and]
      unfold bfb
      by_cases b : wv B x.toNatClampNeg < wv B y.toNatClampNeg
      · rw [if_pos (cgt.mpr b), if_pos (by simp [b])]
      · rw [if_neg (fun q => b (cgt.mp q))]
        by_cases d : wv B y.toNatClampNeg = wv B x.toNatClampNeg
        · rw [if_pos (ceq.mpr d)]
          by_cases e : x ≤ y
          · have e' := e
            rw [i_le] at e'
            have e2 : ¬ (y.toNatClampNeg < x.toNatClampNeg) := by rw [i_nat, i_nat]; omega
            rw [if_pos e, if_neg (by simp [d]; simp at e2; exact e2)]
          · have e' := e
            rw [i_le] at e'
            have e2 : y.toNatClampNeg < x.toNatClampNeg := by rw [i_nat, i_nat]; omega
            rw [if_neg e, if_pos (by simp [d, e2])]
        · rw [if_neg (fun q => d (ceq.mp q)), if_neg (by simp [b, d])]
