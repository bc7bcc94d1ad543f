theorem n_inv8 {n : Nat} {M B : jB} (h : LB (M 0) B) (I : Inv n B) (by_ who lo hi : Int32) (hb : by_ < 0 ∨ vp_in by_ 7) : n_X8_invoices M by_ who lo hi := by
  have hs := Inv_s I
  exact ⟨by rw [rN9 h, i_le]; exact hs.2, hb, trivial⟩
theorem Q_rate {n : Nat} {K : Nat → jB} {M : jB} (h : Rel n K M) (w : Int32) : n_X8_rate M w ∧ r_X7_rate K w = r_X8_rate M w := by
  have hL := R_L h
  have hI := R_I h
  have z0 : (0 : Int32).toInt = 0 := rfl
  have z2 : (2 : Int32).toInt = 2 := rfl
  have z3 : (3 : Int32).toInt = 3 := rfl
  unfold n_X8_rate r_X7_rate r_X8_rate
  rcases in_cases w 0 2 with c | c
  · rw [if_pos c.1]
    refine ⟨⟨fun _ => trivial, fun q => absurd c.1 q⟩, ?_⟩
    by_cases a : w < 0
    · rw [if_pos a]; rfl
    · rw [if_neg a, if_neg (show ¬ (w < 3) by rw [i_lt] at a ⊢; omega)]; rfl
  have cn : ¬ (r_X8_in w 0 2 = 0) := by rw [c.1]; exact one_ne
  rw [if_neg cn, if_neg (show ¬ (w < 0) by rw [i_lt]; omega), if_pos (show w < 3 by rw [i_lt]; omega)]
  rcases w3 c.2.1 c.2.2 with e | e | e <;> subst e
  · exact ⟨⟨fun q => absurd q cn, fun _ => ⟨(e_rate0 hL hI).2, trivial⟩⟩, (e_rate0 hL hI).1.symm⟩
  · exact ⟨⟨fun q => absurd q cn, fun _ => ⟨(e_rate1 hL hI).2, trivial⟩⟩, (e_rate1 hL hI).1.symm⟩
  · exact ⟨⟨fun q => absurd q cn, fun _ => ⟨(e_rate2 hL hI).2, trivial⟩⟩, (e_rate2 hL hI).1.symm⟩
theorem Q_number {n : Nat} {K : Nat → jB} {M : jB} (h : Rel n K M) (w : Int32) : n_X8_number_ M w ∧ r_X7_number K w = r_X8_number_ M w := by
  have hL := R_L h
  have z0 : (0 : Int32).toInt = 0 := rfl
  have z2 : (2 : Int32).toInt = 2 := rfl
  have z3 : (3 : Int32).toInt = 3 := rfl
  unfold n_X8_number_ r_X7_number r_X8_number_
  rcases in_cases w 0 2 with c | c
  · rw [if_pos c.1]
    refine ⟨⟨fun _ => trivial, fun q => absurd c.1 q⟩, ?_⟩
    by_cases a : w < 0
    · rw [if_pos a]
    · rw [if_neg a, if_neg (show ¬ (w < 3) by rw [i_lt] at a ⊢; omega)]
  have cn : ¬ (r_X8_in w 0 2 = 0) := by rw [c.1]; exact one_ne
  rw [if_neg cn, if_neg (show ¬ (w < 0) by rw [i_lt]; omega), if_pos (show w < 3 by rw [i_lt]; omega)]
  rcases w3 c.2.1 c.2.2 with e | e | e <;> subst e
  · exact ⟨⟨fun q => absurd q cn, fun _ => ⟨vpi_of (by decide) (by decide), trivial⟩⟩, (rN5 hL).symm⟩
  · exact ⟨⟨fun q => absurd q cn, fun _ => ⟨vpi_of (by decide) (by decide), trivial⟩⟩, (rN6 hL).symm⟩
  · exact ⟨⟨fun q => absurd q cn, fun _ => ⟨vpi_of (by decide) (by decide), trivial⟩⟩, (rN7 hL).symm⟩
theorem Q_member {n : Nat} {K : Nat → jB} {M : jB} (h : Rel n K M) (i w : Int32) : n_X8_member M i w ∧ r_X7_member K i w = r_X8_member M i w := by
  have hL := R_L h
  have hI := R_I h
  have hs := Inv_m hI
  have vi : vp_in (0 : Int32) 7 := vpi_of (by decide) (by decide)
  refine ⟨⟨by rw [rN8 hL, i_le]; exact hs.2, by rw [rN8 hL, i_le]; exact hs.1, fun _ => trivial, fun _ => ⟨fun _ => trivial, fun _ => ⟨fun _ => trivial, fun _ => ⟨fun _ => trivial, fun _ => ⟨fun _ => ⟨n_inv8 hL hI _ _ _ _ (Or.inr vi), trivial⟩, fun _ => ⟨fun _ => ⟨n_inv8 hL hI _ _ _ _ (Or.inr vi), trivial⟩, fun _ => ⟨fun _ => trivial, fun _ => trivial⟩⟩⟩⟩⟩⟩⟩, ?_⟩
  unfold r_X7_member r_X8_member
  rw [e_isMember hL hI]
  rcases has4_cases hI i with g | ⟨g, h0, h1⟩
  · rw [if_pos g.1, if_pos g.1]
  have gn : ¬ (r_X4_has (K 0) i = 0) := by rw [g]; exact one_ne
  rw [if_neg gn, if_neg gn, e_countOfMember hL hI, e_countOfMemberAhead hL hI, rM2 hL h0 (by omega), rM3 hL h0 (by omega)]
  by_cases e0 : w = 0
  · rw [if_pos e0, if_pos e0, e0, rM0 hL h0 (by omega)]
  rw [if_neg e0, if_neg e0]
  by_cases e1 : w = 1
  · rw [if_pos e1, if_pos e1, e1, rM1 hL h0 (by omega)]
  rw [if_neg e1, if_neg e1]
theorem w4 {w : Int32} (h0 : 0 ≤ w.toInt) (h1 : w.toInt ≤ 3) : w = 0 ∨ w = 1 ∨ w = 2 ∨ w = 3 := by
  have z0 : (0 : Int32).toInt = 0 := rfl
  have z1 : (1 : Int32).toInt = 1 := rfl
  have z2 : (2 : Int32).toInt = 2 := rfl
  have z3 : (3 : Int32).toInt = 3 := rfl
  rw [i_eq, i_eq, i_eq, i_eq]; omega
theorem Q_client {n : Nat} {K : Nat → jB} {M : jB} (h : Rel n K M) (i w : Int32) : n_X8_client M i w ∧ r_X7_client K i w = r_X8_client M i w := by
  have hL := R_L h
  have hI := R_I h
  have z0 : (0 : Int32).toInt = 0 := rfl
  have z3 : (3 : Int32).toInt = 3 := rfl
  have vi : vp_in (1 : Int32) 7 := vpi_of (by decide) (by decide)
  unfold n_X8_client r_X7_client r_X8_client
  rw [e_isClient (K 0) i]
  rcases has1_cases (K 0) i with g | ⟨g, h0, h1⟩
  · rw [if_pos g.1, if_pos g.1]
    exact ⟨⟨fun _ => trivial, fun q => absurd g.1 q⟩, rfl⟩
  have gn : ¬ (r_X1_has (K 0) i = 0) := by rw [g]; exact one_ne
  rw [if_neg gn, if_neg gn]
  rcases in_cases w 0 3 with c | c
  · rw [if_pos c.1]
    refine ⟨⟨fun _ => trivial, fun _ => ⟨fun _ => trivial, fun q => absurd c.1 q⟩⟩, ?_⟩
    have m0 : ¬ (w = 0) := fun e => c.2 (by rw [e, z0, z3]; decide)
    have m1 : ¬ (w = 1) := fun e => c.2 (by rw [e]; decide)
    have m2 : ¬ (w = 2) := fun e => c.2 (by rw [e]; decide)
    have m3 : ¬ (w = 3) := fun e => c.2 (by rw [e]; decide)
    rw [if_neg m0, if_neg m1, if_neg m2, if_neg m3]
  have cn : ¬ (r_X8_in w 0 3 = 0) := by rw [c.1]; exact one_ne
  rw [if_neg cn]
  refine ⟨⟨fun q => absurd q gn, fun _ => ⟨fun q => absurd q cn, fun _ => ⟨fun _ => ⟨n_inv8 hL hI _ _ _ _ (Or.inr vi), trivial⟩, fun q => ⟨vp_ofC h0 h1 (by omega) ?_, trivial⟩⟩⟩⟩, ?_⟩
  · have : ¬ (w.toInt = 3) := fun e => q (by rw [i_eq, z3]; exact e)
    omega
  rw [e_countOfClientUnsettled hL hI]
  rcases w4 (w := w) (by omega) (by omega) with e | e | e | e <;> subst e
  · rw [if_pos rfl, if_neg (by decide), rC0 hL h0 h1]
  · rw [if_neg (by decide), if_pos rfl, if_neg (by decide), rC1 hL h0 h1]
  · rw [if_neg (by decide), if_neg (by decide), if_pos rfl, if_neg (by decide), rC2 hL h0 h1]
  · rw [if_neg (by decide), if_neg (by decide), if_neg (by decide), if_pos rfl, if_pos rfl]
theorem Q_risk {n : Nat} {K : Nat → jB} {M : jB} (h : Rel n K M) (hN : n ≤ 1000) (i : Int32) : n_X7_risk K i ∧ n_X8_risk M i ∧ r_X7_risk K i = r_X8_risk M i := by
  have hL := R_L h
  have hI := R_I h
  unfold n_X8_risk r_X7_risk r_X8_risk
  rw [e_isClient (K 0) i]
  refine ⟨⟨n_risk1 hI hN i, trivial⟩, ?_⟩
  rcases has1_cases (K 0) i with g | ⟨g, h0, h1⟩
  · rw [if_pos g.1]
    refine ⟨⟨fun _ => trivial, fun q => absurd g.1 q⟩, ?_⟩
    unfold r_X1_riskOf; rw [if_pos g.1]; rfl
  have gn : ¬ (r_X1_has (K 0) i = 0) := by rw [g]; exact one_ne
  rw [if_neg gn]
  exact ⟨⟨fun q => absurd q gn, fun _ => ⟨n_risk8 hL hI hN h0 h1, trivial⟩⟩, (e_riskOf hL h0 h1).symm⟩
theorem div_n32 {a b : Int32} (hb : b ≠ 0) : vf_n32 (FP.fdiv (FP.i2f a) (FP.i2f b)) := mg_n32 (mg_div (mg_i2f a) (fun q => hb (by rw [i_eq]; exact q))) (by decide)
theorem Q_lateness {n : Nat} {K : Nat → jB} {M : jB} (h : Rel n K M) (i : Int32) : n_X7_lateness K i ∧ n_X8_lateness M i ∧ r_X7_lateness K i = r_X8_lateness M i := by
  have hL := R_L h
  unfold n_X8_lateness r_X7_lateness r_X8_lateness n_X7_lateness n_X1_latenessOf r_X1_latenessOf
  rw [e_isClient (K 0) i]
  rcases has1_cases (K 0) i with g | ⟨g, h0, h1⟩
  · rw [if_pos g.1, if_pos g.1]
    exact ⟨⟨⟨fun _ => trivial, fun q => absurd g.1 q⟩, trivial⟩, ⟨fun _ => trivial, fun q => absurd g.1 q⟩, rfl⟩
  have gn : ¬ (r_X1_has (K 0) i = 0) := by rw [g]; exact one_ne
  rw [if_neg gn, if_neg gn, rC0 hL h0 h1, rC2 hL h0 h1]
  exact ⟨⟨⟨fun _ => by trivial, fun _ => ⟨fun _ => trivial, fun q => ⟨div_n32 q, trivial⟩⟩⟩, trivial⟩, ⟨fun _ => trivial, fun _ => ⟨fun _ => trivial, fun q => ⟨div_n32 q, trivial⟩⟩⟩, rfl⟩
theorem Q_invoice {n : Nat} {K : Nat → jB} {M : jB} (h : Rel n K M) (hN : n ≤ 1000) (i w : Int32) : n_X7_invoice K i w ∧ n_X8_invoice M i w ∧ r_X7_invoice K i w = r_X8_invoice M i w := by
  have hL := R_L h
  have hI := R_I h
  have hs := Inv_s hI
  have z0 : (0 : Int32).toInt = 0 := rfl
  have z6 : (6 : Int32).toInt = 6 := rfl
  refine ⟨⟨fun _ => trivial, fun _ => ⟨fun _ => trivial, fun _ => ⟨fun _ => trivial, fun _ => ⟨fun _ => trivial, fun _ => ⟨fun _ => trivial, fun _ => ⟨fun _ => trivial, fun _ => ⟨fun _ => trivial, fun _ => ⟨fun _ => trivial, fun _ => ⟨fun _ => trivial, fun _ => ⟨fun _ => ⟨n_offer hI hN i 0, trivial⟩, fun _ => ⟨fun _ => ⟨n_canPayAhead hI hN i, fun _ => trivial, fun _ => trivial⟩, fun _ => ⟨fun _ => ⟨fun _ => trivial, fun _ => trivial⟩, fun _ => trivial⟩⟩⟩⟩⟩⟩⟩⟩⟩⟩⟩⟩, ?_⟩
  unfold n_X8_invoice r_X7_invoice r_X8_invoice
  rw [e_isInvoice hL hI, rN9 hL]
  rcases has3_cases hI i with g | ⟨g, h0, h1⟩
  · rw [if_pos g.1, if_pos g.1]
    exact ⟨⟨by rw [i_le]; exact hs.2, by rw [i_le]; exact hs.1, fun _ => trivial, fun q => absurd g.1 q⟩, rfl⟩
  have gn : ¬ (r_X3_has (K 0) i = 0) := by rw [g]; exact one_ne
  have vg : ¬ (r_X8_in w 0 6 = 0) → vp_in (r_X8_of i w) 204 := by
    intro q
    rcases in_cases w 0 6 with c | c
    · exact absurd c.1 q
    · exact vp_of h0 (by omega) (by omega) (by omega)
  refine ⟨⟨by rw [i_le]; exact hs.2, by rw [i_le]; exact hs.1, fun q => absurd q gn, fun _ => ⟨fun _ => trivial, fun _ => ⟨fun _ => ⟨n_offer8 hL hI hN h0 h1 0, trivial⟩, fun _ => ⟨fun _ => ⟨n_mayAhead hL hI hN h0 h1, fun _ => trivial, fun _ => trivial⟩, fun _ => ⟨fun _ => ⟨⟨vpi_of h0 (by omega), trivial⟩, fun _ => trivial, fun _ => trivial⟩, fun _ => ⟨fun _ => trivial, fun q => ⟨vg q, trivial⟩⟩⟩⟩⟩⟩⟩, ?_⟩
  rw [if_neg gn, if_neg gn, e_offer hL hI h0 h1, e_mayAhead hL hI h0 h1, e_mayGiveUp hL hI h0 h1, rS0 hL, rI3 hL h0 (by omega)]
  have ea : r_X0_ageOf (K 0) i = K 0 16 2 - K 0 10 i.toNatClampNeg := by unfold r_X0_ageOf; rw [if_neg gn]
  rw [ea]
  rcases in_cases w 0 6 with c | c
  · rw [if_pos c.1]
    have m : ∀ k : Nat, k ≤ 6 → ¬ (w = Int32.ofNat k) := fun k hk e => c.2 (by rw [e, z0, z6, an_toInt (by omega)]; omega)
    rw [if_neg (show ¬ (w = 0) from m 0 (by decide)), if_neg (show ¬ (w = 1) from m 1 (by decide)), if_neg (show ¬ (w = 2) from m 2 (by decide)), if_neg (show ¬ (w = 3) from m 3 (by decide)), if_neg (show ¬ (w = 4) from m 4 (by decide)), if_neg (show ¬ (w = 5) from m 5 (by decide)), if_neg (show ¬ (w = 6) from m 6 (by decide))]
  · have cn : ¬ (r_X8_in w 0 6 = 0) := by rw [c.1]; exact one_ne
    rw [if_neg cn, rIg hL h0 (by omega) (by omega) (by omega)]
    have z1 : (1 : Int32).toInt = 1 := rfl
    have z2 : (2 : Int32).toInt = 2 := rfl
    have z3 : (3 : Int32).toInt = 3 := rfl
    have z4 : (4 : Int32).toInt = 4 := rfl
    have z5 : (5 : Int32).toInt = 5 := rfl
    have w7 : w = 0 ∨ w = 1 ∨ w = 2 ∨ w = 3 ∨ w = 4 ∨ w = 5 ∨ w = 6 := by
      rw [i_eq, i_eq, i_eq, i_eq, i_eq, i_eq, i_eq]; omega
    rcases w7 with e | e | e | e | e | e | e <;> subst e <;> rfl
theorem Q_rateIn {n : Nat} {K : Nat → jB} {M : jB} (h : Rel n K M) (hN : n ≤ 1000) (i d : Int32) : n_X7_rateIn K i d ∧ n_X8_rateIn M i d ∧ r_X7_rateIn K i d = r_X8_rateIn M i d := by
  have hL := R_L h
  have hI := R_I h
  have hs := Inv_s hI
  have z0 : (0 : Int32).toInt = 0 := rfl
  have z1000 : (1000 : Int32).toInt = 1000 := rfl
  refine ⟨⟨fun _ => trivial, fun _ => ⟨fun _ => ⟨n_rateAfter hI hN i d, trivial⟩, fun _ => trivial⟩⟩, ?_⟩
  unfold n_X8_rateIn r_X7_rateIn r_X8_rateIn
  rw [e_isInvoice hL hI]
  rcases has3_cases hI i with g | ⟨g, h0, h1⟩
  · rw [if_pos g.1]
    refine ⟨⟨fun _ => trivial, fun q => absurd g.1 q⟩, ?_⟩
    have : r_X0_rateAfter (K 0) i d = r_X7_noNumber := by unfold r_X0_rateAfter; rw [if_pos g.1]
    rw [this]
    split
    · rfl
    · split <;> rfl
  have gn : ¬ (r_X3_has (K 0) i = 0) := by rw [g]; exact one_ne
  rw [if_neg gn]
  refine ⟨⟨fun q => absurd q gn, fun _ => ⟨fun _ => trivial, fun _ => ⟨n_rateBehind hL hI hN h0 h1 d, trivial⟩⟩⟩, ?_⟩
  rw [e_rateBehind hL hI h0 h1]
  rcases in_cases d 0 1000 with b | b
  · rw [if_pos b.1]
    by_cases a : d < 0
    · rw [if_pos a]; rfl
    · rw [if_neg a, if_neg (show ¬ (d ≤ 1000) by rw [i_lt] at a; rw [i_le]; omega)]; rfl
  · rw [if_neg (show ¬ (r_X8_in d 0 1000 = 0) by rw [b.1]; exact one_ne), if_neg (show ¬ (d < 0) by rw [i_lt]; omega), if_pos (show d ≤ 1000 by rw [i_le]; omega)]
theorem Q_worth {n : Nat} {K : Nat → jB} {M : jB} (h : Rel n K M) (hN : n ≤ 1000) (i : Int32) : n_X7_worth K i ∧ n_X8_worth M i ∧ r_X7_worth K i = r_X8_worth M i := by
  have hL := R_L h
  have hI := R_I h
  unfold n_X8_worth r_X7_worth r_X8_worth
  rw [e_isInvoice hL hI]
  refine ⟨⟨n_worth hI hN i, trivial⟩, ?_⟩
  rcases has3_cases hI i with g | ⟨g, h0, h1⟩
  · rw [if_pos g.1]
    refine ⟨⟨fun _ => trivial, fun q => absurd g.1 q⟩, ?_⟩
    unfold r_X0_worthOf; rw [if_pos g.1]; rfl
  have gn : ¬ (r_X3_has (K 0) i = 0) := by rw [g]; exact one_ne
  rw [if_neg gn]
  exact ⟨⟨fun q => absurd q gn, fun _ => ⟨n_worth8 hL hI hN h0 h1, trivial⟩⟩, (e_worthOf hL hI h0 h1).symm⟩
theorem wless {n : Nat} {K : Nat → jB} {M : jB} (h : Rel n K M) (hN : n ≤ 1000) {i : Int32} (h0 : 0 ≤ i.toInt) (h1 : i.toInt < (K 0 16 1).toInt) : ∀ (f : Nat) (x : Int32), NL_X7_worthlessIn_18 K i f x ∧ NL_X8_worthlessIn_12 M i f x ∧ L_X7_worthlessIn_18 K i f x = L_X8_worthlessIn_12 M i f x
  | 0, x => ⟨trivial, trivial, rfl⟩
  | f + 1, x => by
    have ih := wless h hN h0 h1 f (x + 1)
    have eo := e_offer (R_L h) (R_I h) h0 h1 x
    rw [NL_X7_worthlessIn_18, NL_X8_worthlessIn_12, L_X7_worthlessIn_18, L_X8_worthlessIn_12, eo, ih.2.2]
    exact ⟨⟨fun _ => trivial, fun _ => ⟨n_offer (R_I h) hN i x, fun _ => trivial, fun _ => ih.1⟩⟩, ⟨fun _ => trivial, fun _ => ⟨n_offer8 (R_L h) (R_I h) hN h0 h1 x, fun _ => trivial, fun _ => ih.2.1⟩⟩, rfl⟩
theorem Q_worthlessIn {n : Nat} {K : Nat → jB} {M : jB} (h : Rel n K M) (hN : n ≤ 1000) (i : Int32) : n_X7_worthlessIn K i ∧ n_X8_worthlessIn M i ∧ r_X7_worthlessIn K i = r_X8_worthlessIn M i := by
  have hL := R_L h
  have hI := R_I h
  unfold n_X8_worthlessIn r_X7_worthlessIn r_X8_worthlessIn n_X7_worthlessIn
  rw [e_isInvoice hL hI]
  rcases has3_cases hI i with g | ⟨g, h0, h1⟩
  · rw [if_pos g.1, if_pos g.1]
    exact ⟨⟨fun _ => trivial, fun q => absurd g.1 q⟩, ⟨fun _ => trivial, fun q => absurd g.1 q⟩, rfl⟩
  have gn : ¬ (r_X3_has (K 0) i = 0) := by rw [g]; exact one_ne
  rw [if_neg gn, if_neg gn]
  have w := wless h hN h0 h1 1002 0
  exact ⟨⟨fun q => absurd q gn, fun _ => w.1⟩, ⟨fun q => absurd q gn, fun _ => w.2.1⟩, w.2.2⟩
theorem NL_exp {n : Nat} {M B : jB} (h : LB (M 0) B) (I : Inv n B) : ∀ (f : Nat) (a x : Int32), NL_X8_exposure_4 M f a x
  | 0, _, _ => trivial
  | f + 1, a, x => by
    rw [NL_X8_exposure_4]
    exact ⟨fun _ => ⟨n_allDues8 h I, fun _ => trivial, fun q => ⟨n_allDues8 h I, div_n32 q, trivial⟩⟩, fun _ => ⟨fun _ => NL_exp h I f _ _, fun _ => NL_exp h I f _ _⟩⟩
theorem Q_exposure {n : Nat} {K : Nat → jB} {M : jB} (h : Rel n K M) : n_X7_exposure K ∧ n_X8_exposure M ∧ r_X7_exposure K = r_X8_exposure M := by
  have hL := R_L h
  have hI := R_I h
  have hs := Inv_s hI
  rw [e_exposure hL hI]
  exact ⟨⟨fun _ => trivial, fun q => ⟨div_n32 q, trivial⟩⟩, ⟨by rw [rN9 hL, i_le]; exact hs.2, NL_exp hL hI _ _ _⟩, rfl⟩
theorem Q_count {n : Nat} {K : Nat → jB} {M : jB} (h : Rel n K M) (w : Int32) : n_X8_count M w ∧ r_X7_count K w = r_X8_count M w := by
  have hL := R_L h
  have hI := R_I h
  obtain ⟨kn, nx, hk, hn, h3, h2, hM, hb⟩ := R_H h
  have hT := R_T h
  have lt : (-1 : Int32) < 0 := by decide
  have vv : ∀ v : Int32, (v = 10 ∨ v = 11 ∨ v = 12 ∨ v = 13) → vp_in ((10 + v) - 10) 204 := by
    intro v hv
    rcases hv with e | e | e | e <;> subst e <;> exact vpi_of (by decide) (by decide)
  refine ⟨⟨fun _ => trivial, fun _ => ⟨fun _ => trivial, fun _ => ⟨fun _ => ⟨n_allDues8 hL hI, trivial⟩, fun _ => ⟨fun _ => ⟨⟨n_allDues8 hL hI, trivial⟩, trivial⟩, fun _ => ⟨fun _ => trivial, fun _ => ⟨fun _ => trivial, fun _ => ⟨fun _ => ⟨n_inv8 hL hI _ _ _ _ (Or.inl lt), trivial⟩, fun _ => ⟨fun _ => ⟨n_inv8 hL hI _ _ _ _ (Or.inl lt), trivial⟩, fun _ => ⟨fun _ => ⟨n_inv8 hL hI _ _ _ _ (Or.inl lt), trivial⟩, fun _ => ⟨fun _ => ⟨n_inv8 hL hI _ _ _ _ (Or.inl lt), trivial⟩, fun _ => ⟨fun e => ⟨vv w (Or.inl e), trivial⟩, fun _ => ⟨fun e => ⟨vv w (Or.inr (Or.inl e)), trivial⟩, fun _ => ⟨fun e => ⟨vv w (Or.inr (Or.inr (Or.inl e))), trivial⟩, fun _ => ⟨fun e => ⟨vv w (Or.inr (Or.inr (Or.inr e))), trivial⟩, fun _ => ⟨fun _ => trivial, fun _ => ⟨fun _ => trivial, fun _ => trivial⟩⟩⟩⟩⟩⟩⟩⟩⟩⟩⟩⟩⟩⟩⟩⟩, ?_⟩
  unfold r_X7_count r_X8_count
  rw [rS0 hL, rS1 hL, e_allDues hL hI, e_reserve hL hI, rS8 hL, rS9 hL, hM, hT.1, e_countOfState hL hI]
  by_cases e : w = 0
  · rw [if_pos e, if_pos e]
  rw [if_neg e, if_neg e]; clear e
  by_cases e : w = 1
  · rw [if_pos e, if_pos e]
  rw [if_neg e, if_neg e]; clear e
  by_cases e : w = 2
  · rw [if_pos e, if_pos e]
  rw [if_neg e, if_neg e]; clear e
  by_cases e : w = 3
  · rw [if_pos e, if_pos e]
  rw [if_neg e, if_neg e]; clear e
  by_cases e : w = 4
  · rw [if_pos e, if_pos e]
  rw [if_neg e, if_neg e]; clear e
  by_cases e : w = 5
  · rw [if_pos e, if_pos e]
  rw [if_neg e, if_neg e]; clear e
  by_cases e : w = 6
  · rw [if_pos e, if_pos e, e]; rfl
  rw [if_neg e, if_neg e]; clear e
  by_cases e : w = 7
  · rw [if_pos e, if_pos e, e]; rfl
  rw [if_neg e, if_neg e]; clear e
  by_cases e : w = 8
  · rw [if_pos e, if_pos e, e]; rfl
  rw [if_neg e, if_neg e]; clear e
  by_cases e : w = 9
  · rw [if_pos e, if_pos e, e]; rfl
  rw [if_neg e, if_neg e]; clear e
  by_cases e : w = 10
  · rw [if_pos e, if_pos e, e]; exact (rN10 hL).symm
  rw [if_neg e, if_neg e]; clear e
  by_cases e : w = 11
  · rw [if_pos e, if_pos e, e]; exact (rN11 hL).symm
  rw [if_neg e, if_neg e]; clear e
  by_cases e : w = 12
  · rw [if_pos e, if_pos e, e]; exact (rN12 hL).symm
  rw [if_neg e, if_neg e]; clear e
  by_cases e : w = 13
  · rw [if_pos e, if_pos e, e]; exact (rN13 hL).symm
  rw [if_neg e, if_neg e]
