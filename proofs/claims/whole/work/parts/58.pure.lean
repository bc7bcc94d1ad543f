theorem e_riskOf {M B : jB} (h : LB (M 0) B) {c : Int32} (h0 : 0 ≤ c.toInt) (h1 : c.toInt < 6) : r_X8_riskOf M c = r_X1_riskOf B c := by
  unfold r_X8_riskOf r_X1_riskOf
  rw [if_neg (show ¬ (r_X1_has B c = 0) by rw [has1_1 B h0 h1]; exact one_ne), rC0 h h0 h1, rC1 h h0 h1]
theorem risk_of {n : Nat} {B : jB} (I : Inv n B) (hN : n ≤ 1000) {c : Int32} (h0 : 0 ≤ c.toInt) (h1 : c.toInt < 6) : unitF 161 (r_X1_riskOf B c) := by
  have hc := Inv_c I (nat_lt (n := 6) h0 h1)
  unfold r_X1_riskOf
  rw [if_neg (show ¬ (r_X1_has B c = 0) by rw [has1_1 B h0 h1]; exact one_ne)]
  exact risk_unit hc.1.1 (by omega) hc.2.1 (by omega)
theorem n_risk1 {n : Nat} {B : jB} (I : Inv n B) (hN : n ≤ 1000) (c : Int32) : n_X1_riskOf B c := by
  refine ⟨fun _ => trivial, fun q => ⟨?_, trivial⟩⟩
  rcases has1_cases B c with g | g
  · exact absurd g.1 q
  · have := risk_of I hN g.2.1 g.2.2
    unfold r_X1_riskOf at this
    rw [if_neg q] at this
    exact mg_n32 this.1 (by decide)
theorem n_risk8 {n : Nat} {M B : jB} (h : LB (M 0) B) (I : Inv n B) (hN : n ≤ 1000) {c : Int32} (h0 : 0 ≤ c.toInt) (h1 : c.toInt < 6) : n_X8_riskOf M c := by
  refine ⟨vpi_of h0 h1, ?_, trivial⟩
  have := risk_of I hN h0 h1
  rw [← e_riskOf h h0 h1] at this
  exact mg_n32 this.1 (by decide)
theorem tnw (w : Nat) (hw : w < 3) : ((2 : Int32) + Int32.ofNat w).toNatClampNeg = 2 + w := by
  match w, hw with
  | 0, _ => rfl
  | 1, _ => rfl
  | 2, _ => rfl
theorem rate_b0 {n : Nat} {B : jB} (I : Inv n B) : 0 ≤ (B 15 0).toInt ∧ (B 15 0).toInt ≤ 1065353216 := by have := Inv_r I; omega
theorem rate_b1 {n : Nat} {B : jB} (I : Inv n B) : 0 ≤ (B 15 1).toInt ∧ (B 15 1).toInt ≤ 1065353216 := by have := Inv_r I; omega
theorem rate_b2 {n : Nat} {B : jB} (I : Inv n B) : 0 ≤ (B 15 2).toInt ∧ (B 15 2).toInt ≤ 1065353216 := by have := Inv_r I; omega
theorem e_rate0 {n : Nat} {M B : jB} (h : LB (M 0) B) (I : Inv n B) : r_X8_rateOf M 0 = (B 15 0).toUInt32 ∧ n_X8_rateOf M 0 := by
  have hb := rate_b0 I
  have e : M 0 ((2 : Int32) + 0).toNatClampNeg = B 15 0 := h 2 (by decide)
  have f := e_ofBits8 hb.1 (by omega)
  unfold r_X8_rateOf n_X8_rateOf
  rw [e]
  exact ⟨f.1, vpi_of (by decide) (by decide), f.2, trivial⟩
theorem e_rate1 {n : Nat} {M B : jB} (h : LB (M 0) B) (I : Inv n B) : r_X8_rateOf M 1 = (B 15 1).toUInt32 ∧ n_X8_rateOf M 1 := by
  have hb := rate_b1 I
  have e : M 0 ((2 : Int32) + 1).toNatClampNeg = B 15 1 := h 3 (by decide)
  have f := e_ofBits8 hb.1 (by omega)
  unfold r_X8_rateOf n_X8_rateOf
  rw [e]
  exact ⟨f.1, vpi_of (by decide) (by decide), f.2, trivial⟩
theorem e_rate2 {n : Nat} {M B : jB} (h : LB (M 0) B) (I : Inv n B) : r_X8_rateOf M 2 = (B 15 2).toUInt32 ∧ n_X8_rateOf M 2 := by
  have hb := rate_b2 I
  have e : M 0 ((2 : Int32) + 2).toNatClampNeg = B 15 2 := h 4 (by decide)
  have f := e_ofBits8 hb.1 (by omega)
  unfold r_X8_rateOf n_X8_rateOf
  rw [e]
  exact ⟨f.1, vpi_of (by decide) (by decide), f.2, trivial⟩
theorem cl_of {n : Nat} {B : jB} (I : Inv n B) {i : Int32} (h0 : 0 ≤ i.toInt) (h1 : i.toInt < (B 16 1).toInt) : 0 ≤ (B 8 i.toNatClampNeg).toInt ∧ (B 8 i.toNatClampNeg).toInt < 6 := by
  have := (Inv_i I (nat_lt_i h0 h1)).2.1
  omega
theorem mem_of {n : Nat} {B : jB} (I : Inv n B) {i : Int32} (h0 : 0 ≤ i.toInt) (h1 : i.toInt < (B 16 1).toInt) : 0 ≤ (B 7 i.toNatClampNeg).toInt ∧ (B 7 i.toNatClampNeg).toInt < (B 16 0).toInt := (Inv_i I (nat_lt_i h0 h1)).1
theorem am_of {n : Nat} {B : jB} (I : Inv n B) {i : Int32} (h0 : 0 ≤ i.toInt) (h1 : i.toInt < (B 16 1).toInt) : 100 ≤ (B 9 i.toNatClampNeg).toInt ∧ (B 9 i.toNatClampNeg).toInt ≤ 1000000 := (Inv_i I (nat_lt_i h0 h1)).2.2.1
theorem paid_of {n : Nat} {B : jB} (I : Inv n B) {i : Int32} (h0 : 0 ≤ i.toInt) (h1 : i.toInt < (B 16 1).toInt) : 0 ≤ (B 12 i.toNatClampNeg).toInt ∧ (B 12 i.toNatClampNeg).toInt ≤ (B 9 i.toNatClampNeg).toInt := (Inv_i I (nat_lt_i h0 h1)).2.2.2.2.1
theorem adv_of {n : Nat} {B : jB} (I : Inv n B) {i : Int32} (h0 : 0 ≤ i.toInt) (h1 : i.toInt < (B 16 1).toInt) : 0 ≤ (B 13 i.toNatClampNeg).toInt ∧ (B 13 i.toNatClampNeg).toInt ≤ (B 9 i.toNatClampNeg).toInt := (Inv_i I (nat_lt_i h0 h1)).2.2.2.2.2
theorem e_rateBehind {n : Nat} {M B : jB} (h : LB (M 0) B) (I : Inv n B) {i : Int32} (h0 : 0 ≤ i.toInt) (h1 : i.toInt < (B 16 1).toInt) (d : Int32) : r_X8_rateBehind M i d = r_X0_rateAfter B i d := by
  have hs := Inv_s I
  have hc := cl_of I h0 h1
  unfold r_X8_rateBehind r_X0_rateAfter
  rw [if_neg (show ¬ (r_X3_has B i = 0) by rw [has3_1 I h0 h1]; exact one_ne), (e_rate0 h I).1, (e_rate1 h I).1, e_late h I h0 h1, rI1 h h0 (by omega), e_riskOf h hc.1 hc.2]
  rfl
theorem rate_unit {n : Nat} {B : jB} (I : Inv n B) (hN : n ≤ 1000) {i : Int32} (h0 : 0 ≤ i.toInt) (h1 : i.toInt < (B 16 1).toInt) (d : Int32) : unitF 201 (r_X0_rateAfter B i d) ∧ n_X0_rateAfter B i d := by
  have hc := cl_of I h0 h1
  have hr := risk_of I hN hc.1 hc.2
  have hg := one_sub hr (by decide) (by decide)
  have hh := held_unit (rate_b0 I).1 (rate_b0 I).2 (rate_b1 I).1 (rate_b1 I).2 (late_pos (B := B) (i := i) d)
  have hq : ¬ (r_X3_has B i = 0) := by rw [has3_1 I h0 h1]; exact one_ne
  unfold r_X0_rateAfter n_X0_rateAfter
  rw [if_neg hq, show (B 15 (0 : Int32).toNatClampNeg) = B 15 0 from rfl, show (B 15 (1 : Int32).toNatClampNeg) = B 15 1 from rfl]
  refine ⟨?_, fun q => absurd q hq, fun _ => ⟨mg_n32 hh.1 (by decide), mg_n32 hh.2.1 (by decide), fun _ => ⟨n_risk1 I hN _, mg_n32 hg.1 (by decide), mg_n32 (mul_unit zero_unit hg (by decide) (by decide) (K := 201) (by decide)).1 (by decide), trivial⟩, fun q => ⟨n_risk1 I hN _, mg_n32 hg.1 (by decide), mg_n32 (mul_unit (hh.2.2 q) hg (by decide) (by decide) (K := 201) (by decide)).1 (by decide), trivial⟩⟩⟩
  split
  · exact mul_unit zero_unit hg (by decide) (by decide) (by decide)
  · rename_i q
    exact mul_unit (hh.2.2 q) hg (by decide) (by decide) (by decide)
theorem n_late8 (M : jB) {i : Int32} (h0 : 0 ≤ i.toInt) (h1 : i.toInt < 20) (d : Int32) : n_X8_late M i d := ⟨vpi_of h0 h1, trivial⟩
theorem n_rateBehind {n : Nat} {M B : jB} (h : LB (M 0) B) (I : Inv n B) (hN : n ≤ 1000) {i : Int32} (h0 : 0 ≤ i.toInt) (h1 : i.toInt < (B 16 1).toInt) (d : Int32) : n_X8_rateBehind M i d := by
  have hs := Inv_s I
  have hc := cl_of I h0 h1
  have hr := risk_of I hN hc.1 hc.2
  have hg := one_sub hr (by decide) (by decide)
  have hh := held_unit (rate_b0 I).1 (rate_b0 I).2 (rate_b1 I).1 (rate_b1 I).2 (late_pos (B := B) (i := i) d)
  unfold n_X8_rateBehind
  rw [(e_rate0 h I).1, (e_rate1 h I).1, e_late h I h0 h1, rI1 h h0 (by omega), e_riskOf h hc.1 hc.2]
  exact ⟨vpi_of h0 (by omega), (e_rate0 h I).2, (e_rate1 h I).2, n_late8 M h0 (by omega) d, mg_n32 hh.1 (by decide), mg_n32 hh.2.1 (by decide), fun _ => ⟨n_risk8 h I hN hc.1 hc.2, mg_n32 hg.1 (by decide), mg_n32 (mul_unit zero_unit hg (by decide) (by decide) (K := 201) (by decide)).1 (by decide), trivial⟩, fun q => ⟨n_risk8 h I hN hc.1 hc.2, mg_n32 hg.1 (by decide), mg_n32 (mul_unit (hh.2.2 q) hg (by decide) (by decide) (K := 201) (by decide)).1 (by decide), trivial⟩⟩
theorem e_offer {n : Nat} {M B : jB} (h : LB (M 0) B) (I : Inv n B) {i : Int32} (h0 : 0 ≤ i.toInt) (h1 : i.toInt < (B 16 1).toInt) (d : Int32) : r_X8_offerBehind M i d = r_X0_offerAfter B i d := by
  have hs := Inv_s I
  unfold r_X8_offerBehind r_X0_offerAfter
  rw [if_neg (show ¬ (r_X3_has B i = 0) by rw [has3_1 I h0 h1]; exact one_ne), rI2 h h0 (by omega), e_rateBehind h I h0 h1]
theorem offer_cut {n : Nat} {B : jB} (I : Inv n B) (hN : n ≤ 1000) {i : Int32} (h0 : 0 ≤ i.toInt) (h1 : i.toInt < (B 16 1).toInt) (d : Int32) : mg 235 (FP.fmul (FP.i2f (B 9 i.toNatClampNeg)) (r_X0_rateAfter B i d)) ∧ 0 ≤ (r_X0_offerAfter B i d).toInt ∧ (r_X0_offerAfter B i d).toInt ≤ (B 9 i.toNatClampNeg).toInt := by
  have ha := am_of I h0 h1
  unfold r_X0_offerAfter
  rw [if_neg (show ¬ (r_X3_has B i = 0) by rw [has3_1 I h0 h1]; exact one_ne)]
  exact cut_of (rate_unit I hN h0 h1 d).1 (by decide) (by omega) (by omega)
theorem n_offer {n : Nat} {B : jB} (I : Inv n B) (hN : n ≤ 1000) (i d : Int32) : n_X0_offerAfter B i d := by
  refine ⟨fun _ => trivial, fun q => ?_⟩
  rcases has3_cases I i with g | g
  · exact absurd g.1 q
  · exact ⟨(rate_unit I hN g.2.1 g.2.2 d).2, mg_n32 (offer_cut I hN g.2.1 g.2.2 d).1 (by decide), trivial⟩
theorem n_rateAfter {n : Nat} {B : jB} (I : Inv n B) (hN : n ≤ 1000) (i d : Int32) : n_X0_rateAfter B i d := by
  rcases has3_cases I i with g | g
  · exact ⟨fun _ => trivial, fun q => absurd g.1 q⟩
  · exact (rate_unit I hN g.2.1 g.2.2 d).2
theorem n_offer8 {n : Nat} {M B : jB} (h : LB (M 0) B) (I : Inv n B) (hN : n ≤ 1000) {i : Int32} (h0 : 0 ≤ i.toInt) (h1 : i.toInt < (B 16 1).toInt) (d : Int32) : n_X8_offerBehind M i d := by
  have hs := Inv_s I
  unfold n_X8_offerBehind
  rw [rI2 h h0 (by omega), e_rateBehind h I h0 h1]
  exact ⟨vpi_of h0 (by omega), n_rateBehind h I hN h0 h1 d, mg_n32 (offer_cut I hN h0 h1 d).1 (by decide), trivial⟩
theorem e_worthOf {n : Nat} {M B : jB} (h : LB (M 0) B) (I : Inv n B) {i : Int32} (h0 : 0 ≤ i.toInt) (h1 : i.toInt < (B 16 1).toInt) : r_X8_worthOf M i = r_X0_worthOf B i := by
  have hs := Inv_s I
  have hc := cl_of I h0 h1
  unfold r_X8_worthOf r_X0_worthOf
  rw [if_neg (show ¬ (r_X3_has B i = 0) by rw [has3_1 I h0 h1]; exact one_ne), rI2 h h0 (by omega), e_offer h I h0 h1, rI1 h h0 (by omega), e_riskOf h hc.1 hc.2]
theorem worth_mg {n : Nat} {B : jB} (I : Inv n B) (hN : n ≤ 1000) {i : Int32} (h0 : 0 ≤ i.toInt) (h1 : i.toInt < (B 16 1).toInt) :
    mg 163 (FP.fsub 0x3f800000 (r_X1_riskOf B (B 8 i.toNatClampNeg))) ∧ mg 200 (FP.fmul (FP.i2f (B 9 i.toNatClampNeg - r_X0_offerAfter B i 0)) (FP.fsub 0x3f800000 (r_X1_riskOf B (B 8 i.toNatClampNeg)))) ∧ mg 200 (FP.fmul (FP.i2f (r_X0_offerAfter B i 0)) (r_X1_riskOf B (B 8 i.toNatClampNeg))) ∧ mg 202 (FP.fsub (FP.fmul (FP.i2f (B 9 i.toNatClampNeg - r_X0_offerAfter B i 0)) (FP.fsub 0x3f800000 (r_X1_riskOf B (B 8 i.toNatClampNeg)))) (FP.fmul (FP.i2f (r_X0_offerAfter B i 0)) (r_X1_riskOf B (B 8 i.toNatClampNeg)))) := by
  have hc := cl_of I h0 h1
  have hr := risk_of I hN hc.1 hc.2
  have hg := one_sub hr (by decide) (by decide)
  have a := mg_mul (K := 200) (mg_i2f (B 9 i.toNatClampNeg - r_X0_offerAfter B i 0)) hg.1 (by decide) (by decide) (by decide)
  have b := mg_mul (K := 200) (mg_i2f (r_X0_offerAfter B i 0)) hr.1 (by decide) (by decide) (by decide)
  exact ⟨hg.1, a, b, mg_sub a b (by decide) (by decide)⟩
theorem worth_fin {n : Nat} {B : jB} (I : Inv n B) (hN : n ≤ 1000) {i : Int32} (h0 : 0 ≤ i.toInt) (h1 : i.toInt < (B 16 1).toInt) : mg 202 (r_X0_worthOf B i) := by
  unfold r_X0_worthOf
  rw [if_neg (show ¬ (r_X3_has B i = 0) by rw [has3_1 I h0 h1]; exact one_ne)]
  exact (worth_mg I hN h0 h1).2.2.2
theorem n_worth {n : Nat} {B : jB} (I : Inv n B) (hN : n ≤ 1000) (i : Int32) : n_X0_worthOf B i := by
  refine ⟨fun _ => trivial, fun q => ?_⟩
  rcases has3_cases I i with g | g
  · exact absurd g.1 q
  · have w := worth_mg I hN g.2.1 g.2.2
    exact ⟨n_offer I hN i 0, n_risk1 I hN _, mg_n32 w.1 (by decide), mg_n32 w.2.1 (by decide), mg_n32 w.2.2.1 (by decide), mg_n32 w.2.2.2 (by decide), trivial⟩
theorem n_worth8 {n : Nat} {M B : jB} (h : LB (M 0) B) (I : Inv n B) (hN : n ≤ 1000) {i : Int32} (h0 : 0 ≤ i.toInt) (h1 : i.toInt < (B 16 1).toInt) : n_X8_worthOf M i := by
  have hs := Inv_s I
  have hc := cl_of I h0 h1
  have w := worth_mg I hN h0 h1
  unfold n_X8_worthOf
  rw [rI2 h h0 (by omega), e_offer h I h0 h1, rI1 h h0 (by omega), e_riskOf h hc.1 hc.2]
  exact ⟨vpi_of h0 (by omega), n_risk8 h I hN hc.1 hc.2, n_offer8 h I hN h0 h1 0, mg_n32 w.1 (by decide), mg_n32 w.2.1 (by decide), mg_n32 w.2.2.1 (by decide), mg_n32 w.2.2.2 (by decide), trivial⟩
theorem e_mayAhead {n : Nat} {M B : jB} (h : LB (M 0) B) (I : Inv n B) {i : Int32} (h0 : 0 ≤ i.toInt) (h1 : i.toInt < (B 16 1).toInt) : r_X8_mayAhead M i = r_X0_canPayAhead B i := by
  have hs := Inv_s I
  have hq : ¬ (r_X3_has B i = 0) := by rw [has3_1 I h0 h1]; exact one_ne
  unfold r_X8_mayAhead r_X0_canPayAhead r_X0_ageOf
  rw [if_neg hq, if_neg hq, rI4 h h0 (by omega), rI5 h h0 (by omega), rI3 h h0 (by omega), rS0 h, rS5 h, rS1 h, e_offer h I h0 h1, e_reserve h I, tn0]
  by_cases a : B 14 0 ≤ B 16 2 - B 10 i.toNatClampNeg
  · rw [if_pos a, if_neg (show ¬ (B 16 2 - B 10 i.toNatClampNeg < B 14 0) by rw [i_le] at a; rw [i_lt]; omega)]
  · rw [if_neg a, if_pos (show (B 16 2 - B 10 i.toNatClampNeg < B 14 0) by rw [i_le] at a; rw [i_lt]; omega)]
theorem n_canPayAhead {n : Nat} {B : jB} (I : Inv n B) (hN : n ≤ 1000) (i : Int32) : n_X0_canPayAhead B i :=
  ⟨fun _ => trivial, fun _ => ⟨fun _ => ⟨fun _ => ⟨fun _ => ⟨n_offer I hN i 0, fun _ => trivial, fun _ => ⟨fun _ => trivial, fun _ => trivial⟩⟩, fun _ => trivial⟩, fun _ => trivial⟩, fun _ => trivial⟩⟩
theorem n_allDues8 {n : Nat} {M B : jB} (h : LB (M 0) B) (I : Inv n B) : n_X8_allDues M := by
  have := Inv_m I
  refine ⟨?_, trivial⟩
  rw [rN8 h, i_le]
  exact this.2
theorem n_mayAhead {n : Nat} {M B : jB} (h : LB (M 0) B) (I : Inv n B) (hN : n ≤ 1000) {i : Int32} (h0 : 0 ≤ i.toInt) (h1 : i.toInt < (B 16 1).toInt) : n_X8_mayAhead M i := by
  have hs := Inv_s I
  exact ⟨vpi_of h0 (by omega), n_offer8 h I hN h0 h1 0, fun _ => ⟨fun _ => ⟨fun _ => trivial, fun _ => ⟨fun _ => trivial, fun _ => ⟨⟨n_allDues8 h I, trivial⟩, fun _ => trivial, fun _ => trivial⟩⟩⟩, fun _ => trivial⟩, fun _ => trivial⟩
