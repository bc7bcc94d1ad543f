def InvG (S L : Int) (B : jB) : Prop :=
  (0 ≤ (B 16 0).toInt ∧ (B 16 0).toInt ≤ 8) ∧ (0 ≤ (B 16 1).toInt ∧ (B 16 1).toInt ≤ 20)
  ∧ (∀ k : Nat, (k : Int) < (B 16 0).toInt → 1 ≤ (B 0 k).toInt ∧ (B 0 k).toInt ≤ 9)
  ∧ (∀ k : Nat, k < 6 → (0 ≤ (B 4 k).toInt ∧ (B 4 k).toInt ≤ S) ∧ (0 ≤ (B 5 k).toInt ∧ (B 5 k).toInt ≤ L))
  ∧ (∀ k : Nat, (k : Int) < (B 16 1).toInt → IInv B k)
  ∧ (1036831949 ≤ (B 15 0).toInt ∧ (B 15 0).toInt ≤ 1065353216) ∧ (0 ≤ (B 15 1).toInt ∧ (B 15 1).toInt ≤ 1028443341) ∧ (0 ≤ (B 15 2).toInt ∧ (B 15 2).toInt ≤ 1056964608)
theorem G_of {n : Nat} {B : jB} (h : Inv n B) : InvG (64 * (n : Int)) n B := h
theorem G_to {n : Nat} {S L : Int} {B : jB} (h : InvG S L B) (hS : S ≤ 64 * (n : Int)) (hL : L ≤ n) : Inv n B := by
  obtain ⟨h1, h2, h3, h4, h5, h6⟩ := h
  refine ⟨h1, h2, h3, fun k hk => ?_, h5, h6⟩
  have := h4 k hk
  omega
theorem G_mono {S L S' L' : Int} {B : jB} (h : InvG S L B) (hS : S ≤ S') (hL : L ≤ L') : InvG S' L' B := by
  obtain ⟨h1, h2, h3, h4, h5, h6⟩ := h
  refine ⟨h1, h2, h3, fun k hk => ?_, h5, h6⟩
  have := h4 k hk
  omega
theorem G_free {S L : Int} {B : jB} (I : InvG S L B) {r k : Nat} (v : Int32) (h : r = 1 ∨ r = 2 ∨ r = 3 ∨ r = 6 ∨ r = 10 ∨ r = 14 ∨ (r = 16 ∧ 2 ≤ k)) : InvG S L (up2 B r k v) := by
  have e : ∀ q, q ≠ r → up2 B r k v q = B q := fun q hq => up2_row_ne hq B k v
  have e1 : up2 B r k v 16 0 = B 16 0 := by rw [up2_at, if_neg (by omega)]
  have e2 : up2 B r k v 16 1 = B 16 1 := by rw [up2_at, if_neg (by omega)]
  unfold InvG IInv at *
  rw [e1, e2, e 0 (by omega), e 4 (by omega), e 5 (by omega), e 7 (by omega), e 8 (by omega), e 9 (by omega), e 11 (by omega), e 12 (by omega), e 13 (by omega), e 15 (by omega)]
  exact I
theorem G_iup {S L : Int} {B : jB} (I : InvG S L B) {r k : Nat} {v : Int32} (hr : 7 ≤ r ∧ r < 14) (hk : (k : Int) < (B 16 1).toInt → IInv (up2 B r k v) k) : InvG S L (up2 B r k v) := by
  have e : ∀ q j, q ≠ r → up2 B r k v q j = B q j := fun q j hq => by rw [up2_at, if_neg (by omega)]
  have e2 : ∀ q j, j ≠ k → up2 B r k v q j = B q j := fun q j hq => by rw [up2_at, if_neg (by omega)]
  obtain ⟨a, b, c, d, f, g⟩ := I
  refine ⟨?_, ?_, ?_, ?_, ?_, ?_⟩
  · rw [e 16 0 (by omega)]; exact a
  · rw [e 16 1 (by omega)]; exact b
  · intro j; rw [e 16 0 (by omega), e 0 j (by omega)]; exact c j
  · intro j hj; rw [e 4 j (by omega), e 5 j (by omega)]; exact d j hj
  · intro j; rw [e 16 1 (by omega)]; intro hj
    by_cases hjk : j = k
    · subst hjk; exact hk hj
    · have := f j hj
      unfold IInv at this ⊢
      rw [e2 7 j hjk, e2 8 j hjk, e2 9 j hjk, e2 11 j hjk, e2 12 j hjk, e2 13 j hjk, e 16 0 (by omega)]
      exact this
  · rw [e 15 0 (by omega), e 15 1 (by omega), e 15 2 (by omega)]; exact g
theorem G_cup {S L : Int} {B : jB} (I : InvG S L B) {k : Nat} {v : Int32} (hv : k < 6 → 0 ≤ v.toInt ∧ v.toInt ≤ S) : InvG S L (up2 B 4 k v) := by
  have e : ∀ q j, q ≠ 4 → up2 B 4 k v q j = B q j := fun q j hq => by rw [up2_at, if_neg (by omega)]
  obtain ⟨a, b, c, d, f, g⟩ := I
  refine ⟨?_, ?_, ?_, ?_, ?_, ?_⟩
  · rw [e 16 0 (by omega)]; exact a
  · rw [e 16 1 (by omega)]; exact b
  · intro j; rw [e 16 0 (by omega), e 0 j (by omega)]; exact c j
  · intro j hj; rw [e 5 j (by omega), up2_at]
    by_cases q : j = k
    · rw [if_pos ⟨rfl, q⟩]; exact ⟨hv (by omega), (d j hj).2⟩
    · rw [if_neg (by omega)]; exact d j hj
  · intro j; rw [e 16 1 (by omega)]; intro hj
    have := f j hj
    unfold IInv at this ⊢
    rw [e 7 j (by omega), e 8 j (by omega), e 9 j (by omega), e 11 j (by omega), e 12 j (by omega), e 13 j (by omega), e 16 0 (by omega)]
    exact this
  · rw [e 15 0 (by omega), e 15 1 (by omega), e 15 2 (by omega)]; exact g
theorem G_lup {S L : Int} {B : jB} (I : InvG S L B) {k : Nat} {v : Int32} (hv : k < 6 → 0 ≤ v.toInt ∧ v.toInt ≤ L) : InvG S L (up2 B 5 k v) := by
  have e : ∀ q j, q ≠ 5 → up2 B 5 k v q j = B q j := fun q j hq => by rw [up2_at, if_neg (by omega)]
  obtain ⟨a, b, c, d, f, g⟩ := I
  refine ⟨?_, ?_, ?_, ?_, ?_, ?_⟩
  · rw [e 16 0 (by omega)]; exact a
  · rw [e 16 1 (by omega)]; exact b
  · intro j; rw [e 16 0 (by omega), e 0 j (by omega)]; exact c j
  · intro j hj; rw [e 4 j (by omega), up2_at]
    by_cases q : j = k
    · rw [if_pos ⟨rfl, q⟩]; exact ⟨(d j hj).1, hv (by omega)⟩
    · rw [if_neg (by omega)]; exact d j hj
  · intro j; rw [e 16 1 (by omega)]; intro hj
    have := f j hj
    unfold IInv at this ⊢
    rw [e 7 j (by omega), e 8 j (by omega), e 9 j (by omega), e 11 j (by omega), e 12 j (by omega), e 13 j (by omega), e 16 0 (by omega)]
    exact this
  · rw [e 15 0 (by omega), e 15 1 (by omega), e 15 2 (by omega)]; exact g
theorem has3_sz {B B' : jB} (h : B' 16 1 = B 16 1) (i : Int32) : r_X3_has B' i = r_X3_has B i := by unfold r_X3_has; rw [h]
theorem has4_sz {B B' : jB} (h : B' 16 0 = B 16 0) (i : Int32) : r_X4_has B' i = r_X4_has B i := by unfold r_X4_has; rw [h]
theorem has1_sz (B B' : jB) (i : Int32) : r_X1_has B' i = r_X1_has B i := rfl
def lt0 (B : jB) (i d : Int32) : Int32 := if 0 ≤ (B 16 2 + d) - B 10 i.toNatClampNeg then (B 16 2 + d) - B 10 i.toNatClampNeg else 0
theorem late8_lt0 {M B : jB} (h : LB (M 0) B) {i : Int32} (h0 : 0 ≤ i.toInt) (h1 : i.toInt < 20) (d : Int32) : r_X8_late M i d = lt0 B i d := by
  unfold r_X8_late lt0
  rw [rS0 h, rI3 h h0 h1]
theorem lateA_lt0 {B : jB} {i : Int32} (hh : r_X3_has B i = 1) (d : Int32) : r_X0_lateAfter B i d = lt0 B i d := by
  unfold r_X0_lateAfter r_X0_ageOf lt0
  rw [if_neg (show ¬ (r_X3_has B i = 0) by rw [hh]; exact one_ne)]
  have e : B 16 2 + d - B 10 i.toNatClampNeg = B 16 2 - B 10 i.toNatClampNeg + d := by grind
  rw [e]
  generalize B 16 2 - B 10 i.toNatClampNeg + d = x
  grind
theorem rate2_of {M B : jB} (h : LB (M 0) B) (hb : 0 ≤ (B 15 2).toInt ∧ (B 15 2).toInt ≤ 1065353216) : r_X8_rateOf M 2 = (B 15 2).toUInt32 ∧ n_X8_rateOf M 2 := by
  have e : M 0 ((2 : Int32) + 2).toNatClampNeg = B 15 2 := h 4 (by decide)
  have f := e_ofBits8 hb.1 (by omega)
  unfold r_X8_rateOf n_X8_rateOf
  rw [e]
  exact ⟨f.1, vpi_of (by decide) (by decide), f.2, trivial⟩
theorem fee_n32 {B : jB} (hb : 0 ≤ (B 15 2).toInt ∧ (B 15 2).toInt ≤ 1065353216) (a : Int32) : vf_n32 (FP.fmul (FP.i2f a) (B 15 2).toUInt32) := mg_n32 (mg_mul (K := 162) (mg_i2f a) (mg_bits hb.1 hb.2) (by decide) (by decide) (by decide)) (by decide)
