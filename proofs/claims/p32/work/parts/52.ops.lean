def psh (K : Nat → jB) (S : jB) (nx : Nat) (a b : Int32) : Nat → jB := up3 (up3 (up1 K (3 + nx) S) 7 5 2 a) 7 5 3 b
theorem up3_same (K : Nat → jB) (b r k : Nat) : up3 K b r k (K b r k) = K := by
  funext b1 r1 k1
  rw [up3_at]
  by_cases e : b1 = b
  · rw [if_pos e, up2_at]
    by_cases f : r1 = r ∧ k1 = k
    · rw [if_pos f, f.1, f.2, e]
    · rw [if_neg f, e]
  · rw [if_neg e]
theorem psh_of {K : Nat → jB} {S : jB} {nx kn : Nat} (hn : nx < 4) (h2 : (K 7 5 2).toInt = nx) (h3 : (K 7 5 3).toInt = kn) (hk : kn ≤ 4) :
    (if (4 : Int32) ≤ (((up1 K (3 + nx) S) 7 5 2) + (1 : Int32)) then (if (4 : Int32) ≤ ((up1 K (3 + nx) S) 7 5 3) then (up3 (up1 K (3 + nx) S) 7 5 2 (0 : Int32)) else (up3 (up3 (up1 K (3 + nx) S) 7 5 2 (0 : Int32)) 7 5 3 (((up1 K (3 + nx) S) 7 5 3) + (1 : Int32)))) else (if (4 : Int32) ≤ ((up1 K (3 + nx) S) 7 5 3) then (up3 (up1 K (3 + nx) S) 7 5 2 (((up1 K (3 + nx) S) 7 5 2) + (1 : Int32))) else (up3 (up3 (up1 K (3 + nx) S) 7 5 2 (((up1 K (3 + nx) S) 7 5 2) + (1 : Int32))) 7 5 3 (((up1 K (3 + nx) S) 7 5 3) + (1 : Int32)))))
    = psh K S nx (if nx = 3 then 0 else K 7 5 2 + 1) (if kn = 4 then K 7 5 3 else K 7 5 3 + 1) := by
  have z4 : (4 : Int32).toInt = 4 := rfl
  have e7 : (up1 K (3 + nx) S) 7 = K 7 := by rw [up1_at, if_neg (by omega)]
  unfold psh
  have hs : ∀ v : Int32, up3 (up3 (up1 K (3 + nx) S) 7 5 2 v) 7 5 3 (K 7 5 3) = up3 (up1 K (3 + nx) S) 7 5 2 v := by
    intro v
    have := up3_same (up3 (up1 K (3 + nx) S) 7 5 2 v) 7 5 3
    have e : (up3 (up1 K (3 + nx) S) 7 5 2 v) 7 5 3 = K 7 5 3 := by
      rw [up3_at, if_pos rfl, up2_at, if_neg (by omega), e7]
    rw [e] at this
    exact this
  rw [e7]
  by_cases a : nx = 3
  · rw [if_pos (show (4 : Int32) ≤ K 7 5 2 + 1 by rw [i_le, ii_succ (by omega)]; omega), if_pos a]
    by_cases b : kn = 4
    · rw [if_pos (show (4 : Int32) ≤ K 7 5 3 by rw [i_le]; omega), if_pos b, hs]
    · rw [if_neg (show ¬ ((4 : Int32) ≤ K 7 5 3) by rw [i_le]; omega), if_neg b]
  · rw [if_neg (show ¬ ((4 : Int32) ≤ K 7 5 2 + 1) by rw [i_le, ii_succ (by omega)]; omega), if_neg a]
    by_cases b : kn = 4
    · rw [if_pos (show (4 : Int32) ≤ K 7 5 3 by rw [i_le]; omega), if_pos b, hs]
    · rw [if_neg (show ¬ ((4 : Int32) ≤ K 7 5 3) by rw [i_le]; omega), if_neg b]
theorem nx_eq {K : Nat → jB} {nx : Nat} (h2 : (K 7 5 2).toInt = nx) (v : Int32) (m : Nat) (hv : v.toInt = m) : K 7 5 2 = v ↔ nx = m := by
  rw [i_eq, h2, hv]; omega
theorem push0_psh {K : Nat → jB} {nx kn : Nat} (hn : nx < 4) (h2 : (K 7 5 2).toInt = nx) (h3 : (K 7 5 3).toInt = kn) (hk : kn ≤ 4) :
    r_X2_push_0 K = psh K (K 0) nx (if nx = 3 then 0 else K 7 5 2 + 1) (if kn = 4 then K 7 5 3 else K 7 5 3 + 1) ∧ n_X2_push_0 K := by
  unfold r_X2_push_0 n_X2_push_0
  have d0 := nx_eq h2 0 0 rfl
  have d1 := nx_eq h2 1 1 rfl
  have d2 := nx_eq h2 2 2 rfl
  have d3 := nx_eq h2 3 3 rfl
  refine ⟨?_, by rw [d0, d1, d2, d3]; omega⟩
  have hp := psh_of (S := K 0) hn h2 h3 hk
  rcases (by omega : nx = 0 ∨ nx = 1 ∨ nx = 2 ∨ nx = 3) with e | e | e | e <;> subst e
  · rw [if_pos (d0.mpr rfl)]; exact hp
  · rw [if_neg (fun q => absurd (d0.mp q) (by decide)), if_pos (d1.mpr rfl)]; exact hp
  · rw [if_neg (fun q => absurd (d0.mp q) (by decide)), if_neg (fun q => absurd (d1.mp q) (by decide)), if_pos (d2.mpr rfl)]; exact hp
  · rw [if_neg (fun q => absurd (d0.mp q) (by decide)), if_neg (fun q => absurd (d1.mp q) (by decide)), if_neg (fun q => absurd (d2.mp q) (by decide))]; exact hp
theorem psh_7 (K : Nat → jB) (S : jB) {nx : Nat} (hn : nx < 4) (a b : Int32) (r k : Nat) (h : ¬ (r = 5 ∧ (k = 2 ∨ k = 3))) : psh K S nx a b 7 r k = K 7 r k := by
  unfold psh
  rw [up3_at, if_pos rfl, up2_at, if_neg (by omega), up3_at, if_pos rfl, up2_at, if_neg (by omega), up1_at, if_neg (by omega)]
theorem psh_72 (K : Nat → jB) (S : jB) {nx : Nat} (hn : nx < 4) (a b : Int32) : psh K S nx a b 7 5 2 = a := by
  unfold psh
  rw [up3_at, if_pos rfl, up2_at, if_neg (by omega), up3_at, if_pos rfl, up2_at, if_pos ⟨rfl, rfl⟩]
theorem psh_73 (K : Nat → jB) (S : jB) {nx : Nat} (hn : nx < 4) (a b : Int32) : psh K S nx a b 7 5 3 = b := by
  unfold psh
  rw [up3_at, if_pos rfl, up2_at, if_pos ⟨rfl, rfl⟩]
theorem psh_b (K : Nat → jB) (S : jB) (nx : Nat) (a b : Int32) {q : Nat} (h : q ≠ 7) : psh K S nx a b q = if q = 3 + nx then S else K q := by
  unfold psh
  rw [up3_at, if_neg h, up3_at, if_neg h, up1_at]
theorem Inv_eq {n : Nat} {B B' : jB} (I : Inv n B) (s0 : B' 16 0 = B 16 0) (s1 : B' 16 1 = B 16 1) (e0 : B' 0 = B 0) (e4 : B' 4 = B 4) (e5 : B' 5 = B 5) (e7 : B' 7 = B 7) (e8 : B' 8 = B 8) (e9 : B' 9 = B 9) (e11 : B' 11 = B 11) (e12 : B' 12 = B 12) (e13 : B' 13 = B 13) (e15 : B' 15 = B 15) : Inv n B' := by
  unfold Inv IInv at *
  rw [s0, s1, e0, e4, e5, e7, e8, e9, e11, e12, e13, e15]
  exact I
theorem Inv_free {n : Nat} {B : jB} (I : Inv n B) {r k : Nat} (v : Int32) (h : r = 1 ∨ r = 2 ∨ r = 3 ∨ r = 6 ∨ r = 10 ∨ r = 14 ∨ (r = 16 ∧ 2 ≤ k)) : Inv n (up2 B r k v) := by
  have e : ∀ q, q ≠ r → up2 B r k v q = B q := fun q hq => up2_row_ne hq B k v
  refine Inv_eq I ?_ ?_ (e _ (by omega)) (e _ (by omega)) (e _ (by omega)) (e _ (by omega)) (e _ (by omega)) (e _ (by omega)) (e _ (by omega)) (e _ (by omega)) (e _ (by omega)) (e _ (by omega))
  · rw [up2_at, if_neg (by omega)]
  · rw [up2_at, if_neg (by omega)]
/-- an invoice's number changes -/
theorem Inv_iup {n : Nat} {B : jB} (I : Inv n B) {r k : Nat} {v : Int32} (hr : 7 ≤ r ∧ r < 14) (hk : (k : Int) < (B 16 1).toInt → IInv (up2 B r k v) k) : Inv n (up2 B r k v) := by
  have e : ∀ q j, q ≠ r → up2 B r k v q j = B q j := fun q j hq => by rw [up2_at, if_neg (by omega)]
  have e2 : ∀ q j, j ≠ k → up2 B r k v q j = B q j := fun q j hq => by rw [up2_at, if_neg (by omega)]
  obtain ⟨a, b, c, d, f, g⟩ := I
  refine ⟨?_, ?_, ?_, ?_, ?_, ?_⟩
  · rw [e 16 0 (by omega)]; exact a
  · rw [e 16 1 (by omega)]; exact b
  · intro j; rw [e 16 0 (by omega), e 0 j (by omega)]; exact c j
  · intro j hj; rw [e 4 j (by omega), e 5 j (by omega)]; exact d j hj
  · intro j; rw [e 16 1 (by omega)]; intro hj
    by_cases hjk : j = k
    · subst hjk; exact hk hj
    · have := f j hj
      unfold IInv at this ⊢
      rw [e2 7 j hjk, e2 8 j hjk, e2 9 j hjk, e2 11 j hjk, e2 12 j hjk, e2 13 j hjk, e 16 0 (by omega)]
      exact this
  · rw [e 15 0 (by omega), e 15 1 (by omega), e 15 2 (by omega)] <;> first | exact g | omega
theorem r15_ne {B : jB} {r k : Nat} {v : Int32} (h : r ≠ 15) (j : Nat) : up2 B r k v 15 j = B 15 j := by rw [up2_at, if_neg (by omega)]
theorem w3 {w : Int32} (h0 : 0 ≤ w.toInt) (h1 : w.toInt ≤ 2) : w = 0 ∨ w = 1 ∨ w = 2 := by
  have z0 : (0 : Int32).toInt = 0 := rfl
  have z1 : (1 : Int32).toInt = 1 := rfl
  have z2 : (2 : Int32).toInt = 2 := rfl
  rw [i_eq, i_eq, i_eq]; omega
theorem cmp_g_lt (o : Option Ordering) : Op.cmpValue o CmpOp.g < 0 ↔ o = some .lt := by
  rcases o with _ | o
  · decide
  · cases o <;> decide
theorem cmp_l_le (o : Option Ordering) : Op.cmpValue o CmpOp.l ≤ 0 ↔ o ≠ some .gt := by
  rcases o with _ | o
  · decide
  · cases o <;> decide
theorem cmp_l_eq (o : Option Ordering) : Op.cmpValue o CmpOp.l = 0 ↔ o = some .eq := by
  rcases o with _ | o
  · decide
  · cases o <;> decide
theorem toU_toI (b : Int32) : b.toUInt32.toInt32 = b := by simp
theorem Inv_rate {n : Nat} {B : jB} (I : Inv n B) {k : Nat} {b : Int32} (hb : (k = 0 → 1036831949 ≤ b.toInt ∧ b.toInt ≤ 1065353216) ∧ (k = 1 → 0 ≤ b.toInt ∧ b.toInt ≤ 1028443341) ∧ (k = 2 → 0 ≤ b.toInt ∧ b.toInt ≤ 1056964608)) : Inv n (up2 B 15 k b) := by
  have e : ∀ q j, q ≠ 15 → up2 B 15 k b q j = B q j := fun q j hq => by rw [up2_at, if_neg (by omega)]
  obtain ⟨ia, ib, ic, id, ie, ig⟩ := I
  refine ⟨?_, ?_, ?_, ?_, ?_, ?_⟩
  · rw [e 16 0 (by decide)]; exact ia
  · rw [e 16 1 (by decide)]; exact ib
  · intro j; rw [e 16 0 (by decide), e 0 j (by decide)]; exact ic j
  · intro j hj; rw [e 4 j (by decide), e 5 j (by decide)]; exact id j hj
  · intro j; rw [e 16 1 (by decide)]; intro hj
    have := ie j hj
    unfold IInv at this ⊢
    rw [e 7 j (by decide), e 8 j (by decide), e 9 j (by decide), e 11 j (by decide), e 12 j (by decide), e 13 j (by decide), e 16 0 (by decide)]
    exact this
  · rw [up2_at, up2_at, up2_at]
    refine ⟨?_, ?_, ?_⟩
    · by_cases q : k = 0
      · rw [if_pos ⟨rfl, q.symm⟩]; exact hb.1 q
      · rw [if_neg (by omega)]; exact ig.1
    · by_cases q : k = 1
      · rw [if_pos ⟨rfl, q.symm⟩]; exact hb.2.1 q
      · rw [if_neg (by omega)]; exact ig.2.1
    · by_cases q : k = 2
      · rw [if_pos ⟨rfl, q.symm⟩]; exact hb.2.2 q
      · rw [if_neg (by omega)]; exact ig.2.2
theorem tree_if {α : Type} {p : Prop} [Decidable p] {a b : α} (h : a = b) : (if p then a else b) = b := by
  split
  · exact h
  · rfl
theorem w4 {w : Int32} (h0 : 0 ≤ w.toInt) (h1 : w.toInt ≤ 3) : w = 0 ∨ w = 1 ∨ w = 2 ∨ w = 3 := by
  have z0 : (0 : Int32).toInt = 0 := rfl
  have z1 : (1 : Int32).toInt = 1 := rfl
  have z2 : (2 : Int32).toInt = 2 := rfl
  have z3 : (3 : Int32).toInt = 3 := rfl
  rw [i_eq, i_eq, i_eq, i_eq]; omega
def InvG (S L : Int) (B : jB) : Prop :=
  (0 ≤ (B 16 0).toInt ∧ (B 16 0).toInt ≤ 8) ∧ (0 ≤ (B 16 1).toInt ∧ (B 16 1).toInt ≤ 20)
  ∧ (∀ k : Nat, (k : Int) < (B 16 0).toInt → 1 ≤ (B 0 k).toInt ∧ (B 0 k).toInt ≤ 9)
  ∧ (∀ k : Nat, k < 6 → (0 ≤ (B 4 k).toInt ∧ (B 4 k).toInt ≤ S) ∧ (0 ≤ (B 5 k).toInt ∧ (B 5 k).toInt ≤ L))
  ∧ (∀ k : Nat, (k : Int) < (B 16 1).toInt → IInv B k)
  ∧ (1036831949 ≤ (B 15 0).toInt ∧ (B 15 0).toInt ≤ 1065353216) ∧ (0 ≤ (B 15 1).toInt ∧ (B 15 1).toInt ≤ 1028443341) ∧ (0 ≤ (B 15 2).toInt ∧ (B 15 2).toInt ≤ 1056964608)
theorem G_of {n : Nat} {B : jB} (h : Inv n B) : InvG (64 * (n : Int)) n B := h
theorem G_to {n : Nat} {S L : Int} {B : jB} (h : InvG S L B) (hS : S ≤ 64 * (n : Int)) (hL : L ≤ n) : Inv n B := by
  obtain ⟨h1, h2, h3, h4, h5, h6⟩ := h
  refine ⟨h1, h2, h3, fun k hk => ?_, h5, h6⟩
  have := h4 k hk
  omega
theorem G_mono {S L S' L' : Int} {B : jB} (h : InvG S L B) (hS : S ≤ S') (hL : L ≤ L') : InvG S' L' B := by
  obtain ⟨h1, h2, h3, h4, h5, h6⟩ := h
  refine ⟨h1, h2, h3, fun k hk => ?_, h5, h6⟩
  have := h4 k hk
  omega
theorem G_free {S L : Int} {B : jB} (I : InvG S L B) {r k : Nat} (v : Int32) (h : r = 1 ∨ r = 2 ∨ r = 3 ∨ r = 6 ∨ r = 10 ∨ r = 14 ∨ (r = 16 ∧ 2 ≤ k)) : InvG S L (up2 B r k v) := by
  have e : ∀ q, q ≠ r → up2 B r k v q = B q := fun q hq => up2_row_ne hq B k v
  have e1 : up2 B r k v 16 0 = B 16 0 := by rw [up2_at, if_neg (by omega)]
  have e2 : up2 B r k v 16 1 = B 16 1 := by rw [up2_at, if_neg (by omega)]
  unfold InvG IInv at *
  rw [e1, e2, e 0 (by omega), e 4 (by omega), e 5 (by omega), e 7 (by omega), e 8 (by omega), e 9 (by omega), e 11 (by omega), e 12 (by omega), e 13 (by omega), e 15 (by omega)]
  exact I
theorem G_iup {S L : Int} {B : jB} (I : InvG S L B) {r k : Nat} {v : Int32} (hr : 7 ≤ r ∧ r < 14) (hk : (k : Int) < (B 16 1).toInt → IInv (up2 B r k v) k) : InvG S L (up2 B r k v) := by
  have e : ∀ q j, q ≠ r → up2 B r k v q j = B q j := fun q j hq => by rw [up2_at, if_neg (by omega)]
  have e2 : ∀ q j, j ≠ k → up2 B r k v q j = B q j := fun q j hq => by rw [up2_at, if_neg (by omega)]
  obtain ⟨a, b, c, d, f, g⟩ := I
  refine ⟨?_, ?_, ?_, ?_, ?_, ?_⟩
  · rw [e 16 0 (by omega)]; exact a
  · rw [e 16 1 (by omega)]; exact b
  · intro j; rw [e 16 0 (by omega), e 0 j (by omega)]; exact c j
  · intro j hj; rw [e 4 j (by omega), e 5 j (by omega)]; exact d j hj
  · intro j; rw [e 16 1 (by omega)]; intro hj
    by_cases hjk : j = k
    · subst hjk; exact hk hj
    · have := f j hj
      unfold IInv at this ⊢
      rw [e2 7 j hjk, e2 8 j hjk, e2 9 j hjk, e2 11 j hjk, e2 12 j hjk, e2 13 j hjk, e 16 0 (by omega)]
      exact this
  · rw [e 15 0 (by omega), e 15 1 (by omega), e 15 2 (by omega)]; exact g
theorem G_cup {S L : Int} {B : jB} (I : InvG S L B) {k : Nat} {v : Int32} (hv : k < 6 → 0 ≤ v.toInt ∧ v.toInt ≤ S) : InvG S L (up2 B 4 k v) := by
  have e : ∀ q j, q ≠ 4 → up2 B 4 k v q j = B q j := fun q j hq => by rw [up2_at, if_neg (by omega)]
  obtain ⟨a, b, c, d, f, g⟩ := I
  refine ⟨?_, ?_, ?_, ?_, ?_, ?_⟩
  · rw [e 16 0 (by omega)]; exact a
  · rw [e 16 1 (by omega)]; exact b
  · intro j; rw [e 16 0 (by omega), e 0 j (by omega)]; exact c j
  · intro j hj; rw [e 5 j (by omega), up2_at]
    by_cases q : j = k
    · rw [if_pos ⟨rfl, q⟩]; exact ⟨hv (by omega), (d j hj).2⟩
    · rw [if_neg (by omega)]; exact d j hj
  · intro j; rw [e 16 1 (by omega)]; intro hj
    have := f j hj
    unfold IInv at this ⊢
    rw [e 7 j (by omega), e 8 j (by omega), e 9 j (by omega), e 11 j (by omega), e 12 j (by omega), e 13 j (by omega), e 16 0 (by omega)]
    exact this
  · rw [e 15 0 (by omega), e 15 1 (by omega), e 15 2 (by omega)]; exact g
theorem G_lup {S L : Int} {B : jB} (I : InvG S L B) {k : Nat} {v : Int32} (hv : k < 6 → 0 ≤ v.toInt ∧ v.toInt ≤ L) : InvG S L (up2 B 5 k v) := by
  have e : ∀ q j, q ≠ 5 → up2 B 5 k v q j = B q j := fun q j hq => by rw [up2_at, if_neg (by omega)]
  obtain ⟨a, b, c, d, f, g⟩ := I
  refine ⟨?_, ?_, ?_, ?_, ?_, ?_⟩
  · rw [e 16 0 (by omega)]; exact a
  · rw [e 16 1 (by omega)]; exact b
  · intro j; rw [e 16 0 (by omega), e 0 j (by omega)]; exact c j
  · intro j hj; rw [e 4 j (by omega), up2_at]
    by_cases q : j = k
    · rw [if_pos ⟨rfl, q⟩]; exact ⟨(d j hj).1, hv (by omega)⟩
    · rw [if_neg (by omega)]; exact d j hj
  · intro j; rw [e 16 1 (by omega)]; intro hj
    have := f j hj
    unfold IInv at this ⊢
    rw [e 7 j (by omega), e 8 j (by omega), e 9 j (by omega), e 11 j (by omega), e 12 j (by omega), e 13 j (by omega), e 16 0 (by omega)]
    exact this
  · rw [e 15 0 (by omega), e 15 1 (by omega), e 15 2 (by omega)]; exact g
theorem has3_sz {B B' : jB} (h : B' 16 1 = B 16 1) (i : Int32) : r_X3_has B' i = r_X3_has B i := by unfold r_X3_has; rw [h]
theorem has4_sz {B B' : jB} (h : B' 16 0 = B 16 0) (i : Int32) : r_X4_has B' i = r_X4_has B i := by unfold r_X4_has; rw [h]
theorem has1_sz (B B' : jB) (i : Int32) : r_X1_has B' i = r_X1_has B i := rfl
def lt0 (B : jB) (i d : Int32) : Int32 := if 0 ≤ (B 16 2 + d) - B 10 i.toNatClampNeg then (B 16 2 + d) - B 10 i.toNatClampNeg else 0
theorem lateA_lt0 {B : jB} {i : Int32} (hh : r_X3_has B i = 1) (d : Int32) : r_X0_lateAfter B i d = lt0 B i d := by
  unfold r_X0_lateAfter r_X0_ageOf lt0
  rw [if_neg (show ¬ (r_X3_has B i = 0) by rw [hh]; exact one_ne)]
  have e : B 16 2 + d - B 10 i.toNatClampNeg = B 16 2 - B 10 i.toNatClampNeg + d := by grind
  rw [e]
  generalize B 16 2 - B 10 i.toNatClampNeg + d = x
  grind
theorem fee_n32 {B : jB} (hb : 0 ≤ (B 15 2).toInt ∧ (B 15 2).toInt ≤ 1065353216) (a : Int32) : vf_n32 (FP.fmul (FP.i2f a) (B 15 2).toUInt32) := mg_n32 (mg_mul (K := 162) (mg_i2f a) (mg_bits hb.1 hb.2) (by decide) (by decide) (by decide)) (by decide)

def cA0 (B : jB) (k : Nat) (c : Int32) : jB := up2 (up2 B 12 k (B 12 k + c)) 16 5 (B 16 5 + c)
def cA2 (B : jB) (k : Nat) (c : Int32) : jB := up2 (cA0 B k c) 2 (B 7 k).toNatClampNeg (B 2 (B 7 k).toNatClampNeg + c)
def cA6 (B : jB) (k : Nat) (c : Int32) : jB := up2 (cA0 B k c) 16 3 (B 16 3 + c)
def cSet (B : jB) (k : Nat) (d : Int32) (X : jB) : jB := up2 (up2 (up2 X 11 k 2) 4 (B 8 k).toNatClampNeg (X 4 (B 8 k).toNatClampNeg + 1)) 6 (B 8 k).toNatClampNeg (X 6 (B 8 k).toNatClampNeg + d)
def cRest (B : jB) (k : Nat) : Int32 := (B 9 k - B 13 k) - FP.f2i (FP.fmul (FP.i2f (B 9 k)) (B 15 2).toUInt32)
def cPas (B : jB) (k : Nat) (X : jB) : jB := up2 (up2 (up2 X 16 3 (X 16 3 - cRest B k)) 16 6 (X 16 6 + cRest B k)) 2 (B 7 k).toNatClampNeg (X 2 (B 7 k).toNatClampNeg + cRest B k)
def cEnd (B : jB) (i : Int32) (c : Int32) : jB :=
  if B 11 i.toNatClampNeg = 1 then (if B 9 i.toNatClampNeg - (B 12 i.toNatClampNeg + c) = 0 then cSet B i.toNatClampNeg (lt0 B i 0) (if 0 < cRest B i.toNatClampNeg then cPas B i.toNatClampNeg (cA6 B i.toNatClampNeg c) else cA6 B i.toNatClampNeg c) else cA6 B i.toNatClampNeg c)
  else (if B 9 i.toNatClampNeg - (B 12 i.toNatClampNeg + c) = 0 then cSet B i.toNatClampNeg (lt0 B i 0) (cA2 B i.toNatClampNeg c) else cA2 B i.toNatClampNeg c)
theorem cA0_fr (B : jB) (k : Nat) (c : Int32) {r j : Nat} (h : ¬ (r = 12 ∧ j = k)) (h2 : ¬ (r = 16 ∧ j = 5)) : cA0 B k c r j = B r j := by
  unfold cA0; rw [up2_at, if_neg h2, up2_at, if_neg h]
theorem cA0_12 (B : jB) (k : Nat) (c : Int32) : cA0 B k c 12 k = B 12 k + c := by
  unfold cA0; rw [up2_at, if_neg (by omega), up2_at, if_pos ⟨rfl, rfl⟩]
theorem cA2_fr (B : jB) (k : Nat) (c : Int32) {r j : Nat} (h0 : r ≠ 2) (h : ¬ (r = 12 ∧ j = k)) (h2 : ¬ (r = 16 ∧ j = 5)) : cA2 B k c r j = B r j := by
  unfold cA2; rw [up2_at, if_neg (by omega), cA0_fr B k c h h2]
theorem cA6_fr (B : jB) (k : Nat) (c : Int32) {r j : Nat} (h0 : ¬ (r = 16 ∧ j = 3)) (h : ¬ (r = 12 ∧ j = k)) (h2 : ¬ (r = 16 ∧ j = 5)) : cA6 B k c r j = B r j := by
  unfold cA6; rw [up2_at, if_neg h0, cA0_fr B k c h h2]
theorem addSettled_eq {X : jB} {cl : Int32} (h0 : 0 ≤ cl.toInt) (h1 : cl.toInt < 6) (d : Int32) : r_X1_addSettled X cl d = up2 (up2 X 4 cl.toNatClampNeg (X 4 cl.toNatClampNeg + 1)) 6 cl.toNatClampNeg (X 6 cl.toNatClampNeg + d) := by
  unfold r_X1_addSettled z_X1_addSettled_0
  rw [if_neg (show ¬ (r_X1_has X cl = 0) by rw [has1_1 X h0 h1]; exact one_ne)]
theorem set_eq {B X : jB} {i : Int32} (hh : r_X3_has X i = 1) (e8 : X 8 i.toNatClampNeg = B 8 i.toNatClampNeg) (eD : X 16 2 = B 16 2) (e10 : X 10 i.toNatClampNeg = B 10 i.toNatClampNeg) (h0 : 0 ≤ (B 8 i.toNatClampNeg).toInt) (h1 : (B 8 i.toNatClampNeg).toInt < 6) :
    r_X1_addSettled (up2 X 11 i.toNatClampNeg 2) (X 8 i.toNatClampNeg) (r_X0_lateAfter (up2 X 11 i.toNatClampNeg 2) i 0) = cSet B i.toNatClampNeg (lt0 B i 0) X := by
  have hh2 : r_X3_has (up2 X 11 i.toNatClampNeg 2) i = 1 := by rw [has3_sz (show up2 X 11 i.toNatClampNeg 2 16 1 = X 16 1 by rw [up2_at, if_neg (by omega)])]; exact hh
  rw [lateA_lt0 hh2, e8, addSettled_eq h0 h1]
  have el : lt0 (up2 X 11 i.toNatClampNeg 2) i 0 = lt0 B i 0 := by
    unfold lt0
    rw [show up2 X 11 i.toNatClampNeg 2 16 2 = B 16 2 by rw [up2_at, if_neg (by omega)]; exact eD, show up2 X 11 i.toNatClampNeg 2 10 i.toNatClampNeg = B 10 i.toNatClampNeg by rw [up2_at, if_neg (by omega)]; exact e10]
  rw [el]
  unfold cSet
  rw [show up2 X 11 i.toNatClampNeg 2 4 (B 8 i.toNatClampNeg).toNatClampNeg = X 4 (B 8 i.toNatClampNeg).toNatClampNeg by rw [up2_at, if_neg (by omega)], show up2 X 11 i.toNatClampNeg 2 6 (B 8 i.toNatClampNeg).toNatClampNeg = X 6 (B 8 i.toNatClampNeg).toNatClampNeg by rw [up2_at, if_neg (by omega)]]
theorem collect_eq {n : Nat} {B : jB} (I : Inv n B) {i c : Int32} (h0 : 0 ≤ i.toInt) (h1 : i.toInt < (B 16 1).toInt) : r_X0_collect B i c = (B 9 i.toNatClampNeg - (B 12 i.toNatClampNeg + c), cEnd B i c) ∧ n_X0_collect B i c := by
  have hh := has3_1 I h0 h1
  have gn : ¬ (r_X3_has B i = 0) := by rw [hh]; exact one_ne
  have me := mem_of I h0 h1
  have hc := cl_of I h0 h1
  have hm4 := has4_1 I me.1 me.2
  have eA0 : z_X0_collect_0 B i c = cA0 B i.toNatClampNeg c := rfl
  have eip : r_X4_intoPurse (cA0 B i.toNatClampNeg c) (B 7 i.toNatClampNeg) c = cA2 B i.toNatClampNeg c := by
    unfold r_X4_intoPurse cA2
    rw [has4_sz (cA0_fr B i.toNatClampNeg c (r := 16) (j := 0) (by omega) (by omega)), if_neg (by rw [hm4]; exact one_ne), cA0_fr B i.toNatClampNeg c (by omega) (by omega)]
  have e12 : up2 B 12 i.toNatClampNeg (B 12 i.toNatClampNeg + c) 12 i.toNatClampNeg = B 12 i.toNatClampNeg + c := by rw [up2_at, if_pos ⟨rfl, rfl⟩]
  have e9' : cA2 B i.toNatClampNeg c 9 i.toNatClampNeg = B 9 i.toNatClampNeg := cA2_fr B _ c (by omega) (by omega) (by omega)
  have e12' : cA2 B i.toNatClampNeg c 12 i.toNatClampNeg = B 12 i.toNatClampNeg + c := by
    unfold cA2; rw [up2_at, if_neg (by omega), cA0_12]
  have hA2 : r_X3_has (cA2 B i.toNatClampNeg c) i = 1 := by rw [has3_sz (cA2_fr B _ c (r := 16) (j := 1) (by omega) (by omega) (by omega))]; exact hh
  have hA6 : r_X3_has (cA6 B i.toNatClampNeg c) i = 1 := by rw [has3_sz (cA6_fr B _ c (r := 16) (j := 1) (by omega) (by omega) (by omega))]; exact hh
  have st2 : cA2 B i.toNatClampNeg c 11 i.toNatClampNeg = B 11 i.toNatClampNeg := cA2_fr B _ c (by omega) (by omega) (by omega)
  have st6 : cA6 B i.toNatClampNeg c 11 i.toNatClampNeg = B 11 i.toNatClampNeg := cA6_fr B _ c (by omega) (by omega) (by omega)
  have eA6 : up2 (z_X0_collect_0 B i c) 16 3 (B 16 3 + c) = cA6 B i.toNatClampNeg c := rfl
  have rest6 : ((cA6 B i.toNatClampNeg c 9 i.toNatClampNeg - cA6 B i.toNatClampNeg c 13 i.toNatClampNeg) - FP.f2i (FP.fmul (FP.i2f (cA6 B i.toNatClampNeg c 9 i.toNatClampNeg)) (cA6 B i.toNatClampNeg c 15 2).toUInt32)) = cRest B i.toNatClampNeg := by
    rw [cA6_fr B _ c (r := 9) (by omega) (by omega) (by omega), cA6_fr B _ c (r := 13) (by omega) (by omega) (by omega), cA6_fr B _ c (r := 15) (by omega) (by omega) (by omega)]; rfl
  have epo : r_X0_passOn (cA6 B i.toNatClampNeg c) i = if 0 < cRest B i.toNatClampNeg then cPas B i.toNatClampNeg (cA6 B i.toNatClampNeg c) else cA6 B i.toNatClampNeg c := by
    unfold r_X0_passOn z_X0_passOn_2 z_X0_passOn_1 z_X0_passOn_0
    rw [if_neg (show ¬ (r_X3_has (cA6 B i.toNatClampNeg c) i = 0) by rw [hA6]; exact one_ne), show (2 : Int32).toNatClampNeg = 2 from rfl, rest6, cA6_fr B _ c (r := 7) (by omega) (by omega) (by omega)]
    unfold r_X4_intoPurse cPas
    have h16 : up2 (up2 (cA6 B i.toNatClampNeg c) 16 3 (cA6 B i.toNatClampNeg c 16 3 - cRest B i.toNatClampNeg)) 16 6 (cA6 B i.toNatClampNeg c 16 6 + cRest B i.toNatClampNeg) 16 0 = B 16 0 := by
      rw [up2_at, if_neg (by omega), up2_at, if_neg (by omega), cA6_fr B _ c (by omega) (by omega) (by omega)]
    have h2 : up2 (up2 (cA6 B i.toNatClampNeg c) 16 3 (cA6 B i.toNatClampNeg c 16 3 - cRest B i.toNatClampNeg)) 16 6 (cA6 B i.toNatClampNeg c 16 6 + cRest B i.toNatClampNeg) 2 (B 7 i.toNatClampNeg).toNatClampNeg = cA6 B i.toNatClampNeg c 2 (B 7 i.toNatClampNeg).toNatClampNeg := by
      rw [up2_at, if_neg (by omega), up2_at, if_neg (by omega)]
    have h6 : up2 (cA6 B i.toNatClampNeg c) 16 3 (cA6 B i.toNatClampNeg c 16 3 - cRest B i.toNatClampNeg) 16 6 = cA6 B i.toNatClampNeg c 16 6 := by
      rw [up2_at, if_neg (by omega)]
    rw [has4_sz h16, if_neg (show ¬ (r_X4_has B (B 7 i.toNatClampNeg) = 0) by rw [hm4]; exact one_ne), h2]
  have nset6 : n_X0_settle (cA6 B i.toNatClampNeg c) i := by
    refine ⟨fun _ => trivial, fun _ => ⟨fun _ => ⟨⟨fun _ => trivial, fun _ => ⟨?_, fun _ => trivial, fun _ => trivial⟩⟩, trivial⟩, fun _ => trivial⟩⟩
    rw [show (2 : Int32).toNatClampNeg = 2 from rfl, cA6_fr B _ c (r := 15) (by omega) (by omega) (by omega)]
    exact fee_n32 (rate_b2 I) _
  have nset2 : n_X0_settle (cA2 B i.toNatClampNeg c) i := by
    refine ⟨fun _ => trivial, fun _ => ⟨fun _ => ⟨⟨fun _ => trivial, fun _ => ⟨?_, fun _ => trivial, fun _ => trivial⟩⟩, trivial⟩, fun _ => trivial⟩⟩
    rw [show (2 : Int32).toNatClampNeg = 2 from rfl, cA2_fr B _ c (r := 15) (by omega) (by omega) (by omega)]
    exact fee_n32 (rate_b2 I) _
  refine ⟨?_, ⟨fun _ => trivial, fun _ => ⟨fun _ => ⟨fun _ => ⟨by rw [eA6]; exact nset6, trivial⟩, fun _ => trivial⟩, fun _ => ⟨fun _ => ⟨by rw [eA0, eip]; exact nset2, trivial⟩, fun _ => trivial⟩⟩⟩⟩
  unfold r_X0_collect z_X0_collect_1 cEnd
  rw [if_neg gn, e12, eA0, eip, e9', e12']
  rw [show up2 (cA0 B i.toNatClampNeg c) 16 3 (B 16 3 + c) = cA6 B i.toNatClampNeg c from rfl]
  by_cases s : B 11 i.toNatClampNeg = 1
  · rw [if_pos s, if_pos s]
    by_cases l : B 9 i.toNatClampNeg - (B 12 i.toNatClampNeg + c) = 0
    · rw [if_pos l, if_pos l]
      refine congrArg _ ?_
      unfold r_X0_settle z_X0_settle_1
      rw [if_neg (show ¬ (r_X3_has (cA6 B i.toNatClampNeg c) i = 0) by rw [hA6]; exact one_ne), st6, if_pos s, epo]
      have fr : ∀ r j, r ≠ 2 → ¬ (r = 16 ∧ (j = 3 ∨ j = 6)) → (if 0 < cRest B i.toNatClampNeg then cPas B i.toNatClampNeg (cA6 B i.toNatClampNeg c) else cA6 B i.toNatClampNeg c) r j = cA6 B i.toNatClampNeg c r j := by
        intro r j h1 h2
        split
        · unfold cPas
          rw [up2_at, if_neg (by omega), up2_at, if_neg (by omega), up2_at, if_neg (by omega)]
        · rfl
      refine set_eq ?_ ?_ ?_ ?_ hc.1 hc.2
      · rw [has3_sz ((fr 16 1 (by omega) (by omega)).trans (cA6_fr B _ c (by omega) (by omega) (by omega)))]; exact hh
      · rw [fr 8 _ (by omega) (by omega), cA6_fr B _ c (by omega) (by omega) (by omega)]
      · rw [fr 16 2 (by omega) (by omega), cA6_fr B _ c (by omega) (by omega) (by omega)]
      · rw [fr 10 _ (by omega) (by omega), cA6_fr B _ c (by omega) (by omega) (by omega)]
    · rw [if_neg l, if_neg l]
  · rw [if_neg s, if_neg s]
    by_cases l : B 9 i.toNatClampNeg - (B 12 i.toNatClampNeg + c) = 0
    · rw [if_pos l, if_pos l]
      refine congrArg _ ?_
      unfold r_X0_settle z_X0_settle_0
      rw [if_neg (show ¬ (r_X3_has (cA2 B i.toNatClampNeg c) i = 0) by rw [hA2]; exact one_ne), st2, if_neg s]
      refine set_eq hA2 ?_ ?_ ?_ hc.1 hc.2
      · rw [cA2_fr B _ c (by omega) (by omega) (by omega)]
      · rw [cA2_fr B _ c (by omega) (by omega) (by omega)]
      · rw [cA2_fr B _ c (by omega) (by omega) (by omega)]
    · rw [if_neg l, if_neg l]

theorem noFault {n : Nat} {B : jB} (I : Inv n B) {i c : Int32} (h : r_X0_errorOfPayment B i c = 0) : 0 ≤ i.toInt ∧ i.toInt < (B 16 1).toInt ∧ (B 11 i.toNatClampNeg).toInt ≤ 1 ∧ 1 ≤ c.toInt ∧ c.toInt ≤ (B 9 i.toNatClampNeg).toInt - (B 12 i.toNatClampNeg).toInt := by
  unfold r_X0_errorOfPayment at h
  have z1 : (1 : Int32).toInt = 1 := rfl
  rcases has3_cases I i with g | ⟨g, h0, h1⟩
  · rw [if_pos g.1] at h; exact absurd h (by decide)
  rw [if_neg (by rw [g]; exact one_ne)] at h
  rcases unset_cases I h0 h1 with a | a
  · rw [if_pos a.1] at h; exact absurd h (by decide)
  rw [if_neg (by rw [a.1]; exact one_ne)] at h
  by_cases b : c < 1
  · rw [if_pos b] at h; exact absurd h (by decide)
  rw [if_neg b] at h
  by_cases d : c ≤ B 9 i.toNatClampNeg - B 12 i.toNatClampNeg
  · have am := am_of I h0 h1
    have pd := paid_of I h0 h1
    rw [i_lt] at b
    rw [i_le, i_sub (by omega) (by omega)] at d
    exact ⟨h0, h1, a.2, by omega, d⟩
  · rw [if_neg d] at h; exact absurd h (by decide)
theorem left_of {n : Nat} {B : jB} (I : Inv n B) {i c : Int32} (h0 : 0 ≤ i.toInt) (h1 : i.toInt < (B 16 1).toInt) (hc : 1 ≤ c.toInt) (hc2 : c.toInt ≤ (B 9 i.toNatClampNeg).toInt - (B 12 i.toNatClampNeg).toInt) : (B 12 i.toNatClampNeg + c).toInt = (B 12 i.toNatClampNeg).toInt + c.toInt ∧ (B 9 i.toNatClampNeg - (B 12 i.toNatClampNeg + c)).toInt = (B 9 i.toNatClampNeg).toInt - ((B 12 i.toNatClampNeg).toInt + c.toInt) := by
  have am := am_of I h0 h1
  have pd := paid_of I h0 h1
  have e : (B 12 i.toNatClampNeg + c).toInt = (B 12 i.toNatClampNeg).toInt + c.toInt := i_add (by omega) (by omega)
  refine ⟨e, ?_⟩
  rw [i_sub] <;> rw [e] <;> omega
theorem cEnd_inv {n : Nat} {S L : Int} {B : jB} (I : Inv n B) (G : InvG S L B) (hS : S ≤ 1000000) {i c : Int32} (h0 : 0 ≤ i.toInt) (h1 : i.toInt < (B 16 1).toInt) (hc : 1 ≤ c.toInt) (hc2 : c.toInt ≤ (B 9 i.toNatClampNeg).toInt - (B 12 i.toNatClampNeg).toInt) : InvG (S + 1) L (cEnd B i c) := by
  have le := left_of I h0 h1 hc hc2
  have am := am_of I h0 h1
  have pd := paid_of I h0 h1
  have ii := Inv_i I (nat_lt_i h0 h1)
  have cl := cl_of I h0 h1
  have cl6 := nat_lt (n := 6) cl.1 cl.2
  have G0 : InvG (S + 1) L (cA0 B i.toNatClampNeg c) := by
    unfold cA0
    refine G_free (G_iup (G_mono G (by omega) (Int.le_refl _)) (by omega) (fun _ => ?_)) _ (by omega)
    unfold IInv at ii ⊢
    simp only [up2_at]
    simp [-Int32.toInt_add]
    rw [le.1]
    omega
  have hcs : cA0 B i.toNatClampNeg c 4 (B 8 i.toNatClampNeg).toNatClampNeg = B 4 (B 8 i.toNatClampNeg).toNatClampNeg := cA0_fr B _ c (by omega) (by omega)
  have setI : ∀ X : jB, InvG (S + 1) L X → X 4 (B 8 i.toNatClampNeg).toNatClampNeg = B 4 (B 8 i.toNatClampNeg).toNatClampNeg → InvG (S + 1) L (cSet B i.toNatClampNeg (lt0 B i 0) X) := by
    intro X hX e
    unfold cSet
    refine G_free (G_cup (G_iup hX (by omega) (fun hk => ?_)) (fun _ => ?_)) _ (by omega)
    · have := hX.2.2.2.2.1 i.toNatClampNeg hk
      unfold IInv at this ⊢
      simp only [up2_at]
      simp
      omega
    · rw [e]
      have := G.2.2.2.1 (B 8 i.toNatClampNeg).toNatClampNeg cl6
      rw [ii_succ (by omega)]
      omega
  have G2 : InvG (S + 1) L (cA2 B i.toNatClampNeg c) := G_free G0 _ (by omega)
  have G6 : InvG (S + 1) L (cA6 B i.toNatClampNeg c) := G_free G0 _ (by omega)
  have GP : InvG (S + 1) L (cPas B i.toNatClampNeg (cA6 B i.toNatClampNeg c)) := G_free (G_free (G_free G6 _ (by omega)) _ (by omega)) _ (by omega)
  have s2 : cA2 B i.toNatClampNeg c 4 (B 8 i.toNatClampNeg).toNatClampNeg = B 4 (B 8 i.toNatClampNeg).toNatClampNeg := cA2_fr B _ c (by omega) (by omega) (by omega)
  have s6 : cA6 B i.toNatClampNeg c 4 (B 8 i.toNatClampNeg).toNatClampNeg = B 4 (B 8 i.toNatClampNeg).toNatClampNeg := cA6_fr B _ c (by omega) (by omega) (by omega)
  have sP : cPas B i.toNatClampNeg (cA6 B i.toNatClampNeg c) 4 (B 8 i.toNatClampNeg).toNatClampNeg = B 4 (B 8 i.toNatClampNeg).toNatClampNeg := by
    unfold cPas
    rw [up2_at, if_neg (by omega), up2_at, if_neg (by omega), up2_at, if_neg (by omega)]; exact s6
  unfold cEnd
  split
  · split
    · split
      · exact setI _ GP sP
      · exact setI _ G6 s6
    · exact G6
  · split
    · exact setI _ G2 s2
    · exact G2
theorem err_cases (B : jB) (i c : Int32) : r_X0_errorOfPayment B i c = 0 ∨ (r_X0_errorOfPayment B i c).toInt < 0 := by
  unfold r_X0_errorOfPayment
  repeat' split
  all_goals first | (left; rfl) | (right; decide)
