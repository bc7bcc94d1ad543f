/-- a sum over c places from k on -/
def fs (g : Nat → Int32) : Int32 → Nat → Nat → Int32
  | a, 0, _ => a
  | a, c + 1, k => fs g (a + g k) c (k + 1)
theorem fs_congr {g g' : Nat → Int32} : ∀ (c k : Nat) (a : Int32), (∀ j, k ≤ j → j < k + c → g j = g' j) → fs g a c k = fs g' a c k
  | 0, _, _, _ => rfl
  | c + 1, k, a, h => by
    show fs g (a + g k) c (k + 1) = fs g' (a + g' k) c (k + 1)
    rw [h k (Nat.le_refl _) (by omega)]
    exact fs_congr c (k + 1) _ fun j h1 h2 => h j (by omega) (by omega)
theorem ii_succ {x : Int32} (h : x.toInt < 2147483647) : (x + 1).toInt = x.toInt + 1 := by
  have := i_lo x
  have z : (1 : Int32).toInt = 1 := rfl
  rw [i_add] <;> rw [z] <;> omega
theorem nn_succ {x : Int32} (h0 : 0 ≤ x.toInt) (h : x.toInt < 2147483647) : (x + 1).toNatClampNeg = x.toNatClampNeg + 1 := by
  rw [i_nat, i_nat, ii_succ h]; omega
theorem loopA {α : Type} {L : Nat → Int32 → Int32 → α} {g : Nat → Int32} {fin : Int32 → α} {sz : Int32} (hsz : sz.toInt < 2147483647)
    (hstop : ∀ n a x, sz ≤ x → L (n + 1) a x = fin a) (hstep : ∀ n a x, 0 ≤ x.toInt → x.toInt < sz.toInt → L (n + 1) a x = L n (a + g x.toNatClampNeg) (x + 1)) :
    ∀ (c n : Nat) (a x : Int32), 0 ≤ x.toInt → x.toInt + c = sz.toInt → c ≤ n → L (n + 1) a x = fin (fs g a c x.toNatClampNeg)
  | 0, n, a, x, h0, h1, h2 => by rw [hstop n a x (by rw [i_le]; omega)]; rfl
  | c + 1, n, a, x, h0, h1, h2 => by
    obtain ⟨m, rfl⟩ : ∃ m, n = m + 1 := ⟨n - 1, by omega⟩
    rw [hstep _ a x h0 (by omega), loopA hsz hstop hstep c m _ (x + 1) (by rw [ii_succ (by omega)]; omega) (by rw [ii_succ (by omega)]; omega) (by omega), nn_succ h0 (by omega)]
    rfl
theorem loopT {α : Type} {L : Nat → Int32 → Int32 → α} {fin : Int32 → α} {sz top : Int32} (hT : top.toInt < 2147483647)
    (hstop : ∀ n a x, top ≤ x → L (n + 1) a x = fin a) (hskip : ∀ n a x, 0 ≤ x.toInt → sz.toInt ≤ x.toInt → x.toInt < top.toInt → L (n + 1) a x = L n a (x + 1)) :
    ∀ (d n : Nat) (a x : Int32), 0 ≤ x.toInt → sz.toInt ≤ x.toInt → x.toInt + d = top.toInt → d ≤ n → L (n + 1) a x = fin a
  | 0, n, a, x, h0, hs, h1, h2 => hstop n a x (by rw [i_le]; omega)
  | d + 1, n, a, x, h0, hs, h1, h2 => by
    obtain ⟨m, rfl⟩ : ∃ m, n = m + 1 := ⟨n - 1, by omega⟩
    rw [hskip _ a x h0 hs (by omega)]
    exact loopT hT hstop hskip d m a (x + 1) (by rw [ii_succ (by omega)]; omega) (by rw [ii_succ (by omega)]; omega) (by rw [ii_succ (by omega)]; omega) (by omega)
theorem loopB {α : Type} {L : Nat → Int32 → Int32 → α} {g : Nat → Int32} {fin : Int32 → α} {sz top : Int32} (hT : top.toInt < 2147483647) (hst : sz.toInt ≤ top.toInt)
    (hstop : ∀ n a x, top ≤ x → L (n + 1) a x = fin a) (hskip : ∀ n a x, 0 ≤ x.toInt → sz.toInt ≤ x.toInt → x.toInt < top.toInt → L (n + 1) a x = L n a (x + 1))
    (hstep : ∀ n a x, 0 ≤ x.toInt → x.toInt < sz.toInt → L (n + 1) a x = L n (a + g x.toNatClampNeg) (x + 1)) :
    ∀ (c n : Nat) (a x : Int32), 0 ≤ x.toInt → x.toInt + c = sz.toInt → top.toInt ≤ x.toInt + n → L (n + 1) a x = fin (fs g a c x.toNatClampNeg)
  | 0, n, a, x, h0, h1, h2 => by
    rw [loopT hT hstop hskip (top.toInt - x.toInt).toNat n a x h0 (by omega) (by omega) (by omega)]; rfl
  | c + 1, n, a, x, h0, h1, h2 => by
    obtain ⟨m, rfl⟩ : ∃ m, n = m + 1 := ⟨n - 1, by omega⟩
    rw [hstep _ a x h0 (by omega), loopB hT hst hstop hskip hstep c m _ (x + 1) (by rw [ii_succ (by omega)]; omega) (by rw [ii_succ (by omega)]; omega) (by rw [ii_succ (by omega)]; omega), nn_succ h0 (by omega)]
    rfl
theorem has3_1 {n : Nat} {B : jB} (I : Inv n B) {i : Int32} (h0 : 0 ≤ i.toInt) (h1 : i.toInt < (B 16 1).toInt) : r_X3_has B i = 1 := by
  rcases has3_cases I i with h | h
  · exact absurd ⟨h0, h1⟩ h.2
  · exact h.1
theorem has3_0 {n : Nat} {B : jB} (I : Inv n B) {i : Int32} (h1 : (B 16 1).toInt ≤ i.toInt) : r_X3_has B i = 0 := by
  rcases has3_cases I i with h | h
  · exact h.1
  · exact absurd h.2.2 (by omega)
theorem has4_1 {n : Nat} {B : jB} (I : Inv n B) {i : Int32} (h0 : 0 ≤ i.toInt) (h1 : i.toInt < (B 16 0).toInt) : r_X4_has B i = 1 := by
  rcases has4_cases I i with h | h
  · exact absurd ⟨h0, h1⟩ h.2
  · exact h.1
theorem has4_0 {n : Nat} {B : jB} (I : Inv n B) {i : Int32} (h1 : (B 16 0).toInt ≤ i.toInt) : r_X4_has B i = 0 := by
  rcases has4_cases I i with h | h
  · exact h.1
  · exact absurd h.2.2 (by omega)
theorem has1_1 (B : jB) {i : Int32} (h0 : 0 ≤ i.toInt) (h1 : i.toInt < 6) : r_X1_has B i = 1 := by
  rcases has1_cases B i with h | h
  · exact absurd ⟨h0, h1⟩ h.2
  · exact h.1
theorem one_ne : ¬ ((1 : Int32) = 0) := by decide
theorem e_isInvoice {n : Nat} {M B : jB} (h : LB (M 0) B) (I : Inv n B) (i : Int32) : r_X8_isInvoice M i = r_X3_has B i := by
  have hs := Inv_s I
  unfold r_X8_isInvoice
  rw [rS9 h]
  have z : (0 : Int32).toInt = 0 := rfl
  have z1 : (1 : Int32).toInt = 1 := rfl
  have e : (B 16 1 - 1).toInt = (B 16 1).toInt - 1 := by rw [i_sub] <;> rw [z1] <;> omega
  rcases in_cases i 0 (B 16 1 - 1) with a | a <;> rcases has3_cases I i with b | b <;> rw [a.1, b.1] <;> rw [e, z] at a <;> omega
theorem e_isMember {n : Nat} {M B : jB} (h : LB (M 0) B) (I : Inv n B) (i : Int32) : r_X8_isMember M i = r_X4_has B i := by
  have hs := Inv_m I
  unfold r_X8_isMember
  rw [rS8 h]
  have z : (0 : Int32).toInt = 0 := rfl
  have z1 : (1 : Int32).toInt = 1 := rfl
  have e : (B 16 0 - 1).toInt = (B 16 0).toInt - 1 := by rw [i_sub] <;> rw [z1] <;> omega
  rcases in_cases i 0 (B 16 0 - 1) with a | a <;> rcases has4_cases I i with b | b <;> rw [a.1, b.1] <;> rw [e, z] at a <;> omega
theorem e_isClient (B : jB) (i : Int32) : r_X8_isClient i = r_X1_has B i := by
  unfold r_X8_isClient
  have z : (0 : Int32).toInt = 0 := rfl
  have z1 : (5 : Int32).toInt = 5 := rfl
  rcases in_cases i 0 5 with a | a <;> rcases has1_cases B i with b | b <;> rw [a.1, b.1] <;> rw [z1, z] at a <;> omega
theorem sz_toNat {B : jB} {r k t : Nat} (h0 : 0 ≤ (B r k).toInt) (h1 : (B r k).toInt ≤ t) : (0 : Int32).toInt + (((B r k).toInt.toNat : Nat) : Int) = (B r k).toInt := by
  have z : (0 : Int32).toInt = 0 := rfl
  omega
theorem e_allDues4 {n : Nat} {B : jB} (I : Inv n B) : r_X4_allDues B = fs (fun k => B 1 k) 0 (B 16 0).toInt.toNat 0 := by
  have hm := Inv_m I
  unfold r_X4_allDues
  have z : (8 : Int32).toInt = 8 := rfl
  refine loopB (L := L_X4_allDues_4 B) (g := fun k => B 1 k) (fin := fun a => a) (sz := B 16 0) (top := 8) (by decide) (by omega) ?_ ?_ ?_ _ 8 0 0 (by decide) (sz_toNat hm.1 hm.2) (by decide)
  · intro n a x hx; rw [L_X4_allDues_4, if_pos hx]
  · intro n a x h0 h1 h2
    rw [L_X4_allDues_4, if_neg (by rw [i_le]; omega), if_pos (has4_0 I h1)]
  · intro n a x h0 h1
    rw [L_X4_allDues_4, if_neg (by rw [i_le]; omega), if_neg (by rw [has4_1 I h0 h1]; exact one_ne)]
theorem e_allWeights4 {n : Nat} {B : jB} (I : Inv n B) : r_X4_allWeights B = fs (fun k => B 0 k) 0 (B 16 0).toInt.toNat 0 := by
  have hm := Inv_m I
  unfold r_X4_allWeights
  have z : (8 : Int32).toInt = 8 := rfl
  refine loopB (L := L_X4_allWeights_4 B) (g := fun k => B 0 k) (fin := fun a => a) (sz := B 16 0) (top := 8) (by decide) (by omega) ?_ ?_ ?_ _ 8 0 0 (by decide) (sz_toNat hm.1 hm.2) (by decide)
  · intro n a x hx; rw [L_X4_allWeights_4, if_pos hx]
  · intro n a x h0 h1 h2
    rw [L_X4_allWeights_4, if_neg (by rw [i_le]; omega), if_pos (has4_0 I h1)]
  · intro n a x h0 h1
    rw [L_X4_allWeights_4, if_neg (by rw [i_le]; omega), if_neg (by rw [has4_1 I h0 h1]; exact one_ne)]
theorem e_allDues {n : Nat} {M B : jB} (h : LB (M 0) B) (I : Inv n B) : r_X8_allDues M = r_X4_allDues B := by
  have hm := Inv_m I
  rw [e_allDues4 I]
  unfold r_X8_allDues
  rw [rN8 h]
  have z : (0 : Int32).toInt = 0 := rfl
  refine loopA (L := L_X8_allDues_4 M) (g := fun k => B 1 k) (fin := fun a => a) (sz := B 16 0) (by omega) ?_ ?_ _ _ 0 0 (by decide) (sz_toNat hm.1 hm.2) (by omega)
  · intro n a x hx; rw [L_X8_allDues_4, rS8 h, if_pos hx]
  · intro n a x h0 h1
    rw [L_X8_allDues_4, rS8 h, if_neg (by rw [i_le]; omega), rM1 h h0 (by omega)]
theorem e_reserve {n : Nat} {M B : jB} (h : LB (M 0) B) (I : Inv n B) : r_X8_reserve M = r_X0_reserveCents B := by
  unfold r_X8_reserve r_X0_reserveCents
  rw [e_allDues h I, rS6 h, tn1]
theorem e_late {n : Nat} {M B : jB} (h : LB (M 0) B) (I : Inv n B) {i : Int32} (h0 : 0 ≤ i.toInt) (h1 : i.toInt < (B 16 1).toInt) (days : Int32) : r_X8_late M i days = r_X0_lateAfter B i days := by
  have hs := Inv_s I
  unfold r_X8_late r_X0_lateAfter r_X0_ageOf
  rw [if_neg (show ¬ (r_X3_has B i = 0) by rw [has3_1 I h0 h1]; exact one_ne), rS0 h, rI3 h h0 (by omega)]
  have e : B 16 2 + days - B 10 i.toNatClampNeg = B 16 2 - B 10 i.toNatClampNeg + days := by grind
  rw [e]
  generalize B 16 2 - B 10 i.toNatClampNeg + days = x
  grind
theorem late_pos {B : jB} {i : Int32} (days : Int32) : 0 ≤ (r_X0_lateAfter B i days).toInt := by
  unfold r_X0_lateAfter
  have z : (0 : Int32).toInt = 0 := rfl
  by_cases h : r_X0_ageOf B i + days ≤ 0
  · rw [if_pos h]; decide
  · rw [if_neg h]; rw [i_le] at h; omega
theorem st_cases {n : Nat} {B : jB} (I : Inv n B) {i : Int32} (h0 : 0 ≤ i.toInt) (h1 : i.toInt < (B 16 1).toInt) : 0 ≤ (B 11 i.toNatClampNeg).toInt ∧ (B 11 i.toNatClampNeg).toInt ≤ 3 :=
  (Inv_i I (nat_lt_i h0 h1)).2.2.2.1
theorem unset_cases {n : Nat} {B : jB} (I : Inv n B) {i : Int32} (h0 : 0 ≤ i.toInt) (h1 : i.toInt < (B 16 1).toInt) : (r_X3_isUnsettled B i = 0 ∧ 2 ≤ (B 11 i.toNatClampNeg).toInt) ∨ (r_X3_isUnsettled B i = 1 ∧ (B 11 i.toNatClampNeg).toInt ≤ 1) := by
  have hst := st_cases I h0 h1
  unfold r_X3_isUnsettled
  rw [if_neg (show ¬ (r_X3_has B i = 0) by rw [has3_1 I h0 h1]; exact one_ne)]
  have z : (0 : Int32).toInt = 0 := rfl
  have z1 : (1 : Int32).toInt = 1 := rfl
  simp only [i_eq, z, z1]
  by_cases a : (B 11 i.toNatClampNeg).toInt = 0
  · rw [if_pos a]; right; exact ⟨z1, by omega⟩
  · rw [if_neg a]
    by_cases b : (B 11 i.toNatClampNeg).toInt = 1
    · rw [if_pos b]; right; exact ⟨z1, by omega⟩
    · rw [if_neg b]; left; exact ⟨z, by omega⟩
theorem e_mayGiveUp {n : Nat} {M B : jB} (h : LB (M 0) B) (I : Inv n B) {i : Int32} (h0 : 0 ≤ i.toInt) (h1 : i.toInt < (B 16 1).toInt) : r_X8_mayGiveUp M i = r_X0_canGiveUp B i := by
  have hs := Inv_s I
  unfold r_X8_mayGiveUp r_X0_canGiveUp r_X0_ageOf
  rw [if_neg (show ¬ (r_X3_has B i = 0) by rw [has3_1 I h0 h1]; exact one_ne), rS0 h, rI3 h h0 (by omega), rI4 h h0 (by omega), rS7 h, tn2]
  have z2 : (2 : Int32).toInt = 2 := rfl
  rcases unset_cases I h0 h1 with a | a
  · rw [if_pos (by rw [i_le]; omega), if_pos a.1]
  · rw [if_neg (show ¬ ((2 : Int32) ≤ B 11 i.toNatClampNeg) by rw [i_le]; omega), if_neg (show ¬ (r_X3_isUnsettled B i = 0) by rw [a.1]; exact one_ne)]
theorem e_payFault {n : Nat} {M B : jB} (h : LB (M 0) B) (I : Inv n B) (i c : Int32) : r_X8_payFault M i c = r_X0_errorOfPayment B i c := by
  have hs := Inv_s I
  unfold r_X8_payFault r_X0_errorOfPayment
  rw [e_isInvoice h I]
  rcases has3_cases I i with g | g
  · rw [if_pos g.1, if_pos g.1]
  · obtain ⟨g, h0, h1⟩ := g
    have gn : ¬ (r_X3_has B i = 0) := by rw [g]; exact one_ne
    rw [if_neg gn, if_neg gn, rI4 h h0 (by omega), rI2 h h0 (by omega), rI5 h h0 (by omega)]
    have z1 : (1 : Int32).toInt = 1 := rfl
    rcases unset_cases I h0 h1 with a | a
    · rw [if_neg (by rw [i_le]; omega), if_pos a.1]
    · rw [if_pos (show B 11 i.toNatClampNeg ≤ 1 by rw [i_le]; omega), if_neg (show ¬ (r_X3_isUnsettled B i = 0) by rw [a.1]; exact one_ne)]
      rcases in_cases c 1 (B 9 i.toNatClampNeg - B 12 i.toNatClampNeg) with b | b
      · rw [if_pos b.1]
        by_cases c1 : c < 1
        · rw [if_pos c1]
        · rw [if_neg c1, if_neg (show ¬ (c ≤ B 9 i.toNatClampNeg - B 12 i.toNatClampNeg) by rw [i_lt] at c1; rw [i_le]; omega)]
      · rw [if_neg (show ¬ (r_X8_in c 1 (B 9 i.toNatClampNeg - B 12 i.toNatClampNeg) = 0) by rw [b.1]; exact one_ne), if_neg (show ¬ (c < 1) by rw [i_lt]; omega), if_pos (show c ≤ B 9 i.toNatClampNeg - B 12 i.toNatClampNeg by rw [i_le]; omega)]
