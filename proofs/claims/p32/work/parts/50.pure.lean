theorem up2_at (B : jB) (r k : Nat) (v : Int32) (r1 k1 : Nat) : up2 B r k v r1 k1 = if r1 = r ∧ k1 = k then v else B r1 k1 := by
  unfold up2 upd
  by_cases h : r1 = r
  · subst h
    simp [Nat.beq_eq_true_eq]
  · have : Nat.beq r1 r = false := by
      cases hb : Nat.beq r1 r with
      | false => rfl
      | true => exact absurd (Nat.eq_of_beq_eq_true hb) h
    simp [this, h]
theorem up1_at (K : Nat → jB) (b : Nat) (B : jB) (b1 : Nat) : up1 K b B b1 = if b1 = b then B else K b1 := by
  unfold up1
  by_cases h : b1 = b
  · subst h
    simp [Nat.beq_eq_true_eq]
  · have : Nat.beq b1 b = false := by
      cases hb : Nat.beq b1 b with
      | false => rfl
      | true => exact absurd (Nat.eq_of_beq_eq_true hb) h
    simp [this, h]
theorem up3_at (K : Nat → jB) (b r k : Nat) (v : Int32) (b1 : Nat) : up3 K b r k v b1 = if b1 = b then up2 (K b) r k v else K b1 := up1_at K b (up2 (K b) r k v) b1
theorem up2_row (B : jB) (r k : Nat) (v : Int32) : up2 B r k v r = upd (B r) k v := by
  funext k1; rw [up2_at]; simp [upd]
theorem up2_row_ne {r r1 : Nat} (h : r1 ≠ r) (B : jB) (k : Nat) (v : Int32) : up2 B r k v r1 = B r1 := by
  funext k1; rw [up2_at]; simp [h]
theorem tn0 : (0 : Int32).toNatClampNeg = 0 := rfl
theorem tn1 : (1 : Int32).toNatClampNeg = 1 := rfl
theorem tn2 : (2 : Int32).toNatClampNeg = 2 := rfl
theorem tn3 : (3 : Int32).toNatClampNeg = 3 := rfl
theorem tn4 : (4 : Int32).toNatClampNeg = 4 := rfl
theorem tn5 : (5 : Int32).toNatClampNeg = 5 := rfl
theorem tn6 : (6 : Int32).toNatClampNeg = 6 := rfl
theorem tn7 : (7 : Int32).toNatClampNeg = 7 := rfl
theorem tn8 : (8 : Int32).toNatClampNeg = 8 := rfl
theorem tn9 : (9 : Int32).toNatClampNeg = 9 := rfl
theorem tn10 : (10 : Int32).toNatClampNeg = 10 := rfl
theorem tn11 : (11 : Int32).toNatClampNeg = 11 := rfl
theorem tn12 : (12 : Int32).toNatClampNeg = 12 := rfl
theorem tn13 : (13 : Int32).toNatClampNeg = 13 := rfl
theorem i_le {a b : Int32} : a ≤ b ↔ a.toInt ≤ b.toInt := Int32.le_iff_toInt_le
theorem i_lt {a b : Int32} : a < b ↔ a.toInt < b.toInt := Int32.lt_iff_toInt_lt
theorem i_eq {a b : Int32} : a = b ↔ a.toInt = b.toInt := ⟨fun h => by rw [h], fun h => Int32.toInt.inj h⟩
theorem i_lo (a : Int32) : -2147483648 ≤ a.toInt := Int32.le_toInt a
theorem i_hi (a : Int32) : a.toInt < 2147483648 := Int32.toInt_lt a
theorem i_nat (a : Int32) : a.toNatClampNeg = a.toInt.toNat := rfl
theorem i_add {a b : Int32} (h1 : -2147483648 ≤ a.toInt + b.toInt) (h2 : a.toInt + b.toInt < 2147483648) : (a + b).toInt = a.toInt + b.toInt := by
  rw [Int32.toInt_add]; exact Int.bmod_eq_of_le (by omega) (by omega)
theorem i_sub {a b : Int32} (h1 : -2147483648 ≤ a.toInt - b.toInt) (h2 : a.toInt - b.toInt < 2147483648) : (a - b).toInt = a.toInt - b.toInt := by
  rw [Int32.toInt_sub]; exact Int.bmod_eq_of_le (by omega) (by omega)
theorem i_mul {a b : Int32} (h1 : -2147483648 ≤ a.toInt * b.toInt) (h2 : a.toInt * b.toInt < 2147483648) : (a * b).toInt = a.toInt * b.toInt := by
  rw [Int32.toInt_mul]; exact Int.bmod_eq_of_le (by omega) (by omega)
theorem lit (n : Nat) (h : n < 2147483648) : (OfNat.ofNat n : Int32).toInt = n := by
  have : (Int32.ofNat n).toInt = n := Int32.toInt_ofNat_of_lt h
  exact this

def IInv (B : jB) (k : Nat) : Prop := (0 ≤ (B 7 k).toInt ∧ (B 7 k).toInt < (B 16 0).toInt) ∧ (0 ≤ (B 8 k).toInt ∧ (B 8 k).toInt ≤ 5) ∧ (100 ≤ (B 9 k).toInt ∧ (B 9 k).toInt ≤ 1000000) ∧ (0 ≤ (B 11 k).toInt ∧ (B 11 k).toInt ≤ 3) ∧ (0 ≤ (B 12 k).toInt ∧ (B 12 k).toInt ≤ (B 9 k).toInt) ∧ (0 ≤ (B 13 k).toInt ∧ (B 13 k).toInt ≤ (B 9 k).toInt)
/-- what holds of a book after n calls -/
def Inv (n : Nat) (B : jB) : Prop :=
  (0 ≤ (B 16 0).toInt ∧ (B 16 0).toInt ≤ 8) ∧ (0 ≤ (B 16 1).toInt ∧ (B 16 1).toInt ≤ 20)
  ∧ (∀ k : Nat, (k : Int) < (B 16 0).toInt → 1 ≤ (B 0 k).toInt ∧ (B 0 k).toInt ≤ 9)
  ∧ (∀ k : Nat, k < 6 → (0 ≤ (B 4 k).toInt ∧ (B 4 k).toInt ≤ 64 * (n : Int)) ∧ (0 ≤ (B 5 k).toInt ∧ (B 5 k).toInt ≤ (n : Int)))
  ∧ (∀ k : Nat, (k : Int) < (B 16 1).toInt → IInv B k)
  ∧ (1036831949 ≤ (B 15 0).toInt ∧ (B 15 0).toInt ≤ 1065353216) ∧ (0 ≤ (B 15 1).toInt ∧ (B 15 1).toInt ≤ 1028443341) ∧ (0 ≤ (B 15 2).toInt ∧ (B 15 2).toInt ≤ 1056964608)
theorem Inv_mono {n n' : Nat} {B : jB} (h : Inv n B) (hn : n ≤ n') : Inv n' B := by
  obtain ⟨h1, h2, h3, h4, h5, h6⟩ := h
  refine ⟨h1, h2, h3, fun k hk => ?_, h5, h6⟩
  have := h4 k hk
  omega
theorem Inv_m {n : Nat} {B : jB} (h : Inv n B) : 0 ≤ (B 16 0).toInt ∧ (B 16 0).toInt ≤ 8 := h.1
theorem Inv_s {n : Nat} {B : jB} (h : Inv n B) : 0 ≤ (B 16 1).toInt ∧ (B 16 1).toInt ≤ 20 := h.2.1
theorem Inv_w {n : Nat} {B : jB} (h : Inv n B) {k : Nat} (hk : (k : Int) < (B 16 0).toInt) : 1 ≤ (B 0 k).toInt ∧ (B 0 k).toInt ≤ 9 := h.2.2.1 k hk
theorem Inv_c {n : Nat} {B : jB} (h : Inv n B) {k : Nat} (hk : k < 6) : (0 ≤ (B 4 k).toInt ∧ (B 4 k).toInt ≤ 64 * (n : Int)) ∧ (0 ≤ (B 5 k).toInt ∧ (B 5 k).toInt ≤ (n : Int)) := h.2.2.2.1 k hk
theorem Inv_i {n : Nat} {B : jB} (h : Inv n B) {k : Nat} (hk : (k : Int) < (B 16 1).toInt) : IInv B k := h.2.2.2.2.1 k hk
theorem Inv_r {n : Nat} {B : jB} (h : Inv n B) : (1036831949 ≤ (B 15 0).toInt ∧ (B 15 0).toInt ≤ 1065353216) ∧ (0 ≤ (B 15 1).toInt ∧ (B 15 1).toInt ≤ 1028443341) ∧ (0 ≤ (B 15 2).toInt ∧ (B 15 2).toInt ≤ 1056964608) := h.2.2.2.2.2
theorem has3_cases {n : Nat} {B : jB} (I : Inv n B) (i : Int32) : (r_X3_has B i = 0 ∧ ¬ (0 ≤ i.toInt ∧ i.toInt < (B 16 1).toInt)) ∨ (r_X3_has B i = 1 ∧ 0 ≤ i.toInt ∧ i.toInt < (B 16 1).toInt) := by
  have h := Inv_s I
  unfold r_X3_has
  have z : (0 : Int32).toInt = 0 := rfl
  have z2 : (20 : Int32).toInt = 20 := rfl
  by_cases h1 : i < 0
  · rw [if_pos h1]; left; rw [i_lt] at h1; exact ⟨rfl, by omega⟩
  · rw [if_neg h1]; rw [i_lt] at h1
    by_cases h2 : B 16 1 ≤ i
    · rw [if_pos h2]; left; rw [i_le] at h2; exact ⟨rfl, by omega⟩
    · rw [if_neg h2]; rw [i_le] at h2
      have h3 : ¬ ((20 : Int32) ≤ i) := by rw [i_le]; omega
      rw [if_neg h3]; right; exact ⟨rfl, by omega, by omega⟩
theorem has4_cases {n : Nat} {B : jB} (I : Inv n B) (i : Int32) : (r_X4_has B i = 0 ∧ ¬ (0 ≤ i.toInt ∧ i.toInt < (B 16 0).toInt)) ∨ (r_X4_has B i = 1 ∧ 0 ≤ i.toInt ∧ i.toInt < (B 16 0).toInt) := by
  have h := Inv_m I
  unfold r_X4_has
  have z : (0 : Int32).toInt = 0 := rfl
  have z2 : (8 : Int32).toInt = 8 := rfl
  by_cases h1 : i < 0
  · rw [if_pos h1]; left; rw [i_lt] at h1; exact ⟨rfl, by omega⟩
  · rw [if_neg h1]; rw [i_lt] at h1
    by_cases h2 : B 16 0 ≤ i
    · rw [if_pos h2]; left; rw [i_le] at h2; exact ⟨rfl, by omega⟩
    · rw [if_neg h2]; rw [i_le] at h2
      have h3 : ¬ ((8 : Int32) ≤ i) := by rw [i_le]; omega
      rw [if_neg h3]; right; exact ⟨rfl, by omega, by omega⟩
theorem has1_cases (B : jB) (i : Int32) : (r_X1_has B i = 0 ∧ ¬ (0 ≤ i.toInt ∧ i.toInt < 6)) ∨ (r_X1_has B i = 1 ∧ 0 ≤ i.toInt ∧ i.toInt < 6) := by
  unfold r_X1_has
  have z : (0 : Int32).toInt = 0 := rfl
  have z2 : (6 : Int32).toInt = 6 := rfl
  by_cases h1 : i < 0
  · rw [if_pos h1]; left; rw [i_lt] at h1; exact ⟨rfl, by omega⟩
  · rw [if_neg h1]; rw [i_lt] at h1
    by_cases h2 : (6 : Int32) ≤ i
    · rw [if_pos h2]; left; rw [i_le] at h2; exact ⟨rfl, by omega⟩
    · rw [if_neg h2]; rw [i_le] at h2; right; exact ⟨rfl, by omega, by omega⟩
theorem vpi_of {i : Int32} {n : Nat} (h0 : 0 ≤ i.toInt) (h1 : i.toInt < n) : vp_in i n := by
  unfold vp_in
  rw [i_lt, i_nat]
  have z : (0 : Int32).toInt = 0 := rfl
  omega
theorem nat_lt {i : Int32} {n : Nat} (h0 : 0 ≤ i.toInt) (h1 : i.toInt < n) : i.toNatClampNeg < n := by rw [i_nat]; omega
theorem nat_lt_i {i j : Int32} (h0 : 0 ≤ i.toInt) (h1 : i.toInt < j.toInt) : ((i.toNatClampNeg : Nat) : Int) < j.toInt := by rw [i_nat]; omega
/-- a sum over c places from k on -/
def fs (g : Nat → Int32) : Int32 → Nat → Nat → Int32
  | a, 0, _ => a
  | a, c + 1, k => fs g (a + g k) c (k + 1)
theorem fs_congr {g g' : Nat → Int32} : ∀ (c k : Nat) (a : Int32), (∀ j, k ≤ j → j < k + c → g j = g' j) → fs g a c k = fs g' a c k
  | 0, _, _, _ => rfl
  | c + 1, k, a, h => by
    show fs g (a + g k) c (k + 1) = fs g' (a + g' k) c (k + 1)
    rw [h k (Nat.le_refl _) (by omega)]
    exact fs_congr c (k + 1) _ fun j h1 h2 => h j (by omega) (by omega)
theorem ii_succ {x : Int32} (h : x.toInt < 2147483647) : (x + 1).toInt = x.toInt + 1 := by
  have := i_lo x
  have z : (1 : Int32).toInt = 1 := rfl
  rw [i_add] <;> rw [z] <;> omega
theorem nn_succ {x : Int32} (h0 : 0 ≤ x.toInt) (h : x.toInt < 2147483647) : (x + 1).toNatClampNeg = x.toNatClampNeg + 1 := by
  rw [i_nat, i_nat, ii_succ h]; omega
theorem loopA {α : Type} {L : Nat → Int32 → Int32 → α} {g : Nat → Int32} {fin : Int32 → α} {sz : Int32} (hsz : sz.toInt < 2147483647)
    (hstop : ∀ n a x, sz ≤ x → L (n + 1) a x = fin a) (hstep : ∀ n a x, 0 ≤ x.toInt → x.toInt < sz.toInt → L (n + 1) a x = L n (a + g x.toNatClampNeg) (x + 1)) :
    ∀ (c n : Nat) (a x : Int32), 0 ≤ x.toInt → x.toInt + c = sz.toInt → c ≤ n → L (n + 1) a x = fin (fs g a c x.toNatClampNeg)
  | 0, n, a, x, h0, h1, h2 => by rw [hstop n a x (by rw [i_le]; omega)]; rfl
  | c + 1, n, a, x, h0, h1, h2 => by
    obtain ⟨m, rfl⟩ : ∃ m, n = m + 1 := ⟨n - 1, by omega⟩
    rw [hstep _ a x h0 (by omega), loopA hsz hstop hstep c m _ (x + 1) (by rw [ii_succ (by omega)]; omega) (by rw [ii_succ (by omega)]; omega) (by omega), nn_succ h0 (by omega)]
    rfl
theorem loopT {α : Type} {L : Nat → Int32 → Int32 → α} {fin : Int32 → α} {sz top : Int32} (hT : top.toInt < 2147483647)
    (hstop : ∀ n a x, top ≤ x → L (n + 1) a x = fin a) (hskip : ∀ n a x, 0 ≤ x.toInt → sz.toInt ≤ x.toInt → x.toInt < top.toInt → L (n + 1) a x = L n a (x + 1)) :
    ∀ (d n : Nat) (a x : Int32), 0 ≤ x.toInt → sz.toInt ≤ x.toInt → x.toInt + d = top.toInt → d ≤ n → L (n + 1) a x = fin a
  | 0, n, a, x, h0, hs, h1, h2 => hstop n a x (by rw [i_le]; omega)
  | d + 1, n, a, x, h0, hs, h1, h2 => by
    obtain ⟨m, rfl⟩ : ∃ m, n = m + 1 := ⟨n - 1, by omega⟩
    rw [hskip _ a x h0 hs (by omega)]
    exact loopT hT hstop hskip d m a (x + 1) (by rw [ii_succ (by omega)]; omega) (by rw [ii_succ (by omega)]; omega) (by rw [ii_succ (by omega)]; omega) (by omega)
theorem loopB {α : Type} {L : Nat → Int32 → Int32 → α} {g : Nat → Int32} {fin : Int32 → α} {sz top : Int32} (hT : top.toInt < 2147483647) (hst : sz.toInt ≤ top.toInt)
    (hstop : ∀ n a x, top ≤ x → L (n + 1) a x = fin a) (hskip : ∀ n a x, 0 ≤ x.toInt → sz.toInt ≤ x.toInt → x.toInt < top.toInt → L (n + 1) a x = L n a (x + 1))
    (hstep : ∀ n a x, 0 ≤ x.toInt → x.toInt < sz.toInt → L (n + 1) a x = L n (a + g x.toNatClampNeg) (x + 1)) :
    ∀ (c n : Nat) (a x : Int32), 0 ≤ x.toInt → x.toInt + c = sz.toInt → top.toInt ≤ x.toInt + n → L (n + 1) a x = fin (fs g a c x.toNatClampNeg)
  | 0, n, a, x, h0, h1, h2 => by
    rw [loopT hT hstop hskip (top.toInt - x.toInt).toNat n a x h0 (by omega) (by omega) (by omega)]; rfl
  | c + 1, n, a, x, h0, h1, h2 => by
    obtain ⟨m, rfl⟩ : ∃ m, n = m + 1 := ⟨n - 1, by omega⟩
    rw [hstep _ a x h0 (by omega), loopB hT hst hstop hskip hstep c m _ (x + 1) (by rw [ii_succ (by omega)]; omega) (by rw [ii_succ (by omega)]; omega) (by rw [ii_succ (by omega)]; omega), nn_succ h0 (by omega)]
    rfl
theorem has3_1 {n : Nat} {B : jB} (I : Inv n B) {i : Int32} (h0 : 0 ≤ i.toInt) (h1 : i.toInt < (B 16 1).toInt) : r_X3_has B i = 1 := by
  rcases has3_cases I i with h | h
  · exact absurd ⟨h0, h1⟩ h.2
  · exact h.1
theorem has3_0 {n : Nat} {B : jB} (I : Inv n B) {i : Int32} (h1 : (B 16 1).toInt ≤ i.toInt) : r_X3_has B i = 0 := by
  rcases has3_cases I i with h | h
  · exact h.1
  · exact absurd h.2.2 (by omega)
theorem has4_1 {n : Nat} {B : jB} (I : Inv n B) {i : Int32} (h0 : 0 ≤ i.toInt) (h1 : i.toInt < (B 16 0).toInt) : r_X4_has B i = 1 := by
  rcases has4_cases I i with h | h
  · exact absurd ⟨h0, h1⟩ h.2
  · exact h.1
theorem has4_0 {n : Nat} {B : jB} (I : Inv n B) {i : Int32} (h1 : (B 16 0).toInt ≤ i.toInt) : r_X4_has B i = 0 := by
  rcases has4_cases I i with h | h
  · exact h.1
  · exact absurd h.2.2 (by omega)
theorem has1_1 (B : jB) {i : Int32} (h0 : 0 ≤ i.toInt) (h1 : i.toInt < 6) : r_X1_has B i = 1 := by
  rcases has1_cases B i with h | h
  · exact absurd ⟨h0, h1⟩ h.2
  · exact h.1
theorem one_ne : ¬ ((1 : Int32) = 0) := by decide
theorem sz_toNat {B : jB} {r k t : Nat} (h0 : 0 ≤ (B r k).toInt) (h1 : (B r k).toInt ≤ t) : (0 : Int32).toInt + (((B r k).toInt.toNat : Nat) : Int) = (B r k).toInt := by
  have z : (0 : Int32).toInt = 0 := rfl
  omega
theorem e_allDues4 {n : Nat} {B : jB} (I : Inv n B) : r_X4_allDues B = fs (fun k => B 1 k) 0 (B 16 0).toInt.toNat 0 := by
  have hm := Inv_m I
  unfold r_X4_allDues
  have z : (8 : Int32).toInt = 8 := rfl
  refine loopB (L := L_X4_allDues_4 B) (g := fun k => B 1 k) (fin := fun a => a) (sz := B 16 0) (top := 8) (by decide) (by omega) ?_ ?_ ?_ _ 8 0 0 (by decide) (sz_toNat hm.1 hm.2) (by decide)
  · intro n a x hx; rw [L_X4_allDues_4, if_pos hx]
  · intro n a x h0 h1 h2
    rw [L_X4_allDues_4, if_neg (by rw [i_le]; omega), if_pos (has4_0 I h1)]
  · intro n a x h0 h1
    rw [L_X4_allDues_4, if_neg (by rw [i_le]; omega), if_neg (by rw [has4_1 I h0 h1]; exact one_ne)]
theorem e_allWeights4 {n : Nat} {B : jB} (I : Inv n B) : r_X4_allWeights B = fs (fun k => B 0 k) 0 (B 16 0).toInt.toNat 0 := by
  have hm := Inv_m I
  unfold r_X4_allWeights
  have z : (8 : Int32).toInt = 8 := rfl
  refine loopB (L := L_X4_allWeights_4 B) (g := fun k => B 0 k) (fin := fun a => a) (sz := B 16 0) (top := 8) (by decide) (by omega) ?_ ?_ ?_ _ 8 0 0 (by decide) (sz_toNat hm.1 hm.2) (by decide)
  · intro n a x hx; rw [L_X4_allWeights_4, if_pos hx]
  · intro n a x h0 h1 h2
    rw [L_X4_allWeights_4, if_neg (by rw [i_le]; omega), if_pos (has4_0 I h1)]
  · intro n a x h0 h1
    rw [L_X4_allWeights_4, if_neg (by rw [i_le]; omega), if_neg (by rw [has4_1 I h0 h1]; exact one_ne)]
theorem late_pos {B : jB} {i : Int32} (days : Int32) : 0 ≤ (r_X0_lateAfter B i days).toInt := by
  unfold r_X0_lateAfter
  have z : (0 : Int32).toInt = 0 := rfl
  by_cases h : r_X0_ageOf B i + days ≤ 0
  · rw [if_pos h]; decide
  · rw [if_neg h]; rw [i_le] at h; omega
theorem st_cases {n : Nat} {B : jB} (I : Inv n B) {i : Int32} (h0 : 0 ≤ i.toInt) (h1 : i.toInt < (B 16 1).toInt) : 0 ≤ (B 11 i.toNatClampNeg).toInt ∧ (B 11 i.toNatClampNeg).toInt ≤ 3 :=
  (Inv_i I (nat_lt_i h0 h1)).2.2.2.1
theorem unset_cases {n : Nat} {B : jB} (I : Inv n B) {i : Int32} (h0 : 0 ≤ i.toInt) (h1 : i.toInt < (B 16 1).toInt) : (r_X3_isUnsettled B i = 0 ∧ 2 ≤ (B 11 i.toNatClampNeg).toInt) ∨ (r_X3_isUnsettled B i = 1 ∧ (B 11 i.toNatClampNeg).toInt ≤ 1) := by
  have hst := st_cases I h0 h1
  unfold r_X3_isUnsettled
  rw [if_neg (show ¬ (r_X3_has B i = 0) by rw [has3_1 I h0 h1]; exact one_ne)]
  have z : (0 : Int32).toInt = 0 := rfl
  have z1 : (1 : Int32).toInt = 1 := rfl
  simp only [i_eq, z, z1]
  by_cases a : (B 11 i.toNatClampNeg).toInt = 0
  · rw [if_pos a]; right; exact ⟨z1, by omega⟩
  · rw [if_neg a]
    by_cases b : (B 11 i.toNatClampNeg).toInt = 1
    · rw [if_pos b]; right; exact ⟨z1, by omega⟩
    · rw [if_neg b]; left; exact ⟨z, by omega⟩
theorem add_zero32 (a : Int32) : a + 0 = a := by grind
theorem st_k {n : Nat} {B : jB} (I : Inv n B) {k : Nat} (hk : k < (B 16 1).toInt.toNat) : 0 ≤ (B 11 k).toInt ∧ (B 11 k).toInt ≤ 3 := (Inv_i I (k := k) (by omega)).2.2.2.1
