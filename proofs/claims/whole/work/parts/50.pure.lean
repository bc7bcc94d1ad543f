theorem up2_at (B : jB) (r k : Nat) (v : Int32) (r1 k1 : Nat) : up2 B r k v r1 k1 = if r1 = r ∧ k1 = k then v else B r1 k1 := by
  unfold up2 upd
  by_cases h : r1 = r
  · subst h
    simp [Nat.beq_eq_true_eq]
  · have : Nat.beq r1 r = false := by
      cases hb : Nat.beq r1 r with
      | false => rfl
      | true => exact absurd (Nat.eq_of_beq_eq_true hb) h
    simp [this, h]
theorem up1_at (K : Nat → jB) (b : Nat) (B : jB) (b1 : Nat) : up1 K b B b1 = if b1 = b then B else K b1 := by
  unfold up1
  by_cases h : b1 = b
  · subst h
    simp [Nat.beq_eq_true_eq]
  · have : Nat.beq b1 b = false := by
      cases hb : Nat.beq b1 b with
      | false => rfl
      | true => exact absurd (Nat.eq_of_beq_eq_true hb) h
    simp [this, h]
theorem up3_at (K : Nat → jB) (b r k : Nat) (v : Int32) (b1 : Nat) : up3 K b r k v b1 = if b1 = b then up2 (K b) r k v else K b1 := up1_at K b (up2 (K b) r k v) b1
theorem up2_row (B : jB) (r k : Nat) (v : Int32) : up2 B r k v r = upd (B r) k v := by
  funext k1; rw [up2_at]; simp [upd]
theorem up2_row_ne {r r1 : Nat} (h : r1 ≠ r) (B : jB) (k : Nat) (v : Int32) : up2 B r k v r1 = B r1 := by
  funext k1; rw [up2_at]; simp [h]
def rowOf (p : Nat) : Nat := if p < 14 then (if p < 2 then 16 else if p < 5 then 15 else if p < 8 then 14 else 16) else if p < 46 then (p - 14) % 4 else if p < 64 then 4 + (p - 46) % 3 else 7 + (p - 64) % 7
def idxOf (p : Nat) : Nat := if p < 14 then (if p < 2 then p + 2 else if p < 5 then p - 2 else if p < 8 then p - 5 else if p < 10 then p - 8 else p - 6) else if p < 46 then (p - 14) / 4 else if p < 64 then (p - 46) / 3 else (p - 64) / 7
def posOf (r k : Nat) : Nat := if r < 4 then 14 + 4 * k + r else if r < 7 then 46 + 3 * k + (r - 4) else if r < 14 then 64 + 7 * k + (r - 7) else if r = 14 then 5 + k else if r = 15 then 2 + k else if k < 2 then k + 8 else if k < 4 then k - 2 else k + 6
def vld (r k : Nat) : Prop := (r < 4 ∧ k < 8) ∨ (4 ≤ r ∧ r < 7 ∧ k < 6) ∨ (7 ≤ r ∧ r < 14 ∧ k < 20) ∨ (14 ≤ r ∧ r < 16 ∧ k < 3) ∨ (r = 16 ∧ k < 8)
theorem pos_rowidx : ∀ p, p < 204 → posOf (rowOf p) (idxOf p) = p := by decide +kernel
theorem vld_rowidx : ∀ p, p < 204 → vld (rowOf p) (idxOf p) := by
  intro p hp; unfold vld rowOf idxOf
  repeat' split
  all_goals omega
theorem pos_lt {r k : Nat} (h : vld r k) : posOf r k < 204 := by
  unfold vld at h; unfold posOf
  repeat' split
  all_goals omega
def vldB (r k : Nat) : Bool := (Nat.blt r 4 && Nat.blt k 8) || (Nat.ble 4 r && Nat.blt r 7 && Nat.blt k 6) || (Nat.ble 7 r && Nat.blt r 14 && Nat.blt k 20) || (Nat.ble 14 r && Nat.blt r 16 && Nat.blt k 3) || (Nat.beq r 16 && Nat.blt k 8)
theorem ri_posB : ∀ r, r < 17 → ∀ k, k < 20 → (!(vldB r k) || (Nat.beq (rowOf (posOf r k)) r && Nat.beq (idxOf (posOf r k)) k)) = true := by decide +kernel
theorem vldB_of {r k : Nat} (h : vld r k) : vldB r k = true := by
  unfold vld at h; unfold vldB; simp only [Bool.or_eq_true, Bool.and_eq_true, Nat.blt_eq, Nat.ble_eq, Nat.beq_eq]; omega
theorem vld_b {r k : Nat} (h : vld r k) : r < 17 ∧ k < 20 := by unfold vld at h; omega
theorem ri_pos0 {r k : Nat} (h : vld r k) : rowOf (posOf r k) = r ∧ idxOf (posOf r k) = k := by
  have h1 := ri_posB r (vld_b h).1 k (vld_b h).2
  rw [vldB_of h] at h1
  simpa using h1
theorem row_pos {r k : Nat} (h : vld r k) : rowOf (posOf r k) = r := (ri_pos0 h).1
theorem idx_pos {r k : Nat} (h : vld r k) : idxOf (posOf r k) = k := (ri_pos0 h).2
/-- the reference's row s holds what the book B holds -/
def LB (s : Nat → Int32) (B : jB) : Prop := ∀ p, p < 204 → s p = B (rowOf p) (idxOf p)
theorem LB_rd {s : Nat → Int32} {B : jB} (h : LB s B) {r k : Nat} (hv : vld r k) : s (posOf r k) = B r k := by
  rw [h _ (pos_lt hv), row_pos hv, idx_pos hv]
theorem LB_up {s : Nat → Int32} {B : jB} (h : LB s B) {r k p : Nat} (v : Int32) (hv : vld r k) (hp : p = posOf r k) : LB (upd s p v) (up2 B r k v) := by
  intro q hq
  rw [up2_at]
  unfold upd
  by_cases e : q = p
  · subst e
    subst hp
    simp [row_pos hv, idx_pos hv]
  · have : ¬ (rowOf q = r ∧ idxOf q = k) := by
      intro hh
      apply e
      rw [hp, ← hh.1, ← hh.2, pos_rowidx q hq]
    simp [e, this, h q hq]
theorem LB_up2 {M : jB} {B : jB} (h : LB (M 0) B) {r k p : Nat} {v v2 : Int32} (hv : vld r k) (hp : p = posOf r k) (he : v = v2) : LB ((up2 M 0 p v) 0) (up2 B r k v2) := by
  subst he
  rw [up2_row]
  exact LB_up h v hv hp
theorem LB_ext {s : Nat → Int32} {B C : jB} (h : LB s B) (e : ∀ r k, vld r k → B r k = C r k) : LB s C := by
  intro p hp
  rw [h p hp, e _ _ (vld_rowidx p hp)]
theorem tn0 : (0 : Int32).toNatClampNeg = 0 := rfl
theorem tn1 : (1 : Int32).toNatClampNeg = 1 := rfl
theorem tn2 : (2 : Int32).toNatClampNeg = 2 := rfl
theorem tn3 : (3 : Int32).toNatClampNeg = 3 := rfl
theorem tn4 : (4 : Int32).toNatClampNeg = 4 := rfl
theorem tn5 : (5 : Int32).toNatClampNeg = 5 := rfl
theorem tn6 : (6 : Int32).toNatClampNeg = 6 := rfl
theorem tn7 : (7 : Int32).toNatClampNeg = 7 := rfl
theorem tn8 : (8 : Int32).toNatClampNeg = 8 := rfl
theorem tn9 : (9 : Int32).toNatClampNeg = 9 := rfl
theorem tn10 : (10 : Int32).toNatClampNeg = 10 := rfl
theorem tn11 : (11 : Int32).toNatClampNeg = 11 := rfl
theorem tn12 : (12 : Int32).toNatClampNeg = 12 := rfl
theorem tn13 : (13 : Int32).toNatClampNeg = 13 := rfl
theorem i_le {a b : Int32} : a ≤ b ↔ a.toInt ≤ b.toInt := Int32.le_iff_toInt_le
theorem i_lt {a b : Int32} : a < b ↔ a.toInt < b.toInt := Int32.lt_iff_toInt_lt
theorem i_eq {a b : Int32} : a = b ↔ a.toInt = b.toInt := ⟨fun h => by rw [h], fun h => Int32.toInt.inj h⟩
theorem i_lo (a : Int32) : -2147483648 ≤ a.toInt := Int32.le_toInt a
theorem i_hi (a : Int32) : a.toInt < 2147483648 := Int32.toInt_lt a
theorem i_nat (a : Int32) : a.toNatClampNeg = a.toInt.toNat := rfl
theorem i_add {a b : Int32} (h1 : -2147483648 ≤ a.toInt + b.toInt) (h2 : a.toInt + b.toInt < 2147483648) : (a + b).toInt = a.toInt + b.toInt := by
  rw [Int32.toInt_add]; exact Int.bmod_eq_of_le (by omega) (by omega)
theorem i_sub {a b : Int32} (h1 : -2147483648 ≤ a.toInt - b.toInt) (h2 : a.toInt - b.toInt < 2147483648) : (a - b).toInt = a.toInt - b.toInt := by
  rw [Int32.toInt_sub]; exact Int.bmod_eq_of_le (by omega) (by omega)
theorem i_mul {a b : Int32} (h1 : -2147483648 ≤ a.toInt * b.toInt) (h2 : a.toInt * b.toInt < 2147483648) : (a * b).toInt = a.toInt * b.toInt := by
  rw [Int32.toInt_mul]; exact Int.bmod_eq_of_le (by omega) (by omega)
theorem lit (n : Nat) (h : n < 2147483648) : (OfNat.ofNat n : Int32).toInt = n := by
  have : (Int32.ofNat n).toInt = n := Int32.toInt_ofNat_of_lt h
  exact this
