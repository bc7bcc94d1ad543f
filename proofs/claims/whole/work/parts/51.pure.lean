def IInv (B : jB) (k : Nat) : Prop := (0 ≤ (B 7 k).toInt ∧ (B 7 k).toInt < (B 16 0).toInt) ∧ (0 ≤ (B 8 k).toInt ∧ (B 8 k).toInt ≤ 5) ∧ (100 ≤ (B 9 k).toInt ∧ (B 9 k).toInt ≤ 1000000) ∧ (0 ≤ (B 11 k).toInt ∧ (B 11 k).toInt ≤ 3) ∧ (0 ≤ (B 12 k).toInt ∧ (B 12 k).toInt ≤ (B 9 k).toInt) ∧ (0 ≤ (B 13 k).toInt ∧ (B 13 k).toInt ≤ (B 9 k).toInt)
/-- what holds of a book after n calls -/
def Inv (n : Nat) (B : jB) : Prop :=
  (0 ≤ (B 16 0).toInt ∧ (B 16 0).toInt ≤ 8) ∧ (0 ≤ (B 16 1).toInt ∧ (B 16 1).toInt ≤ 20)
  ∧ (∀ k : Nat, (k : Int) < (B 16 0).toInt → 1 ≤ (B 0 k).toInt ∧ (B 0 k).toInt ≤ 9)
  ∧ (∀ k : Nat, k < 6 → (0 ≤ (B 4 k).toInt ∧ (B 4 k).toInt ≤ 64 * (n : Int)) ∧ (0 ≤ (B 5 k).toInt ∧ (B 5 k).toInt ≤ (n : Int)))
  ∧ (∀ k : Nat, (k : Int) < (B 16 1).toInt → IInv B k)
  ∧ (1036831949 ≤ (B 15 0).toInt ∧ (B 15 0).toInt ≤ 1065353216) ∧ (0 ≤ (B 15 1).toInt ∧ (B 15 1).toInt ≤ 1028443341) ∧ (0 ≤ (B 15 2).toInt ∧ (B 15 2).toInt ≤ 1056964608)
theorem Inv_mono {n n' : Nat} {B : jB} (h : Inv n B) (hn : n ≤ n') : Inv n' B := by
  obtain ⟨h1, h2, h3, h4, h5, h6⟩ := h
  refine ⟨h1, h2, h3, fun k hk => ?_, h5, h6⟩
  have := h4 k hk
  omega
theorem Inv_m {n : Nat} {B : jB} (h : Inv n B) : 0 ≤ (B 16 0).toInt ∧ (B 16 0).toInt ≤ 8 := h.1
theorem Inv_s {n : Nat} {B : jB} (h : Inv n B) : 0 ≤ (B 16 1).toInt ∧ (B 16 1).toInt ≤ 20 := h.2.1
theorem Inv_w {n : Nat} {B : jB} (h : Inv n B) {k : Nat} (hk : (k : Int) < (B 16 0).toInt) : 1 ≤ (B 0 k).toInt ∧ (B 0 k).toInt ≤ 9 := h.2.2.1 k hk
theorem Inv_c {n : Nat} {B : jB} (h : Inv n B) {k : Nat} (hk : k < 6) : (0 ≤ (B 4 k).toInt ∧ (B 4 k).toInt ≤ 64 * (n : Int)) ∧ (0 ≤ (B 5 k).toInt ∧ (B 5 k).toInt ≤ (n : Int)) := h.2.2.2.1 k hk
theorem Inv_i {n : Nat} {B : jB} (h : Inv n B) {k : Nat} (hk : (k : Int) < (B 16 1).toInt) : IInv B k := h.2.2.2.2.1 k hk
theorem Inv_r {n : Nat} {B : jB} (h : Inv n B) : (1036831949 ≤ (B 15 0).toInt ∧ (B 15 0).toInt ≤ 1065353216) ∧ (0 ≤ (B 15 1).toInt ∧ (B 15 1).toInt ≤ 1028443341) ∧ (0 ≤ (B 15 2).toInt ∧ (B 15 2).toInt ≤ 1056964608) := h.2.2.2.2.2
theorem in_cases (v lo hi : Int32) : (r_X8_in v lo hi = 0 ∧ ¬ (lo.toInt ≤ v.toInt ∧ v.toInt ≤ hi.toInt)) ∨ (r_X8_in v lo hi = 1 ∧ lo.toInt ≤ v.toInt ∧ v.toInt ≤ hi.toInt) := by
  unfold r_X8_in
  by_cases h1 : v < lo
  · rw [if_pos h1]; left; rw [i_lt] at h1; exact ⟨rfl, by omega⟩
  · rw [if_neg h1]
    by_cases h2 : hi < v
    · rw [if_pos h2]; left; rw [i_lt] at h2; exact ⟨rfl, by omega⟩
    · rw [if_neg h2]; right; rw [i_lt] at h1 h2; exact ⟨rfl, by omega, by omega⟩
theorem has3_cases {n : Nat} {B : jB} (I : Inv n B) (i : Int32) : (r_X3_has B i = 0 ∧ ¬ (0 ≤ i.toInt ∧ i.toInt < (B 16 1).toInt)) ∨ (r_X3_has B i = 1 ∧ 0 ≤ i.toInt ∧ i.toInt < (B 16 1).toInt) := by
  have h := Inv_s I
  unfold r_X3_has
  have z : (0 : Int32).toInt = 0 := rfl
  have z2 : (20 : Int32).toInt = 20 := rfl
  by_cases h1 : i < 0
  · rw [if_pos h1]; left; rw [i_lt] at h1; exact ⟨rfl, by omega⟩
  · rw [if_neg h1]; rw [i_lt] at h1
    by_cases h2 : B 16 1 ≤ i
    · rw [if_pos h2]; left; rw [i_le] at h2; exact ⟨rfl, by omega⟩
    · rw [if_neg h2]; rw [i_le] at h2
      have h3 : ¬ ((20 : Int32) ≤ i) := by rw [i_le]; omega
      rw [if_neg h3]; right; exact ⟨rfl, by omega, by omega⟩
theorem has4_cases {n : Nat} {B : jB} (I : Inv n B) (i : Int32) : (r_X4_has B i = 0 ∧ ¬ (0 ≤ i.toInt ∧ i.toInt < (B 16 0).toInt)) ∨ (r_X4_has B i = 1 ∧ 0 ≤ i.toInt ∧ i.toInt < (B 16 0).toInt) := by
  have h := Inv_m I
  unfold r_X4_has
  have z : (0 : Int32).toInt = 0 := rfl
  have z2 : (8 : Int32).toInt = 8 := rfl
  by_cases h1 : i < 0
  · rw [if_pos h1]; left; rw [i_lt] at h1; exact ⟨rfl, by omega⟩
  · rw [if_neg h1]; rw [i_lt] at h1
    by_cases h2 : B 16 0 ≤ i
    · rw [if_pos h2]; left; rw [i_le] at h2; exact ⟨rfl, by omega⟩
    · rw [if_neg h2]; rw [i_le] at h2
      have h3 : ¬ ((8 : Int32) ≤ i) := by rw [i_le]; omega
      rw [if_neg h3]; right; exact ⟨rfl, by omega, by omega⟩
theorem has1_cases (B : jB) (i : Int32) : (r_X1_has B i = 0 ∧ ¬ (0 ≤ i.toInt ∧ i.toInt < 6)) ∨ (r_X1_has B i = 1 ∧ 0 ≤ i.toInt ∧ i.toInt < 6) := by
  unfold r_X1_has
  have z : (0 : Int32).toInt = 0 := rfl
  have z2 : (6 : Int32).toInt = 6 := rfl
  by_cases h1 : i < 0
  · rw [if_pos h1]; left; rw [i_lt] at h1; exact ⟨rfl, by omega⟩
  · rw [if_neg h1]; rw [i_lt] at h1
    by_cases h2 : (6 : Int32) ≤ i
    · rw [if_pos h2]; left; rw [i_le] at h2; exact ⟨rfl, by omega⟩
    · rw [if_neg h2]; rw [i_le] at h2; right; exact ⟨rfl, by omega, by omega⟩
theorem of_pos {i w : Int32} (h0 : 0 ≤ i.toInt) (h1 : i.toInt < 20) (w0 : 0 ≤ w.toInt) (w1 : w.toInt ≤ 6) : (r_X8_of i w).toNatClampNeg = 64 + 7 * i.toNatClampNeg + w.toNatClampNeg := by
  unfold r_X8_of
  have z1 : (64 : Int32).toInt = 64 := rfl
  have z2 : (7 : Int32).toInt = 7 := rfl
  have a : ((7 : Int32) * i).toInt = 7 * i.toInt := by rw [i_mul] <;> rw [z2] <;> omega
  have b : ((64 : Int32) + 7 * i).toInt = 64 + 7 * i.toInt := by rw [i_add] <;> rw [z1, a] <;> omega
  have c : (((64 : Int32) + 7 * i) + w).toInt = 64 + 7 * i.toInt + w.toInt := by rw [i_add] <;> rw [b] <;> omega
  simp only [i_nat]
  rw [c]; omega
theorem ofM_pos {i w : Int32} (h0 : 0 ≤ i.toInt) (h1 : i.toInt < 8) (w0 : 0 ≤ w.toInt) (w1 : w.toInt ≤ 3) : (r_X8_ofMember i w).toNatClampNeg = 14 + 4 * i.toNatClampNeg + w.toNatClampNeg := by
  unfold r_X8_ofMember
  have z1 : (14 : Int32).toInt = 14 := rfl
  have z2 : (4 : Int32).toInt = 4 := rfl
  have a : ((4 : Int32) * i).toInt = 4 * i.toInt := by rw [i_mul] <;> rw [z2] <;> omega
  have b : ((14 : Int32) + 4 * i).toInt = 14 + 4 * i.toInt := by rw [i_add] <;> rw [z1, a] <;> omega
  have c : (((14 : Int32) + 4 * i) + w).toInt = 14 + 4 * i.toInt + w.toInt := by rw [i_add] <;> rw [b] <;> omega
  simp only [i_nat]
  rw [c]; omega
theorem ofC_pos {i w : Int32} (h0 : 0 ≤ i.toInt) (h1 : i.toInt < 6) (w0 : 0 ≤ w.toInt) (w1 : w.toInt ≤ 2) : (r_X8_ofClient i w).toNatClampNeg = 46 + 3 * i.toNatClampNeg + w.toNatClampNeg := by
  unfold r_X8_ofClient
  have z1 : (46 : Int32).toInt = 46 := rfl
  have z2 : (3 : Int32).toInt = 3 := rfl
  have a : ((3 : Int32) * i).toInt = 3 * i.toInt := by rw [i_mul] <;> rw [z2] <;> omega
  have b : ((46 : Int32) + 3 * i).toInt = 46 + 3 * i.toInt := by rw [i_add] <;> rw [z1, a] <;> omega
  have c : (((46 : Int32) + 3 * i) + w).toInt = 46 + 3 * i.toInt + w.toInt := by rw [i_add] <;> rw [b] <;> omega
  simp only [i_nat]
  rw [c]; omega
theorem ofC_toInt {i w : Int32} (h0 : 0 ≤ i.toInt) (h1 : i.toInt < 6) (w0 : 0 ≤ w.toInt) (w1 : w.toInt ≤ 2) : (r_X8_ofClient i w).toInt = 46 + 3 * i.toInt + w.toInt := by
  unfold r_X8_ofClient
  have z1 : (46 : Int32).toInt = 46 := rfl
  have z2 : (3 : Int32).toInt = 3 := rfl
  have a : ((3 : Int32) * i).toInt = 3 * i.toInt := by rw [i_mul] <;> rw [z2] <;> omega
  have b : ((46 : Int32) + 3 * i).toInt = 46 + 3 * i.toInt := by rw [i_add] <;> rw [z1, a] <;> omega
  rw [i_add] <;> rw [b] <;> omega
theorem ofM_toInt {i w : Int32} (h0 : 0 ≤ i.toInt) (h1 : i.toInt < 8) (w0 : 0 ≤ w.toInt) (w1 : w.toInt ≤ 3) : (r_X8_ofMember i w).toInt = 14 + 4 * i.toInt + w.toInt := by
  unfold r_X8_ofMember
  have z1 : (14 : Int32).toInt = 14 := rfl
  have z2 : (4 : Int32).toInt = 4 := rfl
  have a : ((4 : Int32) * i).toInt = 4 * i.toInt := by rw [i_mul] <;> rw [z2] <;> omega
  have b : ((14 : Int32) + 4 * i).toInt = 14 + 4 * i.toInt := by rw [i_add] <;> rw [z1, a] <;> omega
  rw [i_add] <;> rw [b] <;> omega
theorem vpi_of {i : Int32} {n : Nat} (h0 : 0 ≤ i.toInt) (h1 : i.toInt < n) : vp_in i n := by
  unfold vp_in
  rw [i_lt, i_nat]
  have z : (0 : Int32).toInt = 0 := rfl
  omega
theorem nat_lt {i : Int32} {n : Nat} (h0 : 0 ≤ i.toInt) (h1 : i.toInt < n) : i.toNatClampNeg < n := by rw [i_nat]; omega
theorem nat_lt_i {i j : Int32} (h0 : 0 ≤ i.toInt) (h1 : i.toInt < j.toInt) : ((i.toNatClampNeg : Nat) : Int) < j.toInt := by rw [i_nat]; omega
theorem pI0 {i : Int32} (h0 : 0 ≤ i.toInt) (h1 : i.toInt < 20) : (r_X8_of i (0 : Int32)).toNatClampNeg = posOf 7 i.toNatClampNeg := by rw [of_pos h0 h1 (by decide) (by decide), tn0]; unfold posOf; simp
theorem vI0 {i : Int32} (h0 : 0 ≤ i.toInt) (h1 : i.toInt < 20) : vld 7 i.toNatClampNeg := by have := nat_lt (n := 20) h0 h1; unfold vld; omega
theorem rI0 {M B : jB} (h : LB (M 0) B) {i : Int32} (h0 : 0 ≤ i.toInt) (h1 : i.toInt < 20) : M 0 (r_X8_of i (0 : Int32)).toNatClampNeg = B 7 i.toNatClampNeg := by rw [pI0 h0 h1]; exact LB_rd h (vI0 h0 h1)
theorem pI1 {i : Int32} (h0 : 0 ≤ i.toInt) (h1 : i.toInt < 20) : (r_X8_of i (1 : Int32)).toNatClampNeg = posOf 8 i.toNatClampNeg := by rw [of_pos h0 h1 (by decide) (by decide), tn1]; unfold posOf; simp
theorem vI1 {i : Int32} (h0 : 0 ≤ i.toInt) (h1 : i.toInt < 20) : vld 8 i.toNatClampNeg := by have := nat_lt (n := 20) h0 h1; unfold vld; omega
theorem rI1 {M B : jB} (h : LB (M 0) B) {i : Int32} (h0 : 0 ≤ i.toInt) (h1 : i.toInt < 20) : M 0 (r_X8_of i (1 : Int32)).toNatClampNeg = B 8 i.toNatClampNeg := by rw [pI1 h0 h1]; exact LB_rd h (vI1 h0 h1)
theorem pI2 {i : Int32} (h0 : 0 ≤ i.toInt) (h1 : i.toInt < 20) : (r_X8_of i (2 : Int32)).toNatClampNeg = posOf 9 i.toNatClampNeg := by rw [of_pos h0 h1 (by decide) (by decide), tn2]; unfold posOf; simp
theorem vI2 {i : Int32} (h0 : 0 ≤ i.toInt) (h1 : i.toInt < 20) : vld 9 i.toNatClampNeg := by have := nat_lt (n := 20) h0 h1; unfold vld; omega
theorem rI2 {M B : jB} (h : LB (M 0) B) {i : Int32} (h0 : 0 ≤ i.toInt) (h1 : i.toInt < 20) : M 0 (r_X8_of i (2 : Int32)).toNatClampNeg = B 9 i.toNatClampNeg := by rw [pI2 h0 h1]; exact LB_rd h (vI2 h0 h1)
theorem pI3 {i : Int32} (h0 : 0 ≤ i.toInt) (h1 : i.toInt < 20) : (r_X8_of i (3 : Int32)).toNatClampNeg = posOf 10 i.toNatClampNeg := by rw [of_pos h0 h1 (by decide) (by decide), tn3]; unfold posOf; simp
theorem vI3 {i : Int32} (h0 : 0 ≤ i.toInt) (h1 : i.toInt < 20) : vld 10 i.toNatClampNeg := by have := nat_lt (n := 20) h0 h1; unfold vld; omega
theorem rI3 {M B : jB} (h : LB (M 0) B) {i : Int32} (h0 : 0 ≤ i.toInt) (h1 : i.toInt < 20) : M 0 (r_X8_of i (3 : Int32)).toNatClampNeg = B 10 i.toNatClampNeg := by rw [pI3 h0 h1]; exact LB_rd h (vI3 h0 h1)
theorem pI4 {i : Int32} (h0 : 0 ≤ i.toInt) (h1 : i.toInt < 20) : (r_X8_of i (4 : Int32)).toNatClampNeg = posOf 11 i.toNatClampNeg := by rw [of_pos h0 h1 (by decide) (by decide), tn4]; unfold posOf; simp
theorem vI4 {i : Int32} (h0 : 0 ≤ i.toInt) (h1 : i.toInt < 20) : vld 11 i.toNatClampNeg := by have := nat_lt (n := 20) h0 h1; unfold vld; omega
theorem rI4 {M B : jB} (h : LB (M 0) B) {i : Int32} (h0 : 0 ≤ i.toInt) (h1 : i.toInt < 20) : M 0 (r_X8_of i (4 : Int32)).toNatClampNeg = B 11 i.toNatClampNeg := by rw [pI4 h0 h1]; exact LB_rd h (vI4 h0 h1)
theorem pI5 {i : Int32} (h0 : 0 ≤ i.toInt) (h1 : i.toInt < 20) : (r_X8_of i (5 : Int32)).toNatClampNeg = posOf 12 i.toNatClampNeg := by rw [of_pos h0 h1 (by decide) (by decide), tn5]; unfold posOf; simp
theorem vI5 {i : Int32} (h0 : 0 ≤ i.toInt) (h1 : i.toInt < 20) : vld 12 i.toNatClampNeg := by have := nat_lt (n := 20) h0 h1; unfold vld; omega
theorem rI5 {M B : jB} (h : LB (M 0) B) {i : Int32} (h0 : 0 ≤ i.toInt) (h1 : i.toInt < 20) : M 0 (r_X8_of i (5 : Int32)).toNatClampNeg = B 12 i.toNatClampNeg := by rw [pI5 h0 h1]; exact LB_rd h (vI5 h0 h1)
theorem pI6 {i : Int32} (h0 : 0 ≤ i.toInt) (h1 : i.toInt < 20) : (r_X8_of i (6 : Int32)).toNatClampNeg = posOf 13 i.toNatClampNeg := by rw [of_pos h0 h1 (by decide) (by decide), tn6]; unfold posOf; simp
theorem vI6 {i : Int32} (h0 : 0 ≤ i.toInt) (h1 : i.toInt < 20) : vld 13 i.toNatClampNeg := by have := nat_lt (n := 20) h0 h1; unfold vld; omega
theorem rI6 {M B : jB} (h : LB (M 0) B) {i : Int32} (h0 : 0 ≤ i.toInt) (h1 : i.toInt < 20) : M 0 (r_X8_of i (6 : Int32)).toNatClampNeg = B 13 i.toNatClampNeg := by rw [pI6 h0 h1]; exact LB_rd h (vI6 h0 h1)
theorem pM0 {i : Int32} (h0 : 0 ≤ i.toInt) (h1 : i.toInt < 8) : (r_X8_ofMember i (0 : Int32)).toNatClampNeg = posOf 0 i.toNatClampNeg := by rw [ofM_pos h0 h1 (by decide) (by decide), tn0]; unfold posOf; simp
theorem vM0 {i : Int32} (h0 : 0 ≤ i.toInt) (h1 : i.toInt < 8) : vld 0 i.toNatClampNeg := by have := nat_lt (n := 8) h0 h1; unfold vld; omega
theorem rM0 {M B : jB} (h : LB (M 0) B) {i : Int32} (h0 : 0 ≤ i.toInt) (h1 : i.toInt < 8) : M 0 (r_X8_ofMember i (0 : Int32)).toNatClampNeg = B 0 i.toNatClampNeg := by rw [pM0 h0 h1]; exact LB_rd h (vM0 h0 h1)
theorem pM1 {i : Int32} (h0 : 0 ≤ i.toInt) (h1 : i.toInt < 8) : (r_X8_ofMember i (1 : Int32)).toNatClampNeg = posOf 1 i.toNatClampNeg := by rw [ofM_pos h0 h1 (by decide) (by decide), tn1]; unfold posOf; simp
theorem vM1 {i : Int32} (h0 : 0 ≤ i.toInt) (h1 : i.toInt < 8) : vld 1 i.toNatClampNeg := by have := nat_lt (n := 8) h0 h1; unfold vld; omega
theorem rM1 {M B : jB} (h : LB (M 0) B) {i : Int32} (h0 : 0 ≤ i.toInt) (h1 : i.toInt < 8) : M 0 (r_X8_ofMember i (1 : Int32)).toNatClampNeg = B 1 i.toNatClampNeg := by rw [pM1 h0 h1]; exact LB_rd h (vM1 h0 h1)
theorem pM2 {i : Int32} (h0 : 0 ≤ i.toInt) (h1 : i.toInt < 8) : (r_X8_ofMember i (2 : Int32)).toNatClampNeg = posOf 2 i.toNatClampNeg := by rw [ofM_pos h0 h1 (by decide) (by decide), tn2]; unfold posOf; simp
theorem vM2 {i : Int32} (h0 : 0 ≤ i.toInt) (h1 : i.toInt < 8) : vld 2 i.toNatClampNeg := by have := nat_lt (n := 8) h0 h1; unfold vld; omega
theorem rM2 {M B : jB} (h : LB (M 0) B) {i : Int32} (h0 : 0 ≤ i.toInt) (h1 : i.toInt < 8) : M 0 (r_X8_ofMember i (2 : Int32)).toNatClampNeg = B 2 i.toNatClampNeg := by rw [pM2 h0 h1]; exact LB_rd h (vM2 h0 h1)
theorem pM3 {i : Int32} (h0 : 0 ≤ i.toInt) (h1 : i.toInt < 8) : (r_X8_ofMember i (3 : Int32)).toNatClampNeg = posOf 3 i.toNatClampNeg := by rw [ofM_pos h0 h1 (by decide) (by decide), tn3]; unfold posOf; simp
theorem vM3 {i : Int32} (h0 : 0 ≤ i.toInt) (h1 : i.toInt < 8) : vld 3 i.toNatClampNeg := by have := nat_lt (n := 8) h0 h1; unfold vld; omega
theorem rM3 {M B : jB} (h : LB (M 0) B) {i : Int32} (h0 : 0 ≤ i.toInt) (h1 : i.toInt < 8) : M 0 (r_X8_ofMember i (3 : Int32)).toNatClampNeg = B 3 i.toNatClampNeg := by rw [pM3 h0 h1]; exact LB_rd h (vM3 h0 h1)
theorem pC0 {i : Int32} (h0 : 0 ≤ i.toInt) (h1 : i.toInt < 6) : (r_X8_ofClient i (0 : Int32)).toNatClampNeg = posOf 4 i.toNatClampNeg := by rw [ofC_pos h0 h1 (by decide) (by decide), tn0]; unfold posOf; simp
theorem vC0 {i : Int32} (h0 : 0 ≤ i.toInt) (h1 : i.toInt < 6) : vld 4 i.toNatClampNeg := by have := nat_lt (n := 6) h0 h1; unfold vld; omega
theorem rC0 {M B : jB} (h : LB (M 0) B) {i : Int32} (h0 : 0 ≤ i.toInt) (h1 : i.toInt < 6) : M 0 (r_X8_ofClient i (0 : Int32)).toNatClampNeg = B 4 i.toNatClampNeg := by rw [pC0 h0 h1]; exact LB_rd h (vC0 h0 h1)
theorem pC1 {i : Int32} (h0 : 0 ≤ i.toInt) (h1 : i.toInt < 6) : (r_X8_ofClient i (1 : Int32)).toNatClampNeg = posOf 5 i.toNatClampNeg := by rw [ofC_pos h0 h1 (by decide) (by decide), tn1]; unfold posOf; simp
theorem vC1 {i : Int32} (h0 : 0 ≤ i.toInt) (h1 : i.toInt < 6) : vld 5 i.toNatClampNeg := by have := nat_lt (n := 6) h0 h1; unfold vld; omega
theorem rC1 {M B : jB} (h : LB (M 0) B) {i : Int32} (h0 : 0 ≤ i.toInt) (h1 : i.toInt < 6) : M 0 (r_X8_ofClient i (1 : Int32)).toNatClampNeg = B 5 i.toNatClampNeg := by rw [pC1 h0 h1]; exact LB_rd h (vC1 h0 h1)
theorem pC2 {i : Int32} (h0 : 0 ≤ i.toInt) (h1 : i.toInt < 6) : (r_X8_ofClient i (2 : Int32)).toNatClampNeg = posOf 6 i.toNatClampNeg := by rw [ofC_pos h0 h1 (by decide) (by decide), tn2]; unfold posOf; simp
theorem vC2 {i : Int32} (h0 : 0 ≤ i.toInt) (h1 : i.toInt < 6) : vld 6 i.toNatClampNeg := by have := nat_lt (n := 6) h0 h1; unfold vld; omega
theorem rC2 {M B : jB} (h : LB (M 0) B) {i : Int32} (h0 : 0 ≤ i.toInt) (h1 : i.toInt < 6) : M 0 (r_X8_ofClient i (2 : Int32)).toNatClampNeg = B 6 i.toNatClampNeg := by rw [pC2 h0 h1]; exact LB_rd h (vC2 h0 h1)
theorem vS0 : vld 16 2 := by unfold vld; omega
theorem rN0 {M B : jB} (h : LB (M 0) B) : M 0 0 = B 16 2 := h 0 (by decide)
theorem rS0 {M B : jB} (h : LB (M 0) B) : M 0 (0 : Int32).toNatClampNeg = B 16 2 := h 0 (by decide)
theorem vS1 : vld 16 3 := by unfold vld; omega
theorem rN1 {M B : jB} (h : LB (M 0) B) : M 0 1 = B 16 3 := h 1 (by decide)
theorem rS1 {M B : jB} (h : LB (M 0) B) : M 0 (1 : Int32).toNatClampNeg = B 16 3 := h 1 (by decide)
theorem vS2 : vld 15 0 := by unfold vld; omega
theorem rN2 {M B : jB} (h : LB (M 0) B) : M 0 2 = B 15 0 := h 2 (by decide)
theorem rS2 {M B : jB} (h : LB (M 0) B) : M 0 (2 : Int32).toNatClampNeg = B 15 0 := h 2 (by decide)
theorem vS3 : vld 15 1 := by unfold vld; omega
theorem rN3 {M B : jB} (h : LB (M 0) B) : M 0 3 = B 15 1 := h 3 (by decide)
theorem rS3 {M B : jB} (h : LB (M 0) B) : M 0 (3 : Int32).toNatClampNeg = B 15 1 := h 3 (by decide)
theorem vS4 : vld 15 2 := by unfold vld; omega
theorem rN4 {M B : jB} (h : LB (M 0) B) : M 0 4 = B 15 2 := h 4 (by decide)
theorem rS4 {M B : jB} (h : LB (M 0) B) : M 0 (4 : Int32).toNatClampNeg = B 15 2 := h 4 (by decide)
theorem vS5 : vld 14 0 := by unfold vld; omega
theorem rN5 {M B : jB} (h : LB (M 0) B) : M 0 5 = B 14 0 := h 5 (by decide)
theorem rS5 {M B : jB} (h : LB (M 0) B) : M 0 (5 : Int32).toNatClampNeg = B 14 0 := h 5 (by decide)
theorem vS6 : vld 14 1 := by unfold vld; omega
theorem rN6 {M B : jB} (h : LB (M 0) B) : M 0 6 = B 14 1 := h 6 (by decide)
theorem rS6 {M B : jB} (h : LB (M 0) B) : M 0 (6 : Int32).toNatClampNeg = B 14 1 := h 6 (by decide)
theorem vS7 : vld 14 2 := by unfold vld; omega
theorem rN7 {M B : jB} (h : LB (M 0) B) : M 0 7 = B 14 2 := h 7 (by decide)
theorem rS7 {M B : jB} (h : LB (M 0) B) : M 0 (7 : Int32).toNatClampNeg = B 14 2 := h 7 (by decide)
theorem vS8 : vld 16 0 := by unfold vld; omega
theorem rN8 {M B : jB} (h : LB (M 0) B) : M 0 8 = B 16 0 := h 8 (by decide)
theorem rS8 {M B : jB} (h : LB (M 0) B) : M 0 (8 : Int32).toNatClampNeg = B 16 0 := h 8 (by decide)
theorem vS9 : vld 16 1 := by unfold vld; omega
theorem rN9 {M B : jB} (h : LB (M 0) B) : M 0 9 = B 16 1 := h 9 (by decide)
theorem rS9 {M B : jB} (h : LB (M 0) B) : M 0 (9 : Int32).toNatClampNeg = B 16 1 := h 9 (by decide)
theorem vS10 : vld 16 4 := by unfold vld; omega
theorem rN10 {M B : jB} (h : LB (M 0) B) : M 0 10 = B 16 4 := h 10 (by decide)
theorem rS10 {M B : jB} (h : LB (M 0) B) : M 0 (10 : Int32).toNatClampNeg = B 16 4 := h 10 (by decide)
theorem vS11 : vld 16 5 := by unfold vld; omega
theorem rN11 {M B : jB} (h : LB (M 0) B) : M 0 11 = B 16 5 := h 11 (by decide)
theorem rS11 {M B : jB} (h : LB (M 0) B) : M 0 (11 : Int32).toNatClampNeg = B 16 5 := h 11 (by decide)
theorem vS12 : vld 16 6 := by unfold vld; omega
theorem rN12 {M B : jB} (h : LB (M 0) B) : M 0 12 = B 16 6 := h 12 (by decide)
theorem rS12 {M B : jB} (h : LB (M 0) B) : M 0 (12 : Int32).toNatClampNeg = B 16 6 := h 12 (by decide)
theorem vS13 : vld 16 7 := by unfold vld; omega
theorem rN13 {M B : jB} (h : LB (M 0) B) : M 0 13 = B 16 7 := h 13 (by decide)
theorem rS13 {M B : jB} (h : LB (M 0) B) : M 0 (13 : Int32).toNatClampNeg = B 16 7 := h 13 (by decide)
