def cpy (R D R' S : Nat) : Nat → Nat → jB → jB
  | 0, _, M => M
  | c + 1, k, M => cpy R D R' S c (k + 1) (up2 M R (D + k) (M R' (S + k)))
theorem cpy_at {R D R' S : Nat} (h : R' ≠ R ∨ D ≤ S) : ∀ (c k : Nat) (M : jB) (r j : Nat), cpy R D R' S c k M r j = if r = R ∧ D + k ≤ j ∧ j < D + k + c then M R' (S + (j - D)) else M r j
  | 0, k, M, r, j => by
    rw [if_neg (by omega)]; rfl
  | c + 1, k, M, r, j => by
    show cpy R D R' S c (k + 1) _ r j = _
    rw [cpy_at h c (k + 1), up2_at, up2_at]
    by_cases e : r = R ∧ D + k ≤ j ∧ j < D + k + (c + 1)
    · rw [if_pos e]
      by_cases e2 : j = D + k
      · rw [if_neg (by omega), if_pos ⟨e.1, e2⟩]
        congr 1; omega
      · rw [if_pos (by omega), if_neg (by omega)]
    · rw [if_neg e, if_neg (by omega), if_neg (by omega)]
theorem loopC {α : Type} {L : Nat → Int32 → jB → α} {fin : jB → α} {N : Int32} {R D R' S : Nat} {P : jB → Prop} (hN : N.toInt < 2147483647) (hP : ∀ M k v, P M → P (up2 M R k v))
    (hstop : ∀ n x M, N ≤ x → L (n + 1) x M = fin M) (hstep : ∀ n x M, 0 ≤ x.toInt → x.toInt < N.toInt → P M → L (n + 1) x M = L n (x + 1) (up2 M R (D + x.toNatClampNeg) (M R' (S + x.toNatClampNeg)))) :
    ∀ (c n : Nat) (x : Int32) (M : jB), P M → 0 ≤ x.toInt → x.toInt + c = N.toInt → c ≤ n → L (n + 1) x M = fin (cpy R D R' S c x.toNatClampNeg M)
  | 0, n, x, M, p, h0, h1, h2 => by rw [hstop n x M (by rw [i_le]; omega)]; rfl
  | c + 1, n, x, M, p, h0, h1, h2 => by
    obtain ⟨m, rfl⟩ : ∃ m, n = m + 1 := ⟨n - 1, by omega⟩
    rw [hstep _ x M h0 (by omega) p, loopC hN hP hstop hstep c m (x + 1) _ (hP _ _ _ p) (by rw [ii_succ (by omega)]; omega) (by rw [ii_succ (by omega)]; omega) (by omega), nn_succ h0 (by omega)]
    rfl
theorem pos_204 {kn : Nat} (hk : kn ≤ 4) {m x : Int32} (hm : m.toInt = kn) (h0 : 0 ≤ x.toInt) (h1 : x.toInt < 204) : ((204 : Int32) * m + x).toNatClampNeg = 204 * kn + x.toNatClampNeg := by
  have z : (204 : Int32).toInt = 204 := rfl
  have a : ((204 : Int32) * m).toInt = 204 * kn := by rw [i_mul] <;> rw [z, hm] <;> omega
  have b : ((204 : Int32) * m + x).toInt = 204 * kn + x.toInt := by rw [i_add] <;> rw [a] <;> omega
  rw [i_nat, i_nat, b]; omega
theorem know51 (M0 : jB) {M : jB} {kn : Nat} (hk : kn ≤ 3) (hm : (M 6 0).toInt = kn) : L_X8_know_51 M0 205 0 M = up2 (cpy 2 (204 * kn) 0 0 204 0 M) 6 0 (M 6 0 + 1) := by
  have z : (204 : Int32).toInt = 204 := rfl
  have := loopC (L := L_X8_know_51 M0) (fin := fun M => up2 M 6 0 (M 6 0 + 1)) (N := 204) (R := 2) (D := 204 * kn) (R' := 0) (S := 0) (P := fun M => (M 6 0).toInt = kn) (by decide) (by
      intro M k v p; rw [up2_at, if_neg (by omega)]; exact p) (by
      intro n x M hx; rw [L_X8_know_51, if_pos hx]) (by
      intro n x M h0 h1 p
      rw [L_X8_know_51, if_neg (by rw [i_le]; omega)]
      unfold z_X8_know_0
      rw [pos_204 (by omega) p h0 (by omega), Nat.zero_add]) 204 204 0 M hm (by decide) (by decide) (by decide)
  rw [this]
  show up2 (cpy 2 (204 * kn) 0 0 204 0 M) 6 0 (cpy 2 (204 * kn) 0 0 204 0 M 6 0 + 1) = _
  rw [cpy_at (Or.inl (by decide)) 204 0 M 6 0, if_neg (by omega)]
theorem know10 (M0 : jB) {M : jB} : L_X8_know_10 M0 613 0 M = L_X8_know_51 M0 205 0 (up2 (cpy 2 0 2 204 612 0 M) 6 0 (M 6 0 - 1)) := by
  have z : (612 : Int32).toInt = 612 := rfl
  have z2 : (204 : Int32).toInt = 204 := rfl
  have := loopC (L := L_X8_know_10 M0) (fin := fun M => L_X8_know_51 M0 205 0 (up2 M 6 0 (M 6 0 - 1))) (N := 612) (R := 2) (D := 0) (R' := 2) (S := 204) (P := fun _ => True) (by decide) (by
      intro M k v p; trivial) (by
      intro n x M hx; rw [L_X8_know_10, if_pos hx]) (by
      intro n x M h0 h1 p
      rw [L_X8_know_10, if_neg (by rw [i_le]; omega)]
      unfold z_X8_know_1
      have e : ((204 : Int32) + x).toNatClampNeg = 204 + x.toNatClampNeg := by
        have b : ((204 : Int32) + x).toInt = 204 + x.toInt := by rw [i_add] <;> rw [z2] <;> omega
        rw [i_nat, i_nat, b]; omega
      rw [e, Nat.zero_add]) 612 612 0 M trivial (by decide) (by decide) (by decide)
  rw [this]
  show L_X8_know_51 M0 205 0 (up2 (cpy 2 0 2 204 612 0 M) 6 0 (cpy 2 0 2 204 612 0 M 6 0 - 1)) = _
  rw [cpy_at (Or.inr (by decide)) 612 0 M 6 0, if_neg (by omega)]
/-- what know does: the blocks of row 2, the number of them -/
theorem know_at {M : jB} {kn : Nat} (hk : kn ≤ 4) (hm : (M 6 0).toInt = kn) :
    (∀ r j, r ≠ 2 → r ≠ 6 → r_X8_know M r j = M r j) ∧ (∀ j, j ≠ 0 → r_X8_know M 6 j = M 6 j) ∧ (r_X8_know M 6 0).toInt = ((min 4 (kn + 1) : Nat) : Int)
    ∧ (∀ j p, p < 204 → j < min 3 kn → r_X8_know M 2 (204 * j + p) = M 2 (204 * (j + kn - min 3 kn) + p)) ∧ (∀ p, p < 204 → r_X8_know M 2 (204 * min 3 kn + p) = M 0 p) := by
  have z4 : (4 : Int32).toInt = 4 := rfl
  have z1 : (1 : Int32).toInt = 1 := rfl
  unfold r_X8_know
  by_cases e : kn = 4
  · subst e
    rw [if_pos (by rw [i_eq, hm]; rfl), know10]
    have h3 : ((up2 (cpy 2 0 2 204 612 0 M) 6 0 (M 6 0 - 1)) 6 0).toInt = ((3 : Nat) : Int) := by
      rw [up2_at, if_pos ⟨rfl, rfl⟩, i_sub] <;> rw [hm, z1] <;> decide
    rw [know51 M (kn := 3) (by decide) h3]
    refine ⟨?_, ?_, ?_, ?_, ?_⟩
    · intro r j h1 h2
      rw [up2_at, if_neg (by omega), cpy_at (Or.inl (by decide)), if_neg (by omega), up2_at, if_neg (by omega), cpy_at (Or.inr (by decide)), if_neg (by omega)]
    · intro j h1
      rw [up2_at, if_neg (by omega), cpy_at (Or.inl (by decide)), if_neg (by omega), up2_at, if_neg (by omega), cpy_at (Or.inr (by decide)), if_neg (by omega)]
    · rw [up2_at, if_pos ⟨rfl, rfl⟩, ii_succ (by omega), h3]; decide
    · intro j p hp hj
      rw [up2_at, if_neg (by omega), cpy_at (Or.inl (by decide)), if_neg (by omega), up2_at, if_neg (by omega), cpy_at (Or.inr (by decide)), if_pos (by omega)]
      exact congrArg (M 2) (by omega)
    · intro p hp
      rw [up2_at, if_neg (by omega), cpy_at (Or.inl (by decide)), if_pos (by omega), up2_at, if_neg (by omega), cpy_at (Or.inr (by decide)), if_neg (by omega)]
      exact congrArg (M 0) (by omega)
  · rw [if_neg (by rw [i_eq, hm, z4]; omega), know51 M (kn := kn) (by omega) hm]
    refine ⟨?_, ?_, ?_, ?_, ?_⟩
    · intro r j h1 h2
      rw [up2_at, if_neg (by omega), cpy_at (Or.inl (by decide)), if_neg (by omega)]
    · intro j h1
      rw [up2_at, if_neg (by omega), cpy_at (Or.inl (by decide)), if_neg (by omega)]
    · rw [up2_at, if_pos ⟨rfl, rfl⟩, ii_succ (by omega), hm]; omega
    · intro j p hp hj
      rw [up2_at, if_neg (by omega), cpy_at (Or.inl (by decide)), if_neg (by omega)]
      congr 1; omega
    · intro p hp
      rw [up2_at, if_neg (by omega), cpy_at (Or.inl (by decide)), if_pos (by omega)]
      congr 1; omega
def psh (K : Nat → jB) (S : jB) (nx : Nat) (a b : Int32) : Nat → jB := up3 (up3 (up1 K (3 + nx) S) 7 5 2 a) 7 5 3 b
theorem up3_same (K : Nat → jB) (b r k : Nat) : up3 K b r k (K b r k) = K := by
  funext b1 r1 k1
  rw [up3_at]
  by_cases e : b1 = b
  · rw [if_pos e, up2_at]
    by_cases f : r1 = r ∧ k1 = k
    · rw [if_pos f, f.1, f.2, e]
    · rw [if_neg f, e]
  · rw [if_neg e]
theorem psh_of {K : Nat → jB} {S : jB} {nx kn : Nat} (hn : nx < 4) (h2 : (K 7 5 2).toInt = nx) (h3 : (K 7 5 3).toInt = kn) (hk : kn ≤ 4) :
    (if (4 : Int32) ≤ (((up1 K (3 + nx) S) 7 5 2) + (1 : Int32)) then (if (4 : Int32) ≤ ((up1 K (3 + nx) S) 7 5 3) then (up3 (up1 K (3 + nx) S) 7 5 2 (0 : Int32)) else (up3 (up3 (up1 K (3 + nx) S) 7 5 2 (0 : Int32)) 7 5 3 (((up1 K (3 + nx) S) 7 5 3) + (1 : Int32)))) else (if (4 : Int32) ≤ ((up1 K (3 + nx) S) 7 5 3) then (up3 (up1 K (3 + nx) S) 7 5 2 (((up1 K (3 + nx) S) 7 5 2) + (1 : Int32))) else (up3 (up3 (up1 K (3 + nx) S) 7 5 2 (((up1 K (3 + nx) S) 7 5 2) + (1 : Int32))) 7 5 3 (((up1 K (3 + nx) S) 7 5 3) + (1 : Int32)))))
    = psh K S nx (if nx = 3 then 0 else K 7 5 2 + 1) (if kn = 4 then K 7 5 3 else K 7 5 3 + 1) := by
  have z4 : (4 : Int32).toInt = 4 := rfl
  have e7 : (up1 K (3 + nx) S) 7 = K 7 := by rw [up1_at, if_neg (by omega)]
  unfold psh
  have hs : ∀ v : Int32, up3 (up3 (up1 K (3 + nx) S) 7 5 2 v) 7 5 3 (K 7 5 3) = up3 (up1 K (3 + nx) S) 7 5 2 v := by
    intro v
    have := up3_same (up3 (up1 K (3 + nx) S) 7 5 2 v) 7 5 3
    have e : (up3 (up1 K (3 + nx) S) 7 5 2 v) 7 5 3 = K 7 5 3 := by
      rw [up3_at, if_pos rfl, up2_at, if_neg (by omega), e7]
    rw [e] at this
    exact this
  rw [e7]
  by_cases a : nx = 3
  · rw [if_pos (show (4 : Int32) ≤ K 7 5 2 + 1 by rw [i_le, ii_succ (by omega)]; omega), if_pos a]
    by_cases b : kn = 4
    · rw [if_pos (show (4 : Int32) ≤ K 7 5 3 by rw [i_le]; omega), if_pos b, hs]
    · rw [if_neg (show ¬ ((4 : Int32) ≤ K 7 5 3) by rw [i_le]; omega), if_neg b]
  · rw [if_neg (show ¬ ((4 : Int32) ≤ K 7 5 2 + 1) by rw [i_le, ii_succ (by omega)]; omega), if_neg a]
    by_cases b : kn = 4
    · rw [if_pos (show (4 : Int32) ≤ K 7 5 3 by rw [i_le]; omega), if_pos b, hs]
    · rw [if_neg (show ¬ ((4 : Int32) ≤ K 7 5 3) by rw [i_le]; omega), if_neg b]
theorem nx_eq {K : Nat → jB} {nx : Nat} (h2 : (K 7 5 2).toInt = nx) (v : Int32) (m : Nat) (hv : v.toInt = m) : K 7 5 2 = v ↔ nx = m := by
  rw [i_eq, h2, hv]; omega
theorem push0_psh {K : Nat → jB} {nx kn : Nat} (hn : nx < 4) (h2 : (K 7 5 2).toInt = nx) (h3 : (K 7 5 3).toInt = kn) (hk : kn ≤ 4) :
    r_X2_push_0 K = psh K (K 0) nx (if nx = 3 then 0 else K 7 5 2 + 1) (if kn = 4 then K 7 5 3 else K 7 5 3 + 1) ∧ n_X2_push_0 K := by
  unfold r_X2_push_0 n_X2_push_0
  have d0 := nx_eq h2 0 0 rfl
  have d1 := nx_eq h2 1 1 rfl
  have d2 := nx_eq h2 2 2 rfl
  have d3 := nx_eq h2 3 3 rfl
  refine ⟨?_, by rw [d0, d1, d2, d3]; omega⟩
  have hp := psh_of (S := K 0) hn h2 h3 hk
  rcases (by omega : nx = 0 ∨ nx = 1 ∨ nx = 2 ∨ nx = 3) with e | e | e | e <;> subst e
  · rw [if_pos (d0.mpr rfl)]; exact hp
  · rw [if_neg (fun q => absurd (d0.mp q) (by decide)), if_pos (d1.mpr rfl)]; exact hp
  · rw [if_neg (fun q => absurd (d0.mp q) (by decide)), if_neg (fun q => absurd (d1.mp q) (by decide)), if_pos (d2.mpr rfl)]; exact hp
  · rw [if_neg (fun q => absurd (d0.mp q) (by decide)), if_neg (fun q => absurd (d1.mp q) (by decide)), if_neg (fun q => absurd (d2.mp q) (by decide))]; exact hp
theorem push1_psh {K : Nat → jB} {nx kn : Nat} (hn : nx < 4) (h2 : (K 7 5 2).toInt = nx) (h3 : (K 7 5 3).toInt = kn) (hk : kn ≤ 4) :
    r_X2_push_1 K = psh K (K 1) nx (if nx = 3 then 0 else K 7 5 2 + 1) (if kn = 4 then K 7 5 3 else K 7 5 3 + 1) ∧ n_X2_push_1 K := by
  unfold r_X2_push_1 n_X2_push_1
  have d0 := nx_eq h2 0 0 rfl
  have d1 := nx_eq h2 1 1 rfl
  have d2 := nx_eq h2 2 2 rfl
  have d3 := nx_eq h2 3 3 rfl
  refine ⟨?_, by rw [d0, d1, d2, d3]; omega⟩
  have hp := psh_of (S := K 1) hn h2 h3 hk
  rcases (by omega : nx = 0 ∨ nx = 1 ∨ nx = 2 ∨ nx = 3) with e | e | e | e <;> subst e
  · rw [if_pos (d0.mpr rfl)]; exact hp
  · rw [if_neg (fun q => absurd (d0.mp q) (by decide)), if_pos (d1.mpr rfl)]; exact hp
  · rw [if_neg (fun q => absurd (d0.mp q) (by decide)), if_neg (fun q => absurd (d1.mp q) (by decide)), if_pos (d2.mpr rfl)]; exact hp
  · rw [if_neg (fun q => absurd (d0.mp q) (by decide)), if_neg (fun q => absurd (d1.mp q) (by decide)), if_neg (fun q => absurd (d2.mp q) (by decide))]; exact hp
