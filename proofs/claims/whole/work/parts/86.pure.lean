theorem swap_loop (M0 : jB) : ∀ (c f : Nat) (x : Int32) (X : jB), 0 ≤ x.toInt → x.toInt + c = 204 → c ≤ f → ∀ r j, L_X8_swap_2 M0 (f + 1) x X r j = if x.toNatClampNeg ≤ j ∧ j < 204 then (if r = 0 then X 1 j else if r = 1 then X 0 j else X r j) else X r j
  | 0, f, x, X, h0, h1, hf, r, j => by
    have z : (204 : Int32).toInt = 204 := rfl
    rw [L_X8_swap_2, if_pos (show (204 : Int32) ≤ x by rw [i_le]; omega), if_neg (by rw [i_nat]; omega)]
  | c + 1, f, x, X, h0, h1, hf, r, j => by
    have z : (204 : Int32).toInt = 204 := rfl
    obtain ⟨f', rfl⟩ : ∃ f', f = f' + 1 := ⟨f - 1, by omega⟩
    rw [L_X8_swap_2, if_neg (show ¬ ((204 : Int32) ≤ x) by rw [i_le]; omega), swap_loop M0 c f' (x + 1) _ (by rw [ii_succ (by omega)]; omega) (by rw [ii_succ (by omega)]; omega) (by omega), nn_succ h0 (by omega)]
    unfold z_X8_swap_0
    have e0 : ∀ k, up2 (up2 X 0 x.toNatClampNeg (X 1 x.toNatClampNeg)) 1 x.toNatClampNeg (X 0 x.toNatClampNeg) 0 k = if k = x.toNatClampNeg then X 1 k else X 0 k := by
      intro k
      rw [up2_at, if_neg (by omega), up2_at]
      by_cases e : k = x.toNatClampNeg
      · rw [if_pos ⟨rfl, e⟩, if_pos e, e]
      · rw [if_neg (fun q => e q.2), if_neg e]
    have e1 : ∀ k, up2 (up2 X 0 x.toNatClampNeg (X 1 x.toNatClampNeg)) 1 x.toNatClampNeg (X 0 x.toNatClampNeg) 1 k = if k = x.toNatClampNeg then X 0 k else X 1 k := by
      intro k
      rw [up2_at, up2_at]
      by_cases e : k = x.toNatClampNeg
      · rw [if_pos ⟨rfl, e⟩, if_pos e, e]
      · rw [if_neg (fun q => e q.2), if_neg e, if_neg (by omega)]
    have er : ∀ q k, q ≠ 0 → q ≠ 1 → up2 (up2 X 0 x.toNatClampNeg (X 1 x.toNatClampNeg)) 1 x.toNatClampNeg (X 0 x.toNatClampNeg) q k = X q k := by
      intro q k h0 h1
      rw [up2_at, if_neg (by omega), up2_at, if_neg (by omega)]
    have xl : x.toNatClampNeg < 204 := by rw [i_nat]; omega
    by_cases r0 : r = 0
    · subst r0
      rw [e0, e1, if_pos rfl, if_pos rfl]
      by_cases a : j = x.toNatClampNeg
      · rw [if_neg (by omega), if_pos a, if_pos (by omega)]
      · rw [if_neg a, if_neg a]
        by_cases b : x.toNatClampNeg ≤ j ∧ j < 204
        · rw [if_pos (by omega), if_pos b]
        · rw [if_neg (by omega), if_neg b]
    · by_cases r1 : r = 1
      · subst r1
        rw [e0, e1, if_neg r0, if_pos (rfl : (1 : Nat) = 1), if_neg r0, if_pos (rfl : (1 : Nat) = 1)]
        by_cases a : j = x.toNatClampNeg
        · rw [if_neg (by omega), if_pos a, if_pos (by omega)]
        · rw [if_neg a, if_neg a]
          by_cases b : x.toNatClampNeg ≤ j ∧ j < 204
          · rw [if_pos (by omega), if_pos b]
          · rw [if_neg (by omega), if_neg b]
      · rw [er r j r0 r1, if_neg r0, if_neg r1, if_neg r0, if_neg r1]
        split <;> split <;> rfl
theorem swap_at (X : jB) : (∀ j, j < 204 → r_X8_swap X 0 j = X 1 j) ∧ (∀ j, j < 204 → r_X8_swap X 1 j = X 0 j) ∧ (∀ r, r ≠ 0 → r ≠ 1 → r_X8_swap X r = X r) := by
  have h := swap_loop X 204 204 0 X (by decide) (by decide) (by decide)
  have h' : ∀ r j, r_X8_swap X r j = if 0 ≤ j ∧ j < 204 then (if r = 0 then X 1 j else if r = 1 then X 0 j else X r j) else X r j := h
  refine ⟨fun j hj => ?_, fun j hj => ?_, fun r h0 h1 => funext fun j => ?_⟩
  · rw [h', if_pos ⟨Nat.zero_le _, hj⟩, if_pos rfl]
  · rw [h', if_pos ⟨Nat.zero_le _, hj⟩, if_neg (by decide), if_pos rfl]
  · rw [h', if_neg h0, if_neg h1]; split <;> rfl
theorem go_0 (X : jB) : z_X8_go_0 X = st (up2 (up2 X 6 8 0) 6 7 0) 0 0 := by
  funext r k
  unfold z_X8_go_0 st
  simp only [up2_at]
  have e : Int32.ofNat 0 = 0 := rfl
  rw [e]
  grind
theorem fr_go (X : jB) : fr X (up2 (up2 X 6 8 0) 6 7 0) := fr_trans (fr_up X 0 (by decide)) (fr_up _ 0 (by decide))
theorem up1_self {K : Nat → jB} {b : Nat} {B : jB} (h : K b = B) : up1 K b B = K := by
  funext q
  rw [up1_at]
  by_cases e : q = b
  · rw [if_pos e, e, h]
  · rw [if_neg e]
theorem NL23 (M : jB) (P : jB → Prop) (hP : ∀ X k v, P X → P (up2 X 1 k v)) : ∀ (n : Nat) (x : Int32) (X : jB), P X → (∀ X, P X → n_X8_go X 1 ∧ (0 ≤ ((r_X8_swap ((r_X8_go X 1).2)) 6 8) → n_X8_know (r_X8_swap ((r_X8_go X 1).2)))) → NL_X8_readPayments_23 M n x X
  | 0, _, _, _, _ => trivial
  | n + 1, x, X, p, h => by
    rw [NL_X8_readPayments_23]
    exact ⟨fun _ => ⟨(h X p).1, fun q => ⟨(h X p).2 q, trivial⟩, fun _ => trivial⟩, fun _ => NL23 M P hP n _ _ (hP _ _ _ p) h⟩
