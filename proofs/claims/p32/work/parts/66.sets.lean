theorem set_row {n : Nat} {P : Int32} {K : Nat → jB} (h : St n P K) {r k : Nat} {v : Int32} (hr : r = 14 ∨ r = 15) (hI : Inv (n + 1) (up2 (K 0) r k v)) (hv : r = 14 → k < 3 → 0 ≤ v.toInt) (c : Int32) (hc : -5 ≤ c.toInt) : Res n P K (c, up1 (r_X2_push_0 K) 0 (up2 (K 0) r k v)) := by
  refine Res_ok h.2 hc ?_ ?_
  · refine Bok_eq h.1 hI (fun q _ h14 h15 _ => up2_row_ne (by omega) _ _ _) (fun j _ => by rw [up2_at, if_neg (by omega)]) ?_
    have R := Rng_mono h.1.2.2.2.2 (Nat.le_succ n)
    refine ⟨fun j => ?_, fun j hj => ?_, ?_⟩
    · rw [up2_at, if_neg (by omega), up2_at, if_neg (by omega)]; exact R.1 j
    · rw [up2_at]
      by_cases e : 14 = r ∧ j = k
      · rw [if_pos e]; exact hv e.1.symm (by omega)
      · rw [if_neg e]; exact R.2.1 j hj
    · rw [up2_at, if_neg (by omega)]; exact R.2.2
  · rw [up2_at, if_neg (by omega)]
theorem C_setNumber {n : Nat} {P : Int32} {K : Nat → jB} (h : St n P K) (w v : Int32) : n_X7_setNumber K w v ∧ Res n P K (r_X7_setNumber K w v) := by
  obtain ⟨np, p0, ps⟩ := push_St h.2
  have hI := St_I h
  have z0 : (0 : Int32).toInt = 0 := rfl
  have z3 : (3 : Int32).toInt = 3 := rfl
  refine ⟨⟨fun _ => trivial, fun _ => ⟨fun _ => ⟨fun _ => trivial, fun _ => ⟨fun _ => ⟨fun _ => trivial, fun _ => ⟨np, trivial⟩⟩, fun _ => trivial⟩⟩, fun _ => trivial⟩⟩, ?_⟩
  unfold r_X7_setNumber
  by_cases a : w < 0
  · rw [if_pos a]; exact Res_no h _ (by decide)
  rw [if_neg a]
  by_cases b : w < 3
  rotate_left
  · rw [if_neg b]; exact Res_no h _ (by decide)
  rw [if_pos b]
  by_cases c : v < sv 2 w.toNatClampNeg
  · rw [if_pos c]; exact Res_no h _ (by decide)
  rw [if_neg c]
  by_cases d : v ≤ sv 3 w.toNatClampNeg
  rotate_left
  · rw [if_neg d]; exact Res_no h _ (by decide)
  rw [if_pos d]
  by_cases e : K 0 14 w.toNatClampNeg = v
  · rw [if_pos e]; exact Res_no h _ (by decide)
  rw [if_neg e]
  rw [i_lt] at a b
  have w0 : 0 ≤ w.toInt := by omega
  have w2 : w.toInt ≤ 2 := by omega
  have v0 : 0 ≤ v.toInt := by
    rw [i_lt] at c
    rcases w3 w0 w2 with q | q | q <;> subst q
    · have : (sv 2 (0 : Int32).toNatClampNeg).toInt = 0 := rfl
      omega
    · have : (sv 2 (1 : Int32).toNatClampNeg).toInt = 0 := rfl
      omega
    · have : (sv 2 (2 : Int32).toNatClampNeg).toInt = 1 := rfl
      omega
  have R := h.1.2.2.2.2.2.1 w.toNatClampNeg (by rw [i_nat]; omega)
  rw [up3_up1, p0]
  exact set_row h (Or.inl rfl) (Inv_free (Inv_mono hI (Nat.le_succ n)) _ (by omega)) (fun _ _ => v0) _ (by omega)
theorem rate_rng {w b : Int32} (w0 : 0 ≤ w.toInt) (w2 : w.toInt ≤ 2) (h1 : ¬ (b < sv 0 w.toNatClampNeg)) (h2 : b ≤ sv 1 w.toNatClampNeg) : (0 ≤ b.toInt ∧ b.toInt ≤ 1065353216) ∧ ((w.toNatClampNeg = 0 → 1036831949 ≤ b.toInt ∧ b.toInt ≤ 1065353216) ∧ (w.toNatClampNeg = 1 → 0 ≤ b.toInt ∧ b.toInt ≤ 1028443341) ∧ (w.toNatClampNeg = 2 → 0 ≤ b.toInt ∧ b.toInt ≤ 1056964608)) := by
  rw [i_lt] at h1
  rw [i_le] at h2
  rcases w3 w0 w2 with e | e | e <;> subst e
  · have a1 : (sv 0 (0 : Int32).toNatClampNeg).toInt = 1036831949 := rfl
    have a2 : (sv 1 (0 : Int32).toNatClampNeg).toInt = 1065353216 := rfl
    rw [tn0] at *
    omega
  · have a1 : (sv 0 (1 : Int32).toNatClampNeg).toInt = 0 := rfl
    have a2 : (sv 1 (1 : Int32).toNatClampNeg).toInt = 1028443341 := rfl
    rw [tn1] at *
    omega
  · have a1 : (sv 0 (2 : Int32).toNatClampNeg).toInt = 0 := rfl
    have a2 : (sv 1 (2 : Int32).toNatClampNeg).toInt = 1056964608 := rfl
    rw [tn2] at *
    omega
theorem C_setRate {n : Nat} {P : Int32} {K : Nat → jB} (h : St n P K) (w b : Int32) : n_X7_setRate K w b ∧ Res n P K (r_X7_setRate K w b) := by
  obtain ⟨np, p0, ps⟩ := push_St h.2
  have hI := St_I h
  have z0 : (0 : Int32).toInt = 0 := rfl
  have z3 : (3 : Int32).toInt = 3 := rfl
  refine ⟨⟨fun _ => trivial, fun q0 => ⟨fun q1 => ⟨fun _ => trivial, fun q2 => ⟨fun q3 => ?_, fun _ => trivial⟩⟩, fun _ => trivial⟩⟩, ?_⟩
  · rw [i_lt] at q0 q1
    have rg := rate_rng (by omega) (by omega) q2 q3
    exact ⟨(e_floatOf rg.1.1 (by omega)).2, fun _ => trivial, fun _ => ⟨np, trivial⟩⟩
  unfold r_X7_setRate
  by_cases a : w < 0
  · rw [if_pos a]; exact Res_no h _ (by decide)
  rw [if_neg a]
  by_cases b1 : w < 3
  rotate_left
  · rw [if_neg b1]; exact Res_no h _ (by decide)
  rw [if_pos b1]
  by_cases c : b < sv 0 w.toNatClampNeg
  · rw [if_pos c]; exact Res_no h _ (by decide)
  rw [if_neg c]
  by_cases d : b ≤ sv 1 w.toNatClampNeg
  rotate_left
  · rw [if_neg d]; exact Res_no h _ (by decide)
  rw [if_pos d]
  by_cases e : Op.cmpValue (FP.fcmp ((K 0 15 w.toNatClampNeg).toUInt32) (r_X7_floatOf b)) CmpOp.l = 0
  · rw [if_pos e]; exact Res_no h _ (by decide)
  rw [if_neg e]
  rw [i_lt] at a b1
  have rg := rate_rng (by omega) (by omega) c d
  have fl := (e_floatOf rg.1.1 (by omega)).1
  have ez : z_X7_setRate_0 K w b = up1 (r_X2_push_0 K) 0 (up2 (K 0) 15 w.toNatClampNeg b) := by
    unfold z_X7_setRate_0
    rw [fl, toU_toI, up3_up1, p0]
  rw [ez]
  exact set_row h (Or.inr rfl) (Inv_rate (Inv_mono hI (Nat.le_succ n)) rg.2) (fun q => absurd q (by decide)) _ (by decide)
