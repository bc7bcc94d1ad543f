/-- the same but for the ranking -/
def Sm (K K' : Nat → jB) : Prop := (∀ b, b ≠ 7 → K' b = K b) ∧ (∀ r k, r ≠ 3 → r ≠ 4 → ¬ (r = 5 ∧ k = 4) → K' 7 r k = K 7 r k)
theorem Sm_refl (K : Nat → jB) : Sm K K := ⟨fun _ _ => rfl, fun _ _ _ _ _ => rfl⟩
theorem Sm_trans {K K' K'' : Nat → jB} (h : Sm K K') (g : Sm K' K'') : Sm K K'' := ⟨fun b hb => by rw [g.1 b hb, h.1 b hb], fun r k h3 h4 h5 => by rw [g.2 r k h3 h4 h5, h.2 r k h3 h4 h5]⟩
theorem Sm_up {K : Nat → jB} {r k : Nat} (v : Int32) (h : r = 3 ∨ r = 4 ∨ (r = 5 ∧ k = 4)) : Sm K (up3 K 7 r k v) := by
  refine ⟨fun b hb => by rw [up3_at, if_neg hb], fun r1 k1 h3 h4 h5 => ?_⟩
  rw [up3_at, if_pos rfl, up2_at, if_neg (by omega)]
theorem Rel_Sm {n : Nat} {K K' : Nat → jB} {M : jB} (h : Rel n K M) (s : Sm K K') : Rel n K' M := by
  refine ⟨?_, ?_, ?_, ?_, ?_, ?_⟩
  · rw [s.1 0 (by decide)]; exact R_L h
  · rw [s.1 0 (by decide)]; exact R_I h
  · exact His_congr (R_H h) (s.2 5 2 (by decide) (by decide) (by omega)) (s.2 5 3 (by decide) (by decide) (by omega)) (fun b h1 h2 => s.1 b (by omega)) rfl rfl
  · exact Kept_congr (R_K h) (s.2 5 5 (by decide) (by decide) (by omega)) (s.1 2 (by decide)) rfl rfl
  · exact Txt_congr (R_T h) (funext fun k => s.2 0 k (by decide) (by decide) (by omega)) (s.2 5 0 (by decide) (by decide) (by omega)) rfl rfl
  · exact Ref_congr (R_R h) (s.2 5 6 (by decide) (by decide) (by omega)) (s.2 5 7 (by decide) (by decide) (by omega)) rfl rfl
def Rk (B : jB) (K : Nat → jB) (l : List Nat) : Prop := (K 7 5 4).toInt = l.length ∧ ∀ q (hq : q < l.length), K 7 3 q = Int32.ofNat l[q] ∧ K 7 4 q = (wb B l[q]).toInt32
theorem toI_toU (u : UInt32) : u.toInt32.toUInt32 = u := by simp
theorem pred_toInt {x : Int32} (h : 0 < x.toInt) : (x - 1).toInt = x.toInt - 1 ∧ (x + -1).toInt = x.toInt - 1 := by
  have hh := i_hi x
  have z1 : (1 : Int32).toInt = 1 := rfl
  have zm : (-1 : Int32).toInt = -1 := rfl
  exact ⟨by rw [i_sub] <;> rw [z1] <;> omega, by rw [i_add] <;> rw [zm] <;> omega⟩
theorem cmp_g_ge (o : Option Ordering) : (0 : Int32) ≤ Op.cmpValue o CmpOp.g ↔ o ≠ some .lt := by
  rcases o with _ | o
  · decide
  · cases o <;> decide
theorem ins_loop {B : jB} {x : Nat} {l : List Nat} (hv : ∀ k, (k = x ∨ k ∈ l) → FP.Core.val32 (wb B k) ≠ FP.Core.Datum.nan) (hs : l.length < 20) (K0 K : Nat → jB) : ∀ (p f : Nat) (y : Int32) (K22 : Nat → jB), y.toInt = p → p ≤ l.length → p < f → (K22 7 5 4).toInt = l.length → Sm K K22 →
    (∀ q (hq : q < l.length), q < p → K22 7 3 q = Int32.ofNat l[q] ∧ K22 7 4 q = (wb B l[q]).toInt32) → (∀ q (hq : q < l.length), p ≤ q → K22 7 3 (q + 1) = Int32.ofNat l[q] ∧ K22 7 4 (q + 1) = (wb B l[q]).toInt32) → (∀ q (hq : q < l.length), p ≤ q → wv B l[q] < wv B x) →
    (∀ q1 q2 (h1 : q1 < l.length) (h2 : q2 < l.length), q1 ≤ q2 → wv B l[q2] ≤ wv B l[q1]) →
    ∃ p', p' ≤ l.length ∧ (∀ q (hq : q < l.length), p' ≤ q → wv B l[q] < wv B x) ∧ (∀ q (hq : q < l.length), q < p' → wv B x ≤ wv B l[q]) ∧ Sm K (L_X5_insert_22 K0 (Int32.ofNat x) (wb B x) f y K22) ∧ Rk B (L_X5_insert_22 K0 (Int32.ofNat x) (wb B x) f y K22) (l.take p' ++ x :: l.drop p') := by
  have fin : ∀ (p : Nat) (y : Int32) (K22 : Nat → jB), y.toInt = p → p ≤ l.length → (K22 7 5 4).toInt = l.length → Sm K K22 →
    (∀ q (hq : q < l.length), q < p → K22 7 3 q = Int32.ofNat l[q] ∧ K22 7 4 q = (wb B l[q]).toInt32) → (∀ q (hq : q < l.length), p ≤ q → K22 7 3 (q + 1) = Int32.ofNat l[q] ∧ K22 7 4 (q + 1) = (wb B l[q]).toInt32) →
    Sm K (up3 (z_X5_insert_0 (Int32.ofNat x) (wb B x) y K22) 7 5 4 ((K22 7 5 4) + (1 : Int32))) ∧ Rk B (up3 (z_X5_insert_0 (Int32.ofNat x) (wb B x) y K22) 7 5 4 ((K22 7 5 4) + (1 : Int32))) (l.take p ++ x :: l.drop p) := by
    intro p y K22 hy hp hl hsm hlo hhi
    have yn : y.toNatClampNeg = p := by rw [i_nat]; omega
    refine ⟨?_, ?_, ?_⟩
    · refine Sm_trans hsm ?_
      unfold z_X5_insert_0
      refine Sm_trans (Sm_trans (Sm_up _ (by omega)) (Sm_up _ (by omega))) (Sm_up _ (by omega))
    · rw [up3_at, if_pos rfl, up2_at, if_pos ⟨rfl, rfl⟩, ii_succ (by omega), hl]
      simp
      omega
    · have e3 : ∀ q, (up3 (z_X5_insert_0 (Int32.ofNat x) (wb B x) y K22) 7 5 4 ((K22 7 5 4) + (1 : Int32))) 7 3 q = if q = p then Int32.ofNat x else K22 7 3 q := by
        intro q
        unfold z_X5_insert_0
        rw [up3_at, if_pos rfl, up2_at, if_neg (by omega), up3_at, if_pos rfl, up2_at, if_neg (by omega), up3_at, if_pos rfl, up2_at, yn]
        by_cases e : q = p
        · rw [if_pos ⟨rfl, e⟩, if_pos e]
        · rw [if_neg (fun r => e r.2), if_neg e]
      have e4 : ∀ q, (up3 (z_X5_insert_0 (Int32.ofNat x) (wb B x) y K22) 7 5 4 ((K22 7 5 4) + (1 : Int32))) 7 4 q = if q = p then (wb B x).toInt32 else K22 7 4 q := by
        intro q
        unfold z_X5_insert_0
        rw [up3_at, if_pos rfl, up2_at, if_neg (by omega), up3_at, if_pos rfl, up2_at, yn]
        by_cases e : q = p
        · rw [if_pos ⟨rfl, e⟩, if_pos e]
        · rw [if_neg (fun r => e r.2), if_neg e, up3_at, if_pos rfl, up2_at, if_neg (by omega)]
      intro q hq
      have hq' : q < l.length + 1 := by
        simp at hq
        omega
      rw [e3, e4]
      by_cases e : q = p
      · rw [if_pos e, if_pos e]
        subst e
        have : (l.take q ++ x :: l.drop q)[q] = x := by
          rw [List.getElem_append_right (by simp; omega)]
          simp [Nat.min_eq_left hp]
        rw [this]; exact ⟨rfl, rfl⟩
      · rw [if_neg e, if_neg e]
        by_cases e2 : q < p
        · have : (l.take p ++ x :: l.drop p)[q] = l[q] := by
            rw [List.getElem_append_left (by simp; omega), List.getElem_take]
          rw [this]; exact hlo q (by omega) e2
        · obtain ⟨q', rfl⟩ : ∃ q', q = q' + 1 := ⟨q - 1, by omega⟩
          have : (l.take p ++ x :: l.drop p)[q' + 1] = l[q'] := by
            rw [List.getElem_append_right (by simp; omega)]
            simp only [List.length_take, Nat.min_eq_left hp]
            have h1 : q' + 1 - p = (q' - p) + 1 := by omega
            simp only [h1, List.getElem_cons_succ, List.getElem_drop]
            congr 1; omega
          rw [this]; exact hhi q' (by omega) (by omega)
  intro p
  induction p with
  | zero =>
    intro f y K22 hy hp hf hl hsm hlo hhi hV hD
    obtain ⟨f', rfl⟩ : ∃ f', f = f' + 1 := ⟨f - 1, by omega⟩
    have c : y ≤ 0 := by rw [i_le, show (0 : Int32).toInt = 0 from rfl]; omega
    have r := fin 0 y K22 hy hp hl hsm hlo hhi
    rw [L_X5_insert_22, if_pos c]
    exact ⟨0, hp, hV, fun q _ h => absurd h (Nat.not_lt_zero _), r.1, r.2⟩
  | succ p ih =>
    intro f y K22 hy hp hf hl hsm hlo hhi hV hD
    obtain ⟨f', rfl⟩ : ∃ f', f = f' + 1 := ⟨f - 1, by omega⟩
    have c : ¬ (y ≤ 0) := by rw [i_le, show (0 : Int32).toInt = 0 from rfl]; omega
    have yp := pred_toInt (x := y) (by omega)
    have yn : (y - 1).toNatClampNeg = p := by rw [i_nat, yp.1]; omega
    have ynn : y.toNatClampNeg = p + 1 := by rw [i_nat]; omega
    have hp' : p < l.length := by omega
    have h4 := hlo p hp' (by omega)
    have cm : FP.fcmp ((K22 7 4 (y - 1).toNatClampNeg).toUInt32) (wb B x) = some .lt ↔ wv B l[p] < wv B x := by
      rw [yn, h4.2, toI_toU]
      exact FP.Core.fcmp_lt_key (hv _ (Or.inr (List.getElem_mem hp'))) (hv x (Or.inl rfl))
    by_cases d : wv B l[p] < wv B x
    · have c2 : ¬ ((0 : Int32) ≤ (Op.cmpValue (FP.fcmp ((K22 7 4 (y - (1 : Int32)).toNatClampNeg).toUInt32) (wb B x)) CmpOp.g)) := by
        rw [cmp_g_ge]; exact fun q => q (cm.mpr d)
      rw [L_X5_insert_22, if_neg c, if_neg c2]
      have e2 : z_X5_insert_2 y K22 = up3 (up3 K22 7 3 (p + 1) (K22 7 3 p)) 7 4 (p + 1) (K22 7 4 p) := by
        unfold z_X5_insert_2 z_X5_insert_1
        rw [yn, ynn, toU_toI]
      rw [e2]
      have g3 : ∀ q, up3 (up3 K22 7 3 (p + 1) (K22 7 3 p)) 7 4 (p + 1) (K22 7 4 p) 7 3 q = if q = p + 1 then K22 7 3 p else K22 7 3 q := by
        intro q
        rw [up3_at, if_pos rfl, up2_at, if_neg (by omega), up3_at, if_pos rfl, up2_at]
        by_cases e : q = p + 1
        · rw [if_pos ⟨rfl, e⟩, if_pos e]
        · rw [if_neg (fun r => e r.2), if_neg e]
      have g4 : ∀ q, up3 (up3 K22 7 3 (p + 1) (K22 7 3 p)) 7 4 (p + 1) (K22 7 4 p) 7 4 q = if q = p + 1 then K22 7 4 p else K22 7 4 q := by
        intro q
        rw [up3_at, if_pos rfl, up2_at]
        by_cases e : q = p + 1
        · rw [if_pos ⟨rfl, e⟩, if_pos e]
        · rw [if_neg (fun r => e r.2), if_neg e, up3_at, if_pos rfl, up2_at, if_neg (by omega)]
      refine ih f' (y + -1) _ (by rw [yp.2]; omega) (by omega) (by omega) ?_ (Sm_trans hsm (Sm_trans (Sm_up _ (by omega)) (Sm_up _ (by omega)))) ?_ ?_ ?_ hD
      · rw [up3_at, if_pos rfl, up2_at, if_neg (by omega), up3_at, if_pos rfl, up2_at, if_neg (by omega)]; exact hl
      · intro q hq hqp
        rw [g3, g4, if_neg (by omega), if_neg (by omega)]
        exact hlo q hq (by omega)
      · intro q hq hqp
        rw [g3, g4]
        by_cases e : q = p
        · rw [if_pos (by omega), if_pos (by omega)]
          subst e; exact h4
        · rw [if_neg (by omega), if_neg (by omega)]
          exact hhi q hq (by omega)
      · intro q hq hqp
        by_cases e : q = p
        · subst e; exact d
        · exact hV q hq (by omega)
    · have c2 : ((0 : Int32) ≤ (Op.cmpValue (FP.fcmp ((K22 7 4 (y - (1 : Int32)).toNatClampNeg).toUInt32) (wb B x)) CmpOp.g)) := by
        rw [cmp_g_ge]; exact fun q => d (cm.mp q)
      have r := fin (p + 1) y K22 hy hp hl hsm hlo hhi
      rw [L_X5_insert_22, if_neg c, if_pos c2]
      refine ⟨p + 1, hp, hV, fun q hq h => ?_, r.1, r.2⟩
      have := hD q p hq hp' (by omega)
      omega
