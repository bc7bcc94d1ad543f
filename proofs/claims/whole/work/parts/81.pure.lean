abbrev isd (T : Nat → Int32) (L : Nat) (lo : Int) (a : Nat) : Prop := a < L ∧ lo ≤ (T a).toInt ∧ (T a).toInt ≤ 57
def nl (T : Nat → Int32) (L : Nat) : Nat → Int32 → Nat → Int32 × Nat
  | 0, v, a => (v, a)
  | n + 1, v, a => if 0 < v.toInt ∧ isd T L 48 a then nl T L n (10 * v + T a - 48) (a + 1) else (v, a)
def numb (T : Nat → Int32) (L : Nat) (lo : Int) (most a : Nat) : Option (Int32 × Nat) := if isd T L lo a then some (nl T L (most - 1) (T a - 48) (a + 1)) else none
/-- one payment's numbers, and the place behind it; or the place of the fault -/
def pay1 (T : Nat → Int32) (L a : Nat) : Except Nat ((Int32 × Int32) × Nat) :=
  match numb T L 48 2 a with
  | none => .error a
  | some (v, b) => if b < L ∧ T b = 61 then (match numb T L 49 7 (b + 1) with
    | none => .error (b + 1)
    | some (m, e) => .ok ((v, m), e)) else .error b
def pall (T : Nat → Int32) (L : Nat) : Nat → Nat → Except Nat (List (Int32 × Int32))
  | 0, a => .error a
  | f + 1, a => match pay1 T L a with
    | .error b => .error b
    | .ok (p, e) => if L ≤ e then .ok [p] else if T e = 44 then (match pall T L f (e + 1) with
      | .error b => .error b
      | .ok l => .ok (p :: l)) else .error e
def st (X : jB) (a : Nat) (w : Int32) : jB := up2 (up2 X 6 6 w) 6 5 (Int32.ofNat a)
theorem st_65 (X : jB) (a : Nat) (w : Int32) : st X a w 6 5 = Int32.ofNat a := by unfold st; rw [up2_at, if_pos ⟨rfl, rfl⟩]
theorem st_66 (X : jB) (a : Nat) (w : Int32) : st X a w 6 6 = w := by unfold st; rw [up2_at, if_neg (by omega), up2_at, if_pos ⟨rfl, rfl⟩]
theorem st_6 (X : jB) (a : Nat) (w : Int32) {j : Nat} (h5 : j ≠ 5) (h6 : j ≠ 6) : st X a w 6 j = X 6 j := by unfold st; rw [up2_at, if_neg (by omega), up2_at, if_neg (by omega)]
theorem st_r (X : jB) (a : Nat) (w : Int32) {r : Nat} (h : r ≠ 6) : st X a w r = X r := by unfold st; rw [up2_row_ne h, up2_row_ne h]
theorem st_st (X : jB) (a a' : Nat) (w w' : Int32) : up2 (up2 (st X a w) 6 6 w') 6 5 (Int32.ofNat a') = st X a' w' := by
  funext r k
  unfold st
  simp only [up2_at]
  by_cases h5 : r = 6 ∧ k = 5
  · simp [h5]
  · by_cases h6 : r = 6 ∧ k = 6
    · simp [h6]
    · simp [h5, h6]
theorem st_up (X : jB) (a : Nat) (w : Int32) {j : Nat} (v : Int32) (h5 : j ≠ 5) (h6 : j ≠ 6) : up2 (st X a w) 6 j v = st (up2 X 6 j v) a w := by
  funext r k
  unfold st
  simp only [up2_at]
  by_cases e : r = 6 ∧ k = j
  · rw [if_pos e, if_neg (by omega), if_neg (by omega), if_pos e]
  · simp only [if_neg e]
theorem an_add (a b : Nat) : Int32.ofNat a + Int32.ofNat b = Int32.ofNat (a + b) := (Int32.ofNat_add a b).symm
theorem an_1 (a : Nat) : Int32.ofNat a + 1 = Int32.ofNat (a + 1) := an_add a 1
theorem an_0 (a : Nat) : Int32.ofNat a + 0 = Int32.ofNat a := by rw [show (0 : Int32) = Int32.ofNat 0 from rfl, an_add]; rfl
theorem an_tn {a : Nat} (h : a < 2147483648) : (Int32.ofNat a).toNatClampNeg = a := by rw [i_nat, an_toInt h]; omega
/-- the text that a state holds -/
def tx (X : jB) (T : Nat → Int32) (L : Nat) : Prop := X 4 = T ∧ X 6 2 = Int32.ofNat L ∧ L ≤ 60
theorem tx_st {X : jB} {T : Nat → Int32} {L : Nat} (h : tx X T L) (a : Nat) (w : Int32) : tx (st X a w) T L := ⟨by rw [st_r X a w (by decide)]; exact h.1, by rw [st_6 X a w (by decide) (by decide)]; exact h.2.1, h.2.2⟩
theorem sign_0 {X : jB} {T : Nat → Int32} {L : Nat} (h : tx X T L) {a : Nat} (ha : a ≤ 60) (lo hi : Int32) (hlo : 0 < lo.toInt) :
    r_X8_sign (st X a 0) lo hi = (if a < L then T a else 0, if a < L ∧ lo.toInt ≤ (T a).toInt ∧ (T a).toInt ≤ hi.toInt then st X (a + 1) 0 else st X a 1) := by
  have z0 : (0 : Int32).toInt = 0 := rfl
  have hL := h.2.2
  unfold r_X8_sign
  rw [st_65, st_66, st_6 X a 0 (by decide) (by decide), st_r X a 0 (by decide : 4 ≠ 6), h.1, h.2.1, an_tn (by omega), an_0, an_1, st_st, st_st, if_pos (rfl : (0 : Int32) = 0), if_pos (rfl : (0 : Int32) = 0)]
  by_cases g : a < L
  · rw [if_neg (show ¬ (Int32.ofNat L ≤ Int32.ofNat a) by rw [i_le, an_toInt (by omega), an_toInt (by omega)]; omega), if_pos g]
    rcases in_cases (T a) lo hi with c | c
    · rw [if_pos c.1, if_neg (fun q => c.2 q.2)]
    · rw [if_neg (show ¬ (r_X8_in (T a) lo hi = 0) by rw [c.1]; exact one_ne), if_pos ⟨g, c.2⟩]
  · rw [if_pos (show Int32.ofNat L ≤ Int32.ofNat a by rw [i_le, an_toInt (by omega), an_toInt (by omega)]; omega), if_neg g]
    rcases in_cases 0 lo hi with c | c
    · rw [if_pos c.1, if_neg (fun q => g q.1)]
    · omega
theorem sign_1 {X : jB} {T : Nat → Int32} {L : Nat} (h : tx X T L) {a : Nat} (lo hi : Int32) : (r_X8_sign (st X a 1) lo hi).2 = st X a 1 := by
  unfold r_X8_sign
  rw [st_65, st_66, an_0, st_st, if_neg one_ne, if_neg one_ne]
  split <;> rfl
theorem n_sign {X : jB} {T : Nat → Int32} {L : Nat} (h : tx X T L) {a : Nat} (ha : a ≤ 60) (w lo hi : Int32) : n_X8_sign (st X a w) lo hi := by
  refine ⟨?_, ?_, trivial⟩
  · rw [st_65, i_le, an_toInt (by omega)]; show (0 : Int) ≤ _; omega
  · rw [st_6 X a w (by decide) (by decide), h.2.1, i_le, an_toInt (by have := h.2.2; omega)]
    have := h.2.2
    show (L : Int) ≤ 60
    omega
theorem n_number {X : jB} {T : Nat → Int32} {L : Nat} (h : tx X T L) {a : Nat} (ha : a ≤ 60) (w lo most : Int32) (hlo : (0 : Int32) < lo) : n_X8_number (st X a w) lo most := ⟨(n_sign h ha w lo lo).1, (n_sign h ha w lo lo).2.1, hlo, trivial⟩
theorem nl_bd (T : Nat → Int32) (L : Nat) : ∀ (n : Nat) (v : Int32) (a : Nat), a ≤ L → a ≤ (nl T L n v a).2 ∧ (nl T L n v a).2 ≤ L
  | 0, v, a, h => ⟨Nat.le_refl _, h⟩
  | n + 1, v, a, h => by
    unfold nl
    split
    · rename_i q
      have := nl_bd T L n (10 * v + T a - 48) (a + 1) q.2.1
      omega
    · exact ⟨Nat.le_refl _, h⟩
theorem L14_spec (M : jB) (lo most : Int32) {X : jB} {T : Nat → Int32} {L : Nat} (h : tx X T L) : ∀ (n f : Nat) (v d : Int32) (a : Nat), a ≤ L → 0 ≤ d.toInt → d.toInt + n = most.toInt → n ≤ f → L_X8_number_14 M lo most (f + 1) v d (st X a 0) = ((nl T L n v a).1, st X (nl T L n v a).2 0)
  | 0, f, v, d, a, ha, hd0, hd, hf => by
    rw [L_X8_number_14, st_66, if_pos rfl]
    have : most ≤ d := by rw [i_le]; omega
    rw [if_pos this]
    split <;> rfl
  | n + 1, f, v, d, a, ha, hd0, hd, hf => by
    have hL := h.2.2
    have hh := i_hi most
    obtain ⟨f', rfl⟩ : ∃ f', f = f' + 1 := ⟨f - 1, by omega⟩
    have z0 : (0 : Int32).toInt = 0 := rfl
    have z48 : (48 : Int32).toInt = 48 := rfl
    have z57 : (57 : Int32).toInt = 57 := rfl
    rw [L_X8_number_14, st_66, if_pos rfl, if_neg (show ¬ (most ≤ d) by rw [i_le]; omega), st_65, st_6 X a 0 (by decide) (by decide), st_r X a 0 (by decide : 4 ≠ 6), h.1, h.2.1, an_tn (by omega)]
    unfold nl
    by_cases p : 0 < v.toInt
    · rw [if_neg (show ¬ (v ≤ 0) by rw [i_le]; omega)]
      by_cases g : a < L
      · rw [if_neg (show ¬ (Int32.ofNat L ≤ Int32.ofNat a) by rw [i_le, an_toInt (by omega), an_toInt (by omega)]; omega)]
        rcases in_cases (T a) 48 57 with c | c
        · rw [if_pos c.1, if_neg (fun q => c.2 ⟨q.2.2.1, q.2.2.2⟩)]
        · have hs := sign_0 h (a := a) (by omega) 48 57 (by decide)
          rw [if_pos g, if_pos ⟨g, c.2⟩] at hs
          rw [if_neg (show ¬ (r_X8_in (T a) 48 57 = 0) by rw [c.1]; exact one_ne), hs, if_pos ⟨p, g, c.2.1, c.2.2⟩]
          exact L14_spec M lo most h n f' _ (d + 1) (a + 1) (by omega) (by rw [ii_succ (by omega)]; omega) (by rw [ii_succ (by omega)]; omega) (by omega)
      · rw [if_pos (show Int32.ofNat L ≤ Int32.ofNat a by rw [i_le, an_toInt (by omega), an_toInt (by omega)]; omega), if_neg (fun q => g q.2.1)]
    · rw [if_pos (show v ≤ 0 by rw [i_le]; omega), if_neg (fun q => p q.1)]
theorem number_0 {X : jB} {T : Nat → Int32} {L : Nat} (h : tx X T L) {a : Nat} (ha : a ≤ L) (lo most : Int32) (hlo : 0 < lo.toInt) (hm : 1 ≤ most.toInt) :
    (∀ v b, numb T L lo.toInt most.toInt.toNat a = some (v, b) → r_X8_number (st X a 0) lo most = (v, st X b 0) ∧ a < b ∧ b ≤ L) ∧ (numb T L lo.toInt most.toInt.toNat a = none → (r_X8_number (st X a 0) lo most).2 = st X a 1) := by
  have hL := h.2.2
  have hh := i_hi most
  have z1 : (1 : Int32).toInt = 1 := rfl
  have z57 : (57 : Int32).toInt = 57 := rfl
  have hs := sign_0 h (a := a) (by omega) lo 57 hlo
  unfold r_X8_number numb
  rw [hs]
  refine ⟨fun v b e => ?_, fun e => ?_⟩
  · by_cases g : isd T L lo.toInt a
    · rw [if_pos g] at e
      injection e with e
      have g' := g
      unfold isd at g'
      have g3 : a < L ∧ lo.toInt ≤ (T a).toInt ∧ (T a).toInt ≤ (57 : Int32).toInt := ⟨g'.1, g'.2.1, by rw [z57]; exact g'.2.2⟩
      dsimp only
      rw [if_pos g3, if_pos g'.1]
      have sp := L14_spec (st X a 0) lo most h (most.toInt.toNat - 1) (most.toInt - (1 : Int32).toInt).toNat (T a - 48) 1 (a + 1) (by omega) (by decide) (by rw [z1]; omega) (by rw [z1]; omega)
      have bd := nl_bd T L (most.toInt.toNat - 1) (T a - 48) (a + 1) (by omega)
      refine ⟨?_, ?_, ?_⟩
      · rw [sp, e]
      · rw [e] at bd; exact Nat.lt_of_lt_of_le (Nat.lt_succ_self a) bd.1
      · rw [e] at bd; exact bd.2
    · rw [if_neg g] at e; exact absurd e (by simp)
  · by_cases g : isd T L lo.toInt a
    · rw [if_pos g] at e; exact absurd e (by simp)
    · have g2 : ¬ (a < L ∧ lo.toInt ≤ (T a).toInt ∧ (T a).toInt ≤ (57 : Int32).toInt) := g
      dsimp only
      rw [if_neg g2, L_X8_number_14, st_66, if_neg one_ne]
theorem number_1 {X : jB} {T : Nat → Int32} {L : Nat} (h : tx X T L) {a : Nat} (lo most : Int32) : (r_X8_number (st X a 1) lo most).2 = st X a 1 := by
  unfold r_X8_number
  rw [sign_1 h, L_X8_number_14, st_66, if_neg one_ne]
/-- one payment, as the reference reads it -/
theorem pay1_st {X : jB} {T : Nat → Int32} {L : Nat} (h : tx X T L) {a : Nat} (ha : a ≤ L) :
    (∀ v m e, pay1 T L a = .ok ((v, m), e) → (r_X8_number (st X a 0) 48 2).1 = v ∧ r_X8_number (z_X8_go_1 (st X a 0)) 49 7 = (m, st X e 0) ∧ a + 3 ≤ e ∧ e ≤ L) ∧ (∀ b, pay1 T L a = .error b → (r_X8_number (z_X8_go_1 (st X a 0)) 49 7).2 = st X b 1 ∧ b ≤ L)
    ∧ ∃ c w, c ≤ L ∧ (r_X8_number (st X a 0) 48 2).2 = st X c w ∧ ∃ c2 w2, c2 ≤ L ∧ z_X8_go_1 (st X a 0) = st X c2 w2 := by
  have hL := h.2.2
  have z61 : (61 : Int32).toInt = 61 := rfl
  have n1 := number_0 h ha 48 2 (by decide) (by decide)
  unfold z_X8_go_1 pay1
  have e48 : numb T L 48 2 a = numb T L (48 : Int32).toInt (2 : Int32).toInt.toNat a := rfl
  rw [e48]
  cases hn : numb T L (48 : Int32).toInt (2 : Int32).toInt.toNat a with
  | none =>
    have r1 := n1.2 hn
    rw [r1, sign_1 h]
    refine ⟨fun v m e q => absurd q (by simp), fun b q => ?_, a, 1, ha, rfl, a, 1, ha, rfl⟩
    injection q with q
    subst q
    exact ⟨number_1 h 49 7, ha⟩
  | some vb =>
    obtain ⟨v, b⟩ := vb
    obtain ⟨r1, ab, bL⟩ := n1.1 v b hn
    have hs := sign_0 h (a := b) (by omega) 61 61 (by decide)
    rw [r1]
    show (∀ v_1 m e, (if b < L ∧ T b = 61 then (match numb T L 49 7 (b + 1) with
      | none => Except.error (b + 1)
      | some (m, e) => Except.ok ((v, m), e)) else Except.error b) = Except.ok ((v_1, m), e) → v = v_1 ∧ _) ∧ (∀ b_1, (if b < L ∧ T b = 61 then (match numb T L 49 7 (b + 1) with
      | none => Except.error (b + 1)
      | some (m, e) => Except.ok ((v, m), e)) else Except.error b) = Except.error b_1 → _) ∧ _
    dsimp only
    rw [hs]
    by_cases g : b < L ∧ T b = 61
    · have g2 : b < L ∧ (61 : Int32).toInt ≤ (T b).toInt ∧ (T b).toInt ≤ (61 : Int32).toInt := ⟨g.1, by rw [g.2]; omega, by rw [g.2]; omega⟩
      rw [if_pos g, if_pos g2]
      have n2 := number_0 h (a := b + 1) (by omega) 49 7 (by decide) (by decide)
      have e49 : numb T L 49 7 (b + 1) = numb T L (49 : Int32).toInt (7 : Int32).toInt.toNat (b + 1) := rfl
      rw [e49]
      cases hm : numb T L (49 : Int32).toInt (7 : Int32).toInt.toNat (b + 1) with
      | none =>
        have r2 := n2.2 hm
        refine ⟨fun v m e q => absurd q (by simp), fun b' q => ?_, b, 0, bL, rfl, b + 1, 0, by omega, rfl⟩
        injection q with q
        subst q
        exact ⟨r2, by omega⟩
      | some me =>
        obtain ⟨m, e⟩ := me
        obtain ⟨r2, be, eL⟩ := n2.1 m e hm
        refine ⟨fun v' m' e' q => ?_, fun b' q => absurd q (by simp), b, 0, bL, rfl, b + 1, 0, by omega, rfl⟩
        injection q with q
        injection q with q1 q2
        injection q1 with q3 q4
        subst q2 q3 q4
        exact ⟨rfl, r2, by omega, eL⟩
    · have g2 : ¬ (b < L ∧ (61 : Int32).toInt ≤ (T b).toInt ∧ (T b).toInt ≤ (61 : Int32).toInt) := fun q => g ⟨q.1, by rw [i_eq]; omega⟩
      rw [if_neg g, if_neg g2]
      refine ⟨fun v m e q => absurd q (by simp), fun b' q => ?_, b, 0, bL, rfl, b, 1, bL, rfl⟩
      injection q with q
      subst q
      exact ⟨number_1 h 49 7, bL⟩
