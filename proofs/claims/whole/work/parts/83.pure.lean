theorem pb_0 (c : Int32) : (c.toInt = 48 → r_X6_placeBehind 0 c = 2) ∧ (49 ≤ c.toInt → c.toInt ≤ 57 → r_X6_placeBehind 0 c = 1) ∧ (¬ (48 ≤ c.toInt ∧ c.toInt ≤ 57) → r_X6_placeBehind 0 c = -1) := by
  have z48 : (48 : Int32).toInt = 48 := rfl
  have z57 : (57 : Int32).toInt = 57 := rfl
  unfold r_X6_placeBehind
  simp only [i_lt, i_eq, z48, z57]
  refine ⟨fun h => ?_, fun h1 h2 => ?_, fun h => ?_⟩
  · rw [if_neg (by omega), if_neg (by omega)]; simp [h]
  · rw [if_neg (by omega), if_neg (by omega)]
    simp
    rw [if_neg (by omega)]; rfl
  · by_cases a : c.toInt < 48
    · rw [if_pos a]; simp; rw [if_neg (by omega)]; rfl
    · rw [if_neg a, if_pos (by omega)]; simp; rw [if_neg (by omega)]; rfl
theorem pb_1 (c : Int32) : (c.toInt = 61 → r_X6_placeBehind 1 c = 3) ∧ (48 ≤ c.toInt → c.toInt ≤ 57 → r_X6_placeBehind 1 c = 2) ∧ (¬ (48 ≤ c.toInt ∧ c.toInt ≤ 57) → c.toInt ≠ 61 → r_X6_placeBehind 1 c = -1) := by
  have z48 : (48 : Int32).toInt = 48 := rfl
  have z57 : (57 : Int32).toInt = 57 := rfl
  have z61 : (61 : Int32).toInt = 61 := rfl
  have z1 : (1 : Int32).toInt = 1 := rfl
  have z0 : (0 : Int32).toInt = 0 := rfl
  unfold r_X6_placeBehind
  simp only [i_lt, i_eq, z48, z57, z61, z1, z0]
  refine ⟨fun h => ?_, fun h1 h2 => ?_, fun h h2 => ?_⟩
  · rw [if_neg (by omega), if_pos (by omega)]; simp [h]
  · rw [if_neg (by omega), if_neg (by omega)]
    simp
    rw [if_neg (by omega)]; rfl
  · by_cases a : c.toInt < 48
    · rw [if_pos a]; simp; rw [if_neg h2]; rfl
    · rw [if_neg a, if_pos (by omega)]; simp; rw [if_neg h2]; rfl
theorem pb_2 (c : Int32) : (c.toInt = 61 → r_X6_placeBehind 2 c = 3) ∧ (c.toInt ≠ 61 → r_X6_placeBehind 2 c = -1) := by
  have z48 : (48 : Int32).toInt = 48 := rfl
  have z57 : (57 : Int32).toInt = 57 := rfl
  have z61 : (61 : Int32).toInt = 61 := rfl
  have z2 : (2 : Int32).toInt = 2 := rfl
  have z1 : (1 : Int32).toInt = 1 := rfl
  have z0 : (0 : Int32).toInt = 0 := rfl
  unfold r_X6_placeBehind
  simp only [i_lt, i_eq, z48, z57, z61, z1, z0, z2]
  refine ⟨fun h => ?_, fun h2 => ?_⟩
  · rw [if_neg (by omega), if_pos (by omega)]; simp [h]
  · simp [h2]
theorem pb_3 (c : Int32) : (49 ≤ c.toInt → c.toInt ≤ 57 → r_X6_placeBehind 3 c = 4) ∧ (¬ (49 ≤ c.toInt ∧ c.toInt ≤ 57) → r_X6_placeBehind 3 c = -1) := by
  have z48 : (48 : Int32).toInt = 48 := rfl
  have z57 : (57 : Int32).toInt = 57 := rfl
  have z3 : (3 : Int32).toInt = 3 := rfl
  have z2 : (2 : Int32).toInt = 2 := rfl
  have z1 : (1 : Int32).toInt = 1 := rfl
  have z0 : (0 : Int32).toInt = 0 := rfl
  unfold r_X6_placeBehind
  simp only [i_lt, i_eq, z48, z57, z1, z0, z2, z3]
  refine ⟨fun h1 h2 => ?_, fun h => ?_⟩
  · rw [if_neg (by omega), if_neg (by omega)]; simp; rw [if_neg (by omega)]; rfl
  · by_cases a : c.toInt < 48
    · rw [if_pos a]; simp
    · rw [if_neg a]
      by_cases b : 57 < c.toInt
      · rw [if_pos b]; simp
      · rw [if_neg b]; simp; rw [if_pos (by omega)]; rfl
theorem pb_4 (c : Int32) {p : Nat} (h4 : 4 ≤ p) (h10 : p ≤ 10) : (c.toInt = 44 → r_X6_placeBehind (Int32.ofNat p) c = 0) ∧ (48 ≤ c.toInt → c.toInt ≤ 57 → p < 10 → r_X6_placeBehind (Int32.ofNat p) c = Int32.ofNat (p + 1)) ∧ (c.toInt ≠ 44 → (¬ (48 ≤ c.toInt ∧ c.toInt ≤ 57) ∨ p = 10) → r_X6_placeBehind (Int32.ofNat p) c = -1) := by
  have z48 : (48 : Int32).toInt = 48 := rfl
  have z57 : (57 : Int32).toInt = 57 := rfl
  have z44 : (44 : Int32).toInt = 44 := rfl
  have z3 : (3 : Int32).toInt = 3 := rfl
  have z2 : (2 : Int32).toInt = 2 := rfl
  have z1 : (1 : Int32).toInt = 1 := rfl
  have z0 : (0 : Int32).toInt = 0 := rfl
  have z10 : (10 : Int32).toInt = 10 := rfl
  have zp : (Int32.ofNat p).toInt = p := an_toInt (by omega)
  have g0 : ¬ (Int32.ofNat p = 0) := by rw [i_eq, zp, z0]; omega
  have g1 : ¬ (Int32.ofNat p = 1) := by rw [i_eq, zp, z1]; omega
  have g2 : ¬ (Int32.ofNat p = 2) := by rw [i_eq, zp, z2]; omega
  have g3 : ¬ (Int32.ofNat p = 3) := by rw [i_eq, zp, z3]; omega
  unfold r_X6_placeBehind
  rw [an_1]
  simp only [if_neg g0, if_neg g1, if_neg g2, if_neg g3]
  refine ⟨fun h => ?_, fun h1 h2 hp => ?_, fun h h2 => ?_⟩
  · rw [if_pos (show c < 48 by rw [i_lt]; omega), if_pos (show c = 44 by rw [i_eq]; omega)]
  · rw [if_neg (show ¬ (c < 48) by rw [i_lt]; omega), if_neg (show ¬ (57 < c) by rw [i_lt]; omega), if_neg (show ¬ (c = 44) by rw [i_eq]; omega), if_neg (show ¬ ((10 : Int32) ≤ Int32.ofNat p) by rw [i_le]; omega)]
  · have n44 : ¬ (c = 44) := by rw [i_eq]; omega
    simp only [if_neg n44]
    rcases h2 with h2 | h2
    · by_cases a : c < 48
      · rw [if_pos a]
      · rw [if_neg a, if_pos (show 57 < c by rw [i_lt] at a ⊢; omega)]
    · split
      · rfl
      · split
        · rfl
        · rw [if_pos (show (10 : Int32) ≤ Int32.ofNat p by rw [i_le]; omega)]
/-- the text that the fund holds -/
def kx (K : Nat → jB) (T : Nat → Int32) (L : Nat) : Prop := (∀ j, j < L → K 7 0 j = T j) ∧ K 7 5 0 = Int32.ofNat L ∧ L ≤ 60
def rd (K : Nat → jB) (p i : Nat) : Int32 × (Nat → jB) := L_X6_read_9 K (61 - i) (Int32.ofNat p) (Int32.ofNat i)
theorem rd_step {K : Nat → jB} {T : Nat → Int32} {L : Nat} (h : kx K T L) {i : Nat} (hi : i < L) (p : Nat) : (r_X6_placeBehind (Int32.ofNat p) (T i) = -1 → rd K p i = (Int32.ofNat i, up3 K 7 5 1 0)) ∧ (∀ q : Nat, r_X6_placeBehind (Int32.ofNat p) (T i) = Int32.ofNat q → q < 100 → rd K p i = rd K q (i + 1)) := by
  have hL := h.2.2
  have z60 : (60 : Int32).toInt = 60 := rfl
  have e : 61 - i = (61 - (i + 1)) + 1 := by omega
  have g1 : ¬ (K 7 5 0 ≤ Int32.ofNat i) := by rw [h.2.1, le_Ln hL (by omega)]; omega
  have g2 : ¬ ((60 : Int32) ≤ Int32.ofNat i) := by rw [i_le, an_toInt (by omega)]; omega
  have et : K 7 0 (Int32.ofNat i).toNatClampNeg = T i := by rw [an_tn (by omega), h.1 i hi]
  unfold rd
  rw [e, L_X6_read_9, if_neg g1, if_neg g2, et, an_1]
  refine ⟨fun q => by rw [if_pos q], fun q hq hq2 => ?_⟩
  have : ¬ (Int32.ofNat q = -1) := by
    rw [i_eq, an_toInt (by omega), show (-1 : Int32).toInt = -1 from rfl]; omega
  rw [hq, if_neg this]
theorem rd_end {K : Nat → jB} {T : Nat → Int32} {L : Nat} (h : kx K T L) {p : Nat} (hp : p < 100) : rd K p L = if 3 < p then (-1, r_X6_readNumbers (up3 K 7 5 1 0)) else (Int32.ofNat L, up3 K 7 5 1 0) := by
  have hL := h.2.2
  have e : 61 - L = (60 - L) + 1 := by omega
  have g1 : K 7 5 0 ≤ Int32.ofNat L := by rw [h.2.1, le_Ln hL hL]; exact Nat.le_refl L
  unfold rd
  rw [e, L_X6_read_9, if_pos g1, h.2.1]
  have : ((3 : Int32) < Int32.ofNat p) ↔ 3 < p := by rw [i_lt, an_toInt (by omega), show (3 : Int32).toInt = 3 from rfl]; omega
  by_cases q : 3 < p
  · rw [if_pos q, if_pos (this.mpr q)]
  · rw [if_neg q, if_neg (fun r => q (this.mp r))]
theorem pow10 : ∀ n, n < 7 → 10 ^ (6 - n + 1) = 10 * 10 ^ (6 - n) ∧ 10 ^ (6 - n) ≤ 1000000 ∧ 1 ≤ 10 ^ (6 - n) := by decide
theorem amt_run {K : Nat → jB} {T : Nat → Int32} {L : Nat} (h : kx K T L) : ∀ (n : Nat) (v : Int32) (s : Nat), n ≤ 6 → s ≤ L → 1 ≤ v.toInt → v.toInt < ((10 ^ (6 - n + 1) : Nat) : Int) → ∃ n', n' ≤ 6 ∧ rd K (10 - n) s = rd K (10 - n') (nl T L n v s).2 ∧ (n' = 0 ∨ ¬ isd T L 48 (nl T L n v s).2)
  | 0, v, s, hn, hs, h1, h2 => ⟨0, by decide, rfl, Or.inl rfl⟩
  | n + 1, v, s, hn, hs, h1, h2 => by
    unfold nl
    by_cases g : isd T L 48 s
    · have g' := g
      unfold isd at g'
      rw [if_pos ⟨by omega, g⟩]
      have st := (rd_step h g'.1 (10 - (n + 1))).2 (10 - (n + 1) + 1) ((pb_4 (T s) (p := 10 - (n + 1)) (by omega) (by omega)).2.1 g'.2.1 g'.2.2 (by omega)) (by omega)
      rw [st, show 10 - (n + 1) + 1 = 10 - n by omega]
      have hp := pow10 n (by omega)
      have hp2 := pow10 (n + 1) (by omega)
      have hpj : 6 - (n + 1) + 1 = 6 - n := by omega
      rw [hpj] at h2
      have h9 : v.toInt < 1000000 := by have := hp.2.1; omega
      have e1 : (10 * v).toInt = 10 * v.toInt := by
        have z : (10 : Int32).toInt = 10 := rfl
        rw [i_mul] <;> rw [z] <;> omega
      have e2 : (10 * v + T s - 48).toInt = 10 * v.toInt + (T s).toInt - 48 := by
        have z : (48 : Int32).toInt = 48 := rfl
        have a : (10 * v + T s).toInt = 10 * v.toInt + (T s).toInt := by rw [i_add] <;> rw [e1] <;> omega
        rw [i_sub] <;> rw [a, z] <;> omega
      refine amt_run h n (10 * v + T s - 48) (s + 1) (by omega) (by omega) (by omega) ?_
      rw [e2, hp.1]
      omega
    · rw [if_neg (fun q => g q.2)]
      exact ⟨n + 1, hn, rfl, Or.inr g⟩
/-- one payment, as the class reads it -/
theorem pay1_rd {K : Nat → jB} {T : Nat → Int32} {L : Nat} (h : kx K T L) {a : Nat} (ha : a ≤ L) :
    (∀ p e, pay1 T L a = .ok (p, e) → ∃ pl, 4 ≤ pl ∧ pl ≤ 10 ∧ e ≤ L ∧ rd K 0 a = rd K pl e ∧ (pl = 10 ∨ ¬ isd T L 48 e)) ∧ (∀ b, pay1 T L a = .error b → rd K 0 a = (Int32.ofNat b, up3 K 7 5 1 0)) := by
  have hL := h.2.2
  have z48 : (48 : Int32).toInt = 48 := rfl
  have z61 : (61 : Int32).toInt = 61 := rfl
  unfold pay1
  cases hn : numb T L 48 2 a with
  | none =>
    refine ⟨fun p e q => absurd q (by simp), fun b q => ?_⟩
    injection q with q
    subst q
    unfold numb at hn
    by_cases g : isd T L 48 a
    · rw [if_pos g] at hn; exact absurd hn (by simp)
    · rcases Nat.lt_or_ge a L with r | r
      · exact (rd_step h r 0).1 ((pb_0 (T a)).2.2 (fun q => g ⟨r, q⟩))
      · have e : a = L := by omega
        subst e
        rw [rd_end h (by decide), if_neg (by decide)]
  | some vb =>
    obtain ⟨v, b⟩ := vb
    dsimp only
    -- the place after the first number
    have first : b ≤ L ∧ ∃ pl, (pl = 1 ∧ ¬ isd T L 48 b ∨ pl = 2) ∧ rd K 0 a = rd K pl b := by
      unfold numb at hn
      by_cases g : isd T L 48 a
      · have g' := g
        unfold isd at g'
        rw [if_pos g] at hn
        injection hn with hn
        by_cases z : (T a).toInt = 48
        · have s0 := (rd_step h g'.1 0).2 2 ((pb_0 (T a)).1 z) (by decide)
          have e0 : T a - 48 = 0 := by rw [i_eq, i_sub] <;> rw [z, z48] <;> decide
          have en : nl T L (2 - 1) (T a - 48) (a + 1) = (T a - 48, a + 1) := by
            show (if 0 < (T a - 48).toInt ∧ isd T L 48 (a + 1) then _ else _) = _
            rw [if_neg (fun q => by have := q.1; rw [e0] at this; exact absurd this (by decide))]
          rw [en] at hn
          injection hn with _ hb
          subst hb
          exact ⟨by omega, 2, Or.inr rfl, s0⟩
        · have s1 := (rd_step h g'.1 0).2 1 ((pb_0 (T a)).2.1 (by omega) g'.2.2) (by decide)
          have e0 : (T a - 48).toInt = (T a).toInt - 48 := by rw [i_sub] <;> rw [z48] <;> omega
          by_cases g2 : isd T L 48 (a + 1)
          · have g2' := g2
            unfold isd at g2'
            have en : nl T L (2 - 1) (T a - 48) (a + 1) = (10 * (T a - 48) + T (a + 1) - 48, a + 1 + 1) := by
              show (if 0 < (T a - 48).toInt ∧ isd T L 48 (a + 1) then nl T L 0 _ _ else _) = _
              rw [if_pos ⟨by omega, g2⟩]; rfl
            rw [en] at hn
            injection hn with _ hb
            subst hb
            have s2 := (rd_step h g2'.1 1).2 2 ((pb_1 (T (a + 1))).2.1 g2'.2.1 g2'.2.2) (by decide)
            exact ⟨by omega, 2, Or.inr rfl, s1.trans s2⟩
          · have en : nl T L (2 - 1) (T a - 48) (a + 1) = (T a - 48, a + 1) := by
              show (if 0 < (T a - 48).toInt ∧ isd T L 48 (a + 1) then _ else _) = _
              rw [if_neg (fun q => g2 q.2)]
            rw [en] at hn
            injection hn with _ hb
            subst hb
            exact ⟨by omega, 1, Or.inl ⟨rfl, g2⟩, s1⟩
      · rw [if_neg g] at hn; exact absurd hn (by simp)
    obtain ⟨bL, pl, hpl, er⟩ := first
    by_cases g : b < L ∧ T b = 61
    · rw [if_pos g]
      have t61 : (T b).toInt = 61 := by rw [g.2]; exact z61
      have s3 : rd K pl b = rd K 3 (b + 1) := by
        rcases hpl with ⟨q, _⟩ | q <;> subst q
        · exact (rd_step h g.1 1).2 3 ((pb_1 (T b)).1 t61) (by decide)
        · exact (rd_step h g.1 2).2 3 ((pb_2 (T b)).1 t61) (by decide)
      cases hm : numb T L 49 7 (b + 1) with
      | none =>
        refine ⟨fun p e q => absurd q (by simp), fun b' q => ?_⟩
        injection q with q
        subst q
        rw [er, s3]
        unfold numb at hm
        by_cases g2 : isd T L 49 (b + 1)
        · rw [if_pos g2] at hm; exact absurd hm (by simp)
        · rcases Nat.lt_or_ge (b + 1) L with r | r
          · exact (rd_step h r 3).1 ((pb_3 (T (b + 1))).2 (fun q => g2 ⟨r, q⟩))
          · have e : b + 1 = L := by omega
            rw [e, rd_end h (by decide), if_neg (by decide)]
      | some me =>
        obtain ⟨m, e⟩ := me
        refine ⟨fun p e' q => ?_, fun b' q => absurd q (by simp)⟩
        injection q with q
        injection q with q1 q2
        subst q2
        unfold numb at hm
        by_cases g2 : isd T L 49 (b + 1)
        · have g2' := g2
          unfold isd at g2'
          rw [if_pos g2] at hm
          injection hm with hm
          have e0 : (T (b + 1) - 48).toInt = (T (b + 1)).toInt - 48 := by rw [i_sub] <;> rw [z48] <;> omega
          have s4 := (rd_step h g2'.1 3).2 4 ((pb_3 (T (b + 1))).1 g2'.2.1 g2'.2.2) (by decide)
          obtain ⟨n', hn', r1, r2⟩ := amt_run h 6 (T (b + 1) - 48) (b + 1 + 1) (by decide) (by omega) (by omega) (by rw [e0]; show _ < (10 : Int); omega)
          have bd := nl_bd T L 6 (T (b + 1) - 48) (b + 1 + 1) (by omega)
          have hm' : nl T L 6 (T (b + 1) - 48) (b + 1 + 1) = (m, e) := hm
          rw [hm'] at r1 r2 bd
          refine ⟨10 - n', by omega, by omega, bd.2, ?_, ?_⟩
          · rw [er, s3, s4]; exact r1
          · rcases r2 with r2 | r2
            · left; omega
            · right; exact r2
        · rw [if_neg g2] at hm; exact absurd hm (by simp)
    · rw [if_neg g]
      refine ⟨fun p e q => absurd q (by simp), fun b' q => ?_⟩
      injection q with q
      subst q
      rw [er]
      rcases Nat.lt_or_ge b L with r | r
      · have t61 : (T b).toInt ≠ 61 := fun q => g ⟨r, by rw [i_eq]; omega⟩
        rcases hpl with ⟨q, nd⟩ | q <;> subst q
        · exact (rd_step h r 1).1 ((pb_1 (T b)).2.2 (fun q => nd ⟨r, q⟩) t61)
        · exact (rd_step h r 2).1 ((pb_2 (T b)).2 t61)
      · have e : b = L := by omega
        have lt : pl < 100 := by omega
        have ng : ¬ (3 < pl) := by omega
        rw [e, rd_end h lt, if_neg ng]
theorem read_all {K : Nat → jB} {T : Nat → Int32} {L : Nat} (h : kx K T L) : ∀ (f a : Nat), a ≤ L → L - a < 4 * f → (∀ b, pall T L f a = .error b → rd K 0 a = (Int32.ofNat b, up3 K 7 5 1 0)) ∧ (∀ l, pall T L f a = .ok l → rd K 0 a = (-1, r_X6_readNumbers (up3 K 7 5 1 0)))
  | 0, a, ha, hf => absurd hf (Nat.not_lt_zero _)
  | f + 1, a, ha, hf => by
    have z44 : (44 : Int32).toInt = 44 := rfl
    obtain ⟨ok, er⟩ := pay1_rd h ha
    unfold pall
    cases hp : pay1 T L a with
    | error b =>
      refine ⟨fun b' q => ?_, fun l q => absurd q (by simp)⟩
      injection q with q
      subst q
      exact er b hp
    | ok pe =>
      obtain ⟨p, e⟩ := pe
      obtain ⟨pl, p4, p10, eL, hr, hd⟩ := ok p e hp
      dsimp only
      have ae : a + 3 ≤ e := by
        unfold pay1 at hp
        cases hn : numb T L 48 2 a with
        | none => rw [hn] at hp; exact absurd hp (by simp)
        | some vb =>
          obtain ⟨v, b⟩ := vb
          rw [hn] at hp
          dsimp only at hp
          by_cases g : b < L ∧ T b = 61
          · rw [if_pos g] at hp
            cases hm : numb T L 49 7 (b + 1) with
            | none => rw [hm] at hp; exact absurd hp (by simp)
            | some me =>
              obtain ⟨m, e2⟩ := me
              rw [hm] at hp
              injection hp with hp
              injection hp with _ hp
              subst hp
              unfold numb at hn hm
              split at hn
              · injection hn with hn
                rename_i g1
                have b1 := nl_bd T L (2 - 1) (T a - 48) (a + 1) (by have := g1.1; omega)
                rw [hn] at b1
                split at hm
                · injection hm with hm
                  rename_i g2
                  have b2 := nl_bd T L (7 - 1) (T (b + 1) - 48) (b + 1 + 1) (by have := g2.1; omega)
                  rw [hm] at b2
                  have := b1.1
                  have := b2.1
                  simp only at *
                  omega
                · exact absurd hm (by simp)
              · exact absurd hn (by simp)
          · rw [if_neg g] at hp; exact absurd hp (by simp)
      rw [hr]
      by_cases q : L ≤ e
      · have e' : e = L := by omega
        rw [if_pos q]
        refine ⟨fun b' r => absurd r (by simp), fun l r => ?_⟩
        rw [e', rd_end h (by omega), if_pos (by omega)]
      · rw [if_neg q]
        by_cases t : T e = 44
        · rw [if_pos t]
          have s0 := (rd_step h (i := e) (by omega) pl).2 0 ((pb_4 (T e) p4 p10).1 (by rw [t]; exact z44)) (by decide)
          have ih := read_all h f (e + 1) (by omega) (by omega)
          rw [s0]
          refine ⟨fun b' r => ?_, fun l r => ?_⟩
          · cases hq : pall T L f (e + 1) with
            | error b2 =>
              rw [hq] at r
              injection r with r
              subst r
              exact ih.1 b2 hq
            | ok l2 => rw [hq] at r; exact absurd r (by simp)
          · cases hq : pall T L f (e + 1) with
            | error b2 => rw [hq] at r; exact absurd r (by simp)
            | ok l2 => exact ih.2 l2 hq
        · rw [if_neg t]
          refine ⟨fun b' r => ?_, fun l r => absurd r (by simp)⟩
          injection r with r
          subst r
          have n44 : (T e).toInt ≠ 44 := fun q => t (by rw [i_eq]; omega)
          refine (rd_step h (i := e) (by omega) pl).1 ((pb_4 (T e) p4 p10).2.2 n44 ?_)
          rcases hd with hd | hd
          · exact Or.inr hd
          · exact Or.inl (fun q2 => hd ⟨by omega, q2⟩)
