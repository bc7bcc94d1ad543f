/-- the same but for payment j's numbers -/
def Dn (j : Nat) (K K' : Nat → jB) : Prop := (∀ b, b ≠ 7 → K' b = K b) ∧ (∀ r k, ¬ ((r = 1 ∨ r = 2) ∧ k = j) → K' 7 r k = K 7 r k)
theorem Dn_refl (j : Nat) (K : Nat → jB) : Dn j K K := ⟨fun _ _ => rfl, fun _ _ _ => rfl⟩
theorem Dn_trans {j : Nat} {K K' K'' : Nat → jB} (h : Dn j K K') (g : Dn j K' K'') : Dn j K K'' := ⟨fun b hb => by rw [g.1 b hb, h.1 b hb], fun r k hr => by rw [g.2 r k hr, h.2 r k hr]⟩
theorem Dn_up {j : Nat} (K : Nat → jB) {r : Nat} (v : Int32) (hr : r = 1 ∨ r = 2) : Dn j K (up3 K 7 r j v) := by
  refine ⟨fun b hb => by rw [up3_at, if_neg hb], fun r1 k1 h => ?_⟩
  rw [up3_at, if_pos rfl, up2_at, if_neg (by omega)]
theorem kx_Dn {K K' : Nat → jB} {T : Nat → Int32} {L j : Nat} (h : kx K T L) (d : Dn j K K') : kx K' T L := ⟨fun q hq => by rw [d.2 0 q (by omega)]; exact h.1 q hq, by rw [d.2 5 0 (by omega)]; exact h.2.1, h.2.2⟩
def rn (K0 K6 : Nat → jB) (v : Int32) (j i : Nat) : Nat → jB := L_X6_readNumbers_6 K0 (61 - i) v (Int32.ofNat j) (Int32.ofNat i) K6
theorem rn_step (K0 : Nat → jB) {K6 : Nat → jB} {T : Nat → Int32} {L : Nat} (h : kx K6 T L) {i : Nat} (hi : i < L) (v : Int32) {j : Nat} (hj : j + 1 < 60) :
    ((T i).toInt = 61 → rn K0 K6 v j i = rn K0 (up3 K6 7 1 j v) 0 j (i + 1)) ∧ ((T i).toInt = 44 → rn K0 K6 v j i = rn K0 K6 0 (j + 1) (i + 1)) ∧ (48 ≤ (T i).toInt → (T i).toInt ≤ 57 → rn K0 K6 v j i = rn K0 (up3 K6 7 2 j (10 * v + T i - 48)) (10 * v + T i - 48) j (i + 1)) := by
  have hL := h.2.2
  have z61 : (61 : Int32).toInt = 61 := rfl
  have z44 : (44 : Int32).toInt = 44 := rfl
  have z60 : (60 : Int32).toInt = 60 := rfl
  have e : 61 - i = (61 - (i + 1)) + 1 := by omega
  have g1 : ¬ (K6 7 5 0 ≤ Int32.ofNat i) := by rw [h.2.1, le_Ln hL (by omega)]; omega
  have g2 : ¬ ((60 : Int32) ≤ Int32.ofNat i) := by rw [i_le, an_toInt (by omega)]; omega
  have et : K6 7 0 (Int32.ofNat i).toNatClampNeg = T i := by rw [an_tn (by omega), h.1 i hi]
  unfold rn
  rw [e, L_X6_readNumbers_6, if_neg g1, if_neg g2, et, an_1, an_1]
  refine ⟨fun q => ?_, fun q => ?_, fun q1 q2 => ?_⟩
  · rw [if_pos (show T i = 61 by rw [i_eq]; omega), an_tn (by omega)]
  · rw [if_neg (show ¬ (T i = 61) by rw [i_eq]; omega), if_pos (show T i = 44 by rw [i_eq]; omega), if_neg (show ¬ ((60 : Int32) ≤ Int32.ofNat (j + 1)) by rw [i_le, an_toInt (by omega)]; omega)]
  · rw [if_neg (show ¬ (T i = 61) by rw [i_eq]; omega), if_neg (show ¬ (T i = 44) by rw [i_eq]; omega)]
    unfold z_X6_readNumbers_0
    rw [et, an_tn (by omega), show v * 10 + (T i - 48) = 10 * v + T i - 48 by grind]
theorem rn_end (K0 : Nat → jB) {K6 : Nat → jB} {T : Nat → Int32} {L : Nat} (h : kx K6 T L) (v : Int32) (j : Nat) : rn K0 K6 v j L = up3 K6 7 5 1 (Int32.ofNat (j + 1)) := by
  have hL := h.2.2
  have e : 61 - L = (60 - L) + 1 := by omega
  have g1 : K6 7 5 0 ≤ Int32.ofNat L := by rw [h.2.1, le_Ln hL hL]; exact Nat.le_refl L
  unfold rn
  rw [e, L_X6_readNumbers_6, if_pos g1, an_1]
theorem nl_run (K0 : Nat → jB) {T : Nat → Int32} {L : Nat} {j : Nat} (hj : j + 1 < 60) : ∀ (n : Nat) (v : Int32) (a : Nat) (K6 : Nat → jB), kx K6 T L → K6 7 2 j = v → ∃ K6', Dn j K6 K6' ∧ K6' 7 1 j = K6 7 1 j ∧ K6' 7 2 j = (nl T L n v a).1 ∧ rn K0 K6 v j a = rn K0 K6' (nl T L n v a).1 j (nl T L n v a).2
  | 0, v, a, K6, h, hv => ⟨K6, Dn_refl j K6, rfl, hv, rfl⟩
  | n + 1, v, a, K6, h, hv => by
    unfold nl
    by_cases g : 0 < v.toInt ∧ isd T L 48 a
    · have g' := g.2
      unfold isd at g'
      rw [if_pos g]
      have d1 : Dn j K6 (up3 K6 7 2 j (10 * v + T a - 48)) := Dn_up K6 _ (Or.inr rfl)
      obtain ⟨K', i1, i2, i3, i4⟩ := nl_run K0 hj n (10 * v + T a - 48) (a + 1) (up3 K6 7 2 j (10 * v + T a - 48)) (kx_Dn h d1) (by rw [up3_at, if_pos rfl, up2_at, if_pos ⟨rfl, rfl⟩])
      refine ⟨K', Dn_trans d1 i1, ?_, i3, ?_⟩
      · rw [i2, up3_at, if_pos rfl, up2_at, if_neg (by omega)]
      · rw [(rn_step K0 h g'.1 v hj).2.2 g'.2.1 g'.2.2]; exact i4
    · rw [if_neg g]
      exact ⟨K6, Dn_refl j K6, rfl, hv, rfl⟩
theorem numb_run (K0 : Nat → jB) {T : Nat → Int32} {L : Nat} {j : Nat} (hj : j + 1 < 60) {lo : Int} (hlo : 48 ≤ lo) {most a : Nat} {v : Int32} {b : Nat} (hn : numb T L lo most a = some (v, b)) {K6 : Nat → jB} (h : kx K6 T L) : ∃ K6', Dn j K6 K6' ∧ K6' 7 1 j = K6 7 1 j ∧ K6' 7 2 j = v ∧ rn K0 K6 0 j a = rn K0 K6' v j b := by
  unfold numb at hn
  by_cases g : isd T L lo a
  · have g' := g
    unfold isd at g'
    rw [if_pos g] at hn
    injection hn with hn
    have s := (rn_step K0 h g'.1 0 hj).2.2 (by omega) g'.2.2
    rw [show (10 : Int32) * 0 + T a - 48 = T a - 48 by grind] at s
    have d1 : Dn j K6 (up3 K6 7 2 j (T a - 48)) := Dn_up K6 _ (Or.inr rfl)
    obtain ⟨K', i1, i2, i3, i4⟩ := nl_run K0 hj (most - 1) (T a - 48) (a + 1) (up3 K6 7 2 j (T a - 48)) (kx_Dn h d1) (by rw [up3_at, if_pos rfl, up2_at, if_pos ⟨rfl, rfl⟩])
    rw [hn] at i3 i4
    refine ⟨K', Dn_trans d1 i1, ?_, i3, ?_⟩
    · rw [i2, up3_at, if_pos rfl, up2_at, if_neg (by omega)]
    · rw [s]; exact i4
  · rw [if_neg g] at hn; exact absurd hn (by simp)
theorem pay1_rn (K0 : Nat → jB) {T : Nat → Int32} {L : Nat} {j : Nat} (hj : j + 1 < 60) {a : Nat} {v m : Int32} {e : Nat} (hp : pay1 T L a = .ok ((v, m), e)) {K6 : Nat → jB} (h : kx K6 T L) : ∃ K6', Dn j K6 K6' ∧ K6' 7 1 j = v ∧ K6' 7 2 j = m ∧ rn K0 K6 0 j a = rn K0 K6' m j e ∧ a + 3 ≤ e ∧ e ≤ L := by
  have z61 : (61 : Int32).toInt = 61 := rfl
  unfold pay1 at hp
  cases hn : numb T L 48 2 a with
  | none => rw [hn] at hp; exact absurd hp (by simp)
  | some vb =>
    obtain ⟨v', b⟩ := vb
    rw [hn] at hp
    dsimp only at hp
    by_cases g : b < L ∧ T b = 61
    · rw [if_pos g] at hp
      cases hm : numb T L 49 7 (b + 1) with
      | none => rw [hm] at hp; exact absurd hp (by simp)
      | some me =>
        obtain ⟨m', e2⟩ := me
        rw [hm] at hp
        injection hp with hp
        injection hp with hp he
        injection hp with hv hmm
        subst hv hmm he
        obtain ⟨K1, a1, a2, a3, a4⟩ := numb_run K0 hj (by decide) hn h
        have h1 := kx_Dn h a1
        have s := (rn_step K0 h1 g.1 v' hj).1 (by rw [g.2]; exact z61)
        have d2 : Dn j K1 (up3 K1 7 1 j v') := Dn_up K1 _ (Or.inl rfl)
        obtain ⟨K2, b1, b2, b3, b4⟩ := numb_run K0 hj (by decide) hm (kx_Dn h1 d2)
        have bd : a < b ∧ b + 1 < e2 ∧ e2 ≤ L := by
          unfold numb at hn hm
          by_cases g1 : isd T L 48 a
          · by_cases g2 : isd T L 49 (b + 1)
            · rw [if_pos g1] at hn
              rw [if_pos g2] at hm
              injection hn with hn
              injection hm with hm
              have x1 := nl_bd T L (2 - 1) (T a - 48) (a + 1) g1.1
              have x2 := nl_bd T L (7 - 1) (T (b + 1) - 48) (b + 1 + 1) g2.1
              rw [hn] at x1
              rw [hm] at x2
              have y1 : a + 1 ≤ b := x1.1
              have y2 : b + 1 + 1 ≤ e2 := x2.1
              have y3 : e2 ≤ L := x2.2
              omega
            · rw [if_neg g2] at hm; exact absurd hm (by simp)
          · rw [if_neg g1] at hn; exact absurd hn (by simp)
        refine ⟨K2, Dn_trans (Dn_trans a1 d2) b1, ?_, b3, ?_, by omega, bd.2.2⟩
        · rw [b2, up3_at, if_pos rfl, up2_at, if_pos ⟨rfl, rfl⟩]
        · rw [a4, s]; exact b4
    · rw [if_neg g] at hp; exact absurd hp (by simp)
/-- the fund but for the text's numbers -/
def Dt (j : Nat) (K K' : Nat → jB) : Prop := (∀ b, b ≠ 7 → K' b = K b) ∧ (∀ r k, ¬ ((r = 1 ∨ r = 2) ∧ j ≤ k) → ¬ (r = 5 ∧ k = 1) → K' 7 r k = K 7 r k)
theorem pall_rn (K0 : Nat → jB) {T : Nat → Int32} {L : Nat} : ∀ (f a j : Nat) (l : List (Int32 × Int32)) (K6 : Nat → jB), kx K6 T L → j ≤ a → pall T L f a = .ok l → Dt j K6 (rn K0 K6 0 j a) ∧ rn K0 K6 0 j a 7 5 1 = Int32.ofNat (j + l.length) ∧ (∀ q (hq : q < l.length), rn K0 K6 0 j a 7 1 (j + q) = l[q].1 ∧ rn K0 K6 0 j a 7 2 (j + q) = l[q].2)
  | 0, a, j, l, K6, h, hj, hp => by unfold pall at hp; exact absurd hp (by simp)
  | f + 1, a, j, l, K6, h, hj, hp => by
    have hL := h.2.2
    have z44 : (44 : Int32).toInt = 44 := rfl
    unfold pall at hp
    cases h1 : pay1 T L a with
    | error b => rw [h1] at hp; exact absurd hp (by simp)
    | ok pe =>
      obtain ⟨⟨v, m⟩, e⟩ := pe
      rw [h1] at hp
      dsimp only at hp
      by_cases q : L ≤ e
      · rw [if_pos q] at hp
        injection hp with hp
        subst hp
        have hj60 : j + 1 < 60 := by
          have : a + 3 ≤ e ∧ e ≤ L := by
            obtain ⟨_, _, _, _, _, x1, x2⟩ := pay1_rn K0 (j := 0) (by decide) h1 h
            exact ⟨x1, x2⟩
          omega
        obtain ⟨K', d1, d2, d3, d4, d5, d6⟩ := pay1_rn K0 hj60 h1 h
        have eL : e = L := by omega
        rw [eL] at d4
        rw [d4, rn_end K0 (kx_Dn h d1)]
        refine ⟨⟨fun b hb => ?_, fun r k h3 h4 => ?_⟩, ?_, ?_⟩
        · rw [up3_at, if_neg hb, d1.1 b hb]
        · rw [up3_at, if_pos rfl, up2_at, if_neg h4, d1.2 r k (by omega)]
        · rw [up3_at, if_pos rfl, up2_at, if_pos ⟨rfl, rfl⟩]; rfl
        · intro q hq
          have q0 : q = 0 := by
            have : q < 1 := hq
            omega
          subst q0
          rw [up3_at, if_pos rfl, up2_at, if_neg (by omega), up2_at, if_neg (by omega)]
          exact ⟨d2, d3⟩
      · rw [if_neg q] at hp
        by_cases t : T e = 44
        · rw [if_pos t] at hp
          cases h2 : pall T L f (e + 1) with
          | error b => rw [h2] at hp; exact absurd hp (by simp)
          | ok l2 =>
            rw [h2] at hp
            injection hp with hp
            subst hp
            have hj60 : j + 1 < 60 := by
              have : a + 3 ≤ e ∧ e ≤ L := by
                obtain ⟨_, _, _, _, _, x1, x2⟩ := pay1_rn K0 (j := 0) (by decide) h1 h
                exact ⟨x1, x2⟩
              omega
            obtain ⟨K', d1, d2, d3, d4, d5, d6⟩ := pay1_rn K0 hj60 h1 h
            have h' := kx_Dn h d1
            have s := (rn_step K0 h' (i := e) (by omega) m hj60).2.1 (by rw [t]; exact z44)
            obtain ⟨i1, i2, i3⟩ := pall_rn K0 f (e + 1) (j + 1) l2 K' h' (by omega) h2
            rw [d4, s]
            refine ⟨⟨fun b hb => ?_, fun r k h3 h4 => ?_⟩, ?_, ?_⟩
            · rw [i1.1 b hb, d1.1 b hb]
            · rw [i1.2 r k (by omega) h4, d1.2 r k (by omega)]
            · rw [i2, List.length_cons]
              congr 1; omega
            · intro q hq
              cases q with
              | zero =>
                have x1 := i1.2 1 j (by omega) (by omega)
                have x2 := i1.2 2 j (by omega) (by omega)
                exact ⟨x1.trans d2, x2.trans d3⟩
              | succ q =>
                have := i3 q (by rw [List.length_cons] at hq; omega)
                rw [show j + (q + 1) = j + 1 + q by omega]
                exact this
        · rw [if_neg t] at hp; exact absurd hp (by simp)
