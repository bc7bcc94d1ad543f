theorem md0 : ∀ b, b < 9 → ∀ a, a < b → ((Int32.ofNat a + 1) - (Int32.ofNat a + 1) / Int32.ofNat b * Int32.ofNat b) = if a + 1 < b then Int32.ofNat a + 1 else 0 := by decide +kernel
theorem md_of {x m : Int32} (h0 : 0 ≤ x.toInt) (h1 : x.toInt < m.toInt) (hm : m.toInt ≤ 8) : ((x + 1) - (x + 1) / m * m) = if x.toNatClampNeg + 1 < m.toInt.toNat then x + 1 else 0 := by
  have e1 := an_of h0
  have e2 := an_of (b := m) (by omega)
  have := md0 m.toInt.toNat (by omega) x.toInt.toNat (by omega)
  rw [← e1, ← e2] at this
  rw [i_nat]
  exact this
theorem sM_5 (M : jB) (S : Nat → Int32) : sM M S 5 = S := rfl
theorem sM_ne (M : jB) (S : Nat → Int32) {r : Nat} (h : r ≠ 5) : sM M S r = M r := if_neg h
theorem sM_up (M : jB) (S : Nat → Int32) (k : Nat) (v : Int32) : up2 (sM M S) 5 k v = sM M (upd S k v) := by
  funext r
  by_cases e : r = 5
  · subst e; rw [up2_row]; rfl
  · rw [up2_row_ne e, sM_ne M S e, sM_ne M _ e]
def dT (m : Nat) (T : Nat → Int32) : Nat → Int32 := fun k => if k < m then T k else 0
theorem L152_spec {n : Nat} {M B : jB} (h : LB (M 0) B) (I : Inv n B) (loss : Int32) (T : Nat → Int32) : ∀ (c f : Nat) (x : Int32) (X : jB), 0 ≤ x.toInt → x.toInt + c = (B 16 0).toInt → c ≤ f → LB (X 0) (shF B (dT x.toNatClampNeg T)) → (∀ k, k < (B 16 0).toInt.toNat → X 5 k = T k) → (∀ r, r ≠ 0 → r ≠ 5 → X r = M r) →
    (LB ((L_X8_share_152 M loss (f + 1) x X) 0) (up2 (up2 (shF B (dT (B 16 0).toInt.toNat T)) 16 3 (B 16 3 + loss)) 16 7 (B 16 7 + loss)) ∧ ∀ r, r ≠ 0 → r ≠ 5 → (L_X8_share_152 M loss (f + 1) x X) r = M r) ∧ NL_X8_share_152 M loss (f + 1) x X
  | 0, f, x, X, h0, h1, hf, hX, hT, hr => by
    have ex : x.toNatClampNeg = (B 16 0).toInt.toNat := by rw [i_nat]; omega
    have g : (M 0 (8 : Int32).toNatClampNeg) ≤ x := by rw [rS8 h, i_le]; omega
    rw [L_X8_share_152, NL_X8_share_152, if_pos g]
    refine ⟨⟨?_, ?_⟩, fun _ => trivial, fun q => absurd g q⟩
    · rw [ex] at hX
      unfold z_X8_share_1
      have l1 : LB (z_X8_share_0 loss X 0) (up2 (shF B (dT (B 16 0).toInt.toNat T)) 16 3 (B 16 3 + loss)) := LB_up2 hX vS1 rfl (by rw [rS1 hX]; rfl)
      exact LB_up2 l1 vS13 rfl (by rw [rS13 l1, up2_at, if_neg (by omega)]; rfl)
    · intro r h0 h5
      unfold z_X8_share_1 z_X8_share_0
      rw [up2_row_ne h0, up2_row_ne h0, hr r h0 h5]
  | c + 1, f, x, X, h0, h1, hf, hX, hT, hr => by
    have hm := Inv_m I
    obtain ⟨f', rfl⟩ : ∃ f', f = f' + 1 := ⟨f - 1, by omega⟩
    have g : ¬ ((M 0 (8 : Int32).toNatClampNeg) ≤ x) := by rw [rS8 h, i_le]; omega
    rw [L_X8_share_152, NL_X8_share_152, if_neg g]
    have x8 : x.toInt < 8 := by omega
    have hTx := hT x.toNatClampNeg (by rw [i_nat]; omega)
    have l2 : LB (z_X8_share_2 x X 0) (up2 (shF B (dT x.toNatClampNeg T)) 2 x.toNatClampNeg (B 2 x.toNatClampNeg - T x.toNatClampNeg)) := by
      refine LB_up2 hX (vM2 h0 x8) (pM2 h0 x8) ?_
      rw [rM2 hX h0 x8, hTx]
      show B 2 x.toNatClampNeg - dT x.toNatClampNeg T x.toNatClampNeg - _ = _
      unfold dT
      rw [if_neg (by omega)]; grind
    have l3 : LB (z_X8_share_3 x X 0) (up2 (up2 (shF B (dT x.toNatClampNeg T)) 2 x.toNatClampNeg (B 2 x.toNatClampNeg - T x.toNatClampNeg)) 3 x.toNatClampNeg (B 3 x.toNatClampNeg + T x.toNatClampNeg)) := by
      refine LB_up2 l2 (vM3 h0 x8) (pM3 h0 x8) ?_
      rw [rM3 l2 h0 x8, hTx, up2_at, if_neg (by omega)]
      show B 3 x.toNatClampNeg + dT x.toNatClampNeg T x.toNatClampNeg + _ = _
      unfold dT
      rw [if_neg (by omega)]; grind
    have nx := nn_succ h0 (by omega)
    have ih := L152_spec h I loss T c f' (x + 1) (z_X8_share_3 x X) (by rw [ii_succ (by omega)]; omega) (by rw [ii_succ (by omega)]; omega) (by omega) ?_ ?_ ?_
    · exact ⟨ih.1, fun q => absurd q g, fun _ => ih.2⟩
    · refine LB_ext l3 ?_
      intro r k hv
      rw [up2_at, up2_at, nx]
      unfold shF dT
      generalize x.toNatClampNeg = p
      by_cases e3 : r = 3
      · subst e3
        by_cases ek : k = p
        · subst ek; simp
        · have : k < p ↔ k < p + 1 := by omega
          simp [ek, this]
      · by_cases e2 : r = 2
        · subst e2
          by_cases ek : k = p
          · subst ek; simp
          · have : k < p ↔ k < p + 1 := by omega
            simp [ek, this]
        · simp [e2, e3]
    · intro k hk
      unfold z_X8_share_3 z_X8_share_2
      rw [up2_row_ne (by decide), up2_row_ne (by decide)]; exact hT k hk
    · intro r h0 h5
      unfold z_X8_share_3 z_X8_share_2
      rw [up2_row_ne h0, up2_row_ne h0]; exact hr r h0 h5
theorem L102_spec {n : Nat} {M B : jB} (h : LB (M 0) B) (I : Inv n B) (loss : Int32) : ∀ (c f : Nat) (l x : Int32) (S : Nat → Int32), 0 ≤ x.toInt → x.toInt < (B 16 0).toInt → l.toInt.natAbs = c → c ≤ f →
    (LB ((L_X8_share_102 M loss (f + 1) l x (sM M S)) 0) (up2 (up2 (shF B (dT (B 16 0).toInt.toNat (rr (B 16 0).toInt.toNat (if 0 ≤ l then 1 else -1) c x.toNatClampNeg S))) 16 3 (B 16 3 + loss)) 16 7 (B 16 7 + loss)) ∧ ∀ r, r ≠ 0 → r ≠ 5 → (L_X8_share_102 M loss (f + 1) l x (sM M S)) r = M r) ∧ NL_X8_share_102 M loss (f + 1) l x (sM M S)
  | 0, f, l, x, S, h0, h1, hl, hf => by
    have hm := Inv_m I
    have z0 : (0 : Int32).toInt = 0 := rfl
    have e : l = 0 := by rw [i_eq]; omega
    rw [L_X8_share_102, NL_X8_share_102, if_pos e, rN8 h]
    have ih := L152_spec h I loss S (B 16 0).toInt.toNat (((B 16 0).toInt - (0 : Int32).toInt).toNat) 0 (sM M S) (by decide) (by rw [z0]; omega) (by omega) ?_ (fun k _ => rfl) (fun r _ h5 => sM_ne M S h5)
    · exact ⟨ih.1, fun _ => ih.2, fun q => absurd e q⟩
    · have : shF B (dT (0 : Int32).toNatClampNeg S) = B := sh0 B
      rw [this]; exact h
  | c + 1, f, l, x, S, h0, h1, hl, hf => by
    have hm := Inv_m I
    have z0 : (0 : Int32).toInt = 0 := rfl
    have zm : (-1 : Int32).toInt = -1 := rfl
    have z1 : (1 : Int32).toInt = 1 := rfl
    have lo := i_lo l
    have hh := i_hi l
    obtain ⟨f', rfl⟩ : ∃ f', f = f' + 1 := ⟨f - 1, by omega⟩
    have e : ¬ (l = 0) := by rw [i_eq, z0]; omega
    have hx8 : (B 16 0).toInt ≤ 8 := hm.2
    have nxt : 0 ≤ (if x.toNatClampNeg + 1 < (B 16 0).toInt.toNat then x + 1 else (0 : Int32)).toInt ∧ (if x.toNatClampNeg + 1 < (B 16 0).toInt.toNat then x + 1 else (0 : Int32)).toInt < (B 16 0).toInt ∧ (if x.toNatClampNeg + 1 < (B 16 0).toInt.toNat then x + 1 else (0 : Int32)).toNatClampNeg = (if x.toNatClampNeg + 1 < (B 16 0).toInt.toNat then x.toNatClampNeg + 1 else 0) := by
      split
      · rename_i q
        rw [i_nat] at q
        rw [nn_succ h0 (by omega), ii_succ (by omega)]
        omega
      · rw [z0]; exact ⟨by omega, by omega, rfl⟩
    rw [L_X8_share_102, NL_X8_share_102, if_neg e, rS8 h, md_of h0 h1 hx8]
    by_cases p : l ≤ 0
    · have p' := p
      rw [i_le, z0] at p'
      have el : (l - -1).toInt = l.toInt + 1 := by rw [i_sub] <;> rw [zm] <;> omega
      have ez : z_X8_share_4 x (sM M S) = sM M (upd S x.toNatClampNeg (S x.toNatClampNeg + -1)) := sM_up M S _ _
      have sg : (if (0 : Int32) ≤ l then (1 : Int32) else -1) = -1 := if_neg (by rw [i_le, z0]; omega)
      rw [if_pos p, ez]
      have ih := L102_spec h I loss c f' (l - -1) (if x.toNatClampNeg + 1 < (B 16 0).toInt.toNat then x + 1 else 0) (upd S x.toNatClampNeg (S x.toNatClampNeg + -1)) nxt.1 nxt.2.1 (by omega) (by omega)
      refine ⟨?_, fun q => absurd q e, fun _ => ⟨fun _ => ih.2, fun q => absurd p q⟩⟩
      rw [sg]
      show (LB _ (up2 (up2 (shF B (dT _ (rr _ (-1) c (if x.toNatClampNeg + 1 < (B 16 0).toInt.toNat then x.toNatClampNeg + 1 else 0) _))) 16 3 _) 16 7 _)) ∧ _
      rw [← nxt.2.2]
      rcases Nat.eq_zero_or_pos c with hc | hc
      · subst hc; exact ih.1
      · have sg2 : (if (0 : Int32) ≤ l - -1 then (1 : Int32) else -1) = -1 := if_neg (by rw [i_le, z0, el]; omega)
        rw [sg2] at ih
        exact ih.1
    · have p' := p
      rw [i_le, z0] at p'
      have el : (l - 1).toInt = l.toInt - 1 := by rw [i_sub] <;> rw [z1] <;> omega
      have ez : z_X8_share_5 x (sM M S) = sM M (upd S x.toNatClampNeg (S x.toNatClampNeg + 1)) := sM_up M S _ _
      have sg : (if (0 : Int32) ≤ l then (1 : Int32) else -1) = 1 := if_pos (by rw [i_le, z0]; omega)
      rw [if_neg p, ez]
      have ih := L102_spec h I loss c f' (l - 1) (if x.toNatClampNeg + 1 < (B 16 0).toInt.toNat then x + 1 else 0) (upd S x.toNatClampNeg (S x.toNatClampNeg + 1)) nxt.1 nxt.2.1 (by omega) (by omega)
      refine ⟨?_, fun q => absurd q e, fun _ => ⟨fun q => absurd q p, fun _ => ih.2⟩⟩
      rw [sg]
      show (LB _ (up2 (up2 (shF B (dT _ (rr _ 1 c (if x.toNatClampNeg + 1 < (B 16 0).toInt.toNat then x.toNatClampNeg + 1 else 0) _))) 16 3 _) 16 7 _)) ∧ _
      rw [← nxt.2.2]
      have sg2 : (if (0 : Int32) ≤ l - 1 then (1 : Int32) else -1) = 1 := if_pos (by rw [i_le, z0, el]; omega)
      rw [sg2] at ih
      exact ih.1
def sP (M B : jB) (loss W : Int32) (x : Nat) : Nat → Int32 := fun k => if k < x then part B loss W k else M 5 k
theorem sP_succ (M B : jB) (loss W : Int32) (x : Nat) : upd (sP M B loss W x) x (part B loss W x) = sP M B loss W (x + 1) := by
  funext k
  unfold upd sP
  by_cases e : k = x
  · subst e; simp
  · rw [if_neg e]
    by_cases q : k < x
    · rw [if_pos q, if_pos (by omega)]
    · rw [if_neg q, if_neg (by omega)]
theorem L45_spec {n : Nat} {M B : jB} (h : LB (M 0) B) (I : Inv n B) (hm0 : 0 < (B 16 0).toInt) (loss W : Int32) (hW0 : W.toInt ≠ 0) : ∀ (c f : Nat) (x : Int32), 0 ≤ x.toInt → x.toInt + c = (B 16 0).toInt → c ≤ f →
    (LB ((L_X8_share_45 M loss (f + 1) W (lfp B loss W x.toNatClampNeg) x (sM M (sP M B loss W x.toNatClampNeg))) 0) (up2 (up2 (shF B (dT (B 16 0).toInt.toNat (rr (B 16 0).toInt.toNat (if 0 ≤ lfp B loss W (B 16 0).toInt.toNat then 1 else -1) (lfp B loss W (B 16 0).toInt.toNat).toInt.natAbs 0 (sP M B loss W (B 16 0).toInt.toNat)))) 16 3 (B 16 3 + loss)) 16 7 (B 16 7 + loss)) ∧ ∀ r, r ≠ 0 → r ≠ 5 → (L_X8_share_45 M loss (f + 1) W (lfp B loss W x.toNatClampNeg) x (sM M (sP M B loss W x.toNatClampNeg))) r = M r) ∧ NL_X8_share_45 M loss (f + 1) W (lfp B loss W x.toNatClampNeg) x (sM M (sP M B loss W x.toNatClampNeg))
  | 0, f, x, h0, h1, hf => by
    have ex : x.toNatClampNeg = (B 16 0).toInt.toNat := by rw [i_nat]; omega
    have g : (M 0 (8 : Int32).toNatClampNeg) ≤ x := by rw [rS8 h, i_le]; omega
    rw [L_X8_share_45, NL_X8_share_45, if_pos g, ex]
    have ih := L102_spec h I loss (lfp B loss W (B 16 0).toInt.toNat).toInt.natAbs (lfp B loss W (B 16 0).toInt.toNat).toInt.natAbs (lfp B loss W (B 16 0).toInt.toNat) 0 (sP M B loss W (B 16 0).toInt.toNat) (by decide) hm0 rfl (Nat.le_refl _)
    exact ⟨ih.1, fun _ => ih.2, fun q => absurd g q⟩
  | c + 1, f, x, h0, h1, hf => by
    have hm := Inv_m I
    obtain ⟨f', rfl⟩ : ∃ f', f = f' + 1 := ⟨f - 1, by omega⟩
    have g : ¬ ((M 0 (8 : Int32).toNatClampNeg) ≤ x) := by rw [rS8 h, i_le]; omega
    have x8 : x.toInt < 8 := by omega
    have er : sM M (sP M B loss W x.toNatClampNeg) 0 (r_X8_ofMember x (0 : Int32)).toNatClampNeg = B 0 x.toNatClampNeg := rM0 (M := M) h h0 x8
    have nx := nn_succ h0 (by omega)
    have ez : z_X8_share_6 loss W x (sM M (sP M B loss W x.toNatClampNeg)) = sM M (sP M B loss W (x + 1).toNatClampNeg) := by
      unfold z_X8_share_6
      rw [er, sM_up, nx, ← sP_succ]; rfl
    have el : lfp B loss W x.toNatClampNeg - (sM M (sP M B loss W (x + 1).toNatClampNeg) 5 x.toNatClampNeg) = lfp B loss W (x + 1).toNatClampNeg := by
      rw [nx]
      show _ - sP M B loss W (x.toNatClampNeg + 1) x.toNatClampNeg = _
      unfold sP
      rw [if_pos (Nat.lt_succ_self _)]; rfl
    have ih := L45_spec h I hm0 loss W hW0 c f' (x + 1) (by rw [ii_succ (by omega)]; omega) (by rw [ii_succ (by omega)]; omega) (by omega)
    rw [L_X8_share_45, NL_X8_share_45, if_neg g, ez, el, er]
    have pn := part_n32 hW0 loss (B 0 x.toNatClampNeg)
    exact ⟨ih.1, fun q => absurd q g, fun _ => ⟨pn.1, pn.2, ih.2⟩⟩
