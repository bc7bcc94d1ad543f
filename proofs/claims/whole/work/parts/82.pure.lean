def fr (X X' : jB) : Prop := (∀ r, r ≠ 6 → X' r = X r) ∧ (∀ j, j < 5 → X' 6 j = X 6 j)
theorem fr_refl (X : jB) : fr X X := ⟨fun _ _ => rfl, fun _ _ => rfl⟩
theorem fr_trans {X X' X'' : jB} (h : fr X X') (g : fr X' X'') : fr X X'' := ⟨fun r hr => by rw [g.1 r hr, h.1 r hr], fun j hj => by rw [g.2 j hj, h.2 j hj]⟩
theorem fr_up (X : jB) {j : Nat} (v : Int32) (hj : 5 ≤ j) : fr X (up2 X 6 j v) := ⟨fun r hr => up2_row_ne hr _ _ _, fun k hk => by rw [up2_at, if_neg (by omega)]⟩
theorem fr_st (X : jB) (a : Nat) (w : Int32) : fr X (st X a w) := ⟨fun r hr => st_r X a w hr, fun j hj => st_6 X a w (by omega) (by omega)⟩
theorem tx_fr {X X' : jB} {T : Nat → Int32} {L : Nat} (h : tx X T L) (g : fr X X') : tx X' T L := ⟨by rw [g.1 4 (by decide)]; exact h.1, by rw [g.2 2 (by decide)]; exact h.2.1, h.2.2⟩
theorem goF_end (M : jB) (d many : Int32) (g : Nat) (X : jB) : L_X8_go_24 M d (g + 1) many 0 X = (many, X) ∧ NL_X8_go_24 M d (g + 1) many 0 X := by
  rw [L_X8_go_24, NL_X8_go_24, if_pos rfl]
  exact ⟨rfl, fun _ => trivial, fun q => absurd rfl q⟩
theorem le_Ln {L a : Nat} (hL : L ≤ 60) (ha : a ≤ 60) : Int32.ofNat L ≤ Int32.ofNat a ↔ L ≤ a := by
  rw [i_le, an_toInt (by omega), an_toInt (by omega)]; omega
theorem sign_44 {X : jB} {T : Nat → Int32} {L : Nat} (h : tx X T L) {a : Nat} (ha : a < L) : (r_X8_sign (st X a 0) 44 44).2 = if T a = 44 then st X (a + 1) 0 else st X a 1 := by
  have hL := h.2.2
  have z : (44 : Int32).toInt = 44 := rfl
  rw [sign_0 h (by omega) 44 44 (by decide)]
  dsimp only
  by_cases g : T a = 44
  · rw [if_pos g, if_pos ⟨ha, by rw [g]; omega, by rw [g]; omega⟩]
  · rw [if_neg g, if_neg (fun q => g (by rw [i_eq]; omega))]
theorem goF (M : jB) {T : Nat → Int32} {L : Nat} : ∀ (f g : Nat) (many : Int32) (a : Nat) (X : jB), tx X T L → a ≤ L → L - a < 4 * f → f + 1 ≤ g →
    (∀ b, pall T L f a = .error b → ∃ mn X', L_X8_go_24 M 0 g many 1 (st X a 0) = (mn, st X' b 1) ∧ fr X X' ∧ b ≤ L) ∧ (∀ l, pall T L f a = .ok l → ∃ mn X' e, L_X8_go_24 M 0 g many 1 (st X a 0) = (mn, st X' e 0) ∧ fr X X' ∧ l.length + a ≤ L) ∧ NL_X8_go_24 M 0 g many 1 (st X a 0)
  | 0, g, many, a, X, h, ha, hf, hg => absurd hf (Nat.not_lt_zero _)
  | f + 1, g, many, a, X, h, ha, hf, hg => by
    have hL := h.2.2
    obtain ⟨g', rfl⟩ : ∃ g', g = g' + 1 + 1 := ⟨g - 2, by omega⟩
    obtain ⟨ok, er, c, w, cL, ec, c2, w2, c2L, ec2⟩ := pay1_st h ha
    have n1 : n_X8_number (st X a 0) 48 2 := n_number h (by omega) 0 48 2 (by decide)
    have n2 : n_X8_sign ((r_X8_number (st X a 0) 48 2).2) 61 61 := by rw [ec]; exact n_sign h (by omega) w 61 61
    have n3 : n_X8_number (z_X8_go_1 (st X a 0)) 49 7 := by rw [ec2]; exact n_number h (by omega) w2 49 7 (by decide)
    rw [L_X8_go_24, NL_X8_go_24, if_neg one_ne, if_pos rfl]
    unfold z_X8_go_2
    unfold pall
    cases hp : pay1 T L a with
    | error b =>
      obtain ⟨eb, bL⟩ := er b hp
      have e68 : up2 (st X b 1) 6 8 0 = st (up2 X 6 8 0) b 1 := st_up X b 1 0 (by decide) (by decide)
      have ge := goF_end M 0 (many + 1) g' (st (up2 X 6 8 0) b 1)
      rw [eb, st_66, if_neg one_ne, e68, ge.1]
      refine ⟨fun b' q => ?_, fun l q => absurd q (by simp), fun q => absurd q one_ne, fun _ => ⟨n1, n2, n3, fun _ => ⟨fun q => absurd q one_ne, fun _ => ge.2⟩, fun q => absurd rfl q⟩⟩
      injection q with q
      subst q
      exact ⟨_, _, rfl, fr_up X 0 (by decide), bL⟩
    | ok pe =>
      obtain ⟨⟨v, m⟩, e⟩ := pe
      obtain ⟨ev, en, ae, eL⟩ := ok v m e hp
      have e68 : up2 (st X e 0) 6 8 0 = st (up2 X 6 8 0) e 0 := st_up X e 0 0 (by decide) (by decide)
      have h8 : tx (up2 X 6 8 0) T L := tx_fr h (fr_up X 0 (by decide))
      have e2 : (r_X8_number (z_X8_go_1 (st X a 0)) 49 7).2 = st X e 0 := by rw [en]
      rw [e2, st_66, if_pos rfl, st_65, st_6 X e 0 (by decide) (by decide), h.2.1, e68]
      dsimp only
      by_cases q : L ≤ e
      · have q' := (le_Ln (L := L) (a := e) hL (by omega)).mpr q
        have ge := goF_end M 0 (many + 1) g' (st (up2 X 6 8 0) e 0)
        rw [if_pos q', if_pos q, ge.1]
        refine ⟨fun b' q => absurd q (by simp), fun l p => ?_, fun q => absurd q one_ne, fun _ => ⟨n1, n2, n3, fun _ => ⟨fun _ => ⟨fun _ => ge.2, fun p => absurd q' p⟩, fun p => absurd rfl p⟩, fun q => absurd rfl q⟩⟩
        injection p with p
        subst p
        refine ⟨_, _, _, rfl, fr_up X 0 (by decide), ?_⟩
        show 1 + a ≤ L
        omega
      · have q' : ¬ (Int32.ofNat L ≤ Int32.ofNat e) := fun p => q ((le_Ln hL (by omega)).mp p)
        have hs := sign_44 h8 (a := e) (by omega)
        have ns : n_X8_sign (st (up2 X 6 8 0) e 0) 44 44 := n_sign h8 (by omega) 0 44 44
        rw [if_neg q', if_neg q, hs]
        by_cases t : T e = 44
        · rw [if_pos t, if_pos t, st_66, if_pos rfl]
          have ih := goF M f (g' + 1) (many + 1) (e + 1) (up2 X 6 8 0) h8 (by omega) (by omega) (by omega)
          refine ⟨fun b' p => ?_, fun l p => ?_, fun q => absurd q one_ne, fun _ => ⟨n1, n2, n3, fun _ => ⟨fun _ => ⟨fun p => absurd p q', fun _ => ⟨ns, fun _ => ih.2.2, fun p => absurd rfl p⟩⟩, fun p => absurd rfl p⟩, fun q => absurd rfl q⟩⟩
          · cases hr : pall T L f (e + 1) with
            | error b2 =>
              rw [hr] at p
              injection p with p
              subst p
              obtain ⟨mn, X', i1, i2, i3⟩ := ih.1 b2 hr
              exact ⟨mn, X', i1, fr_trans (fr_up X 0 (by decide)) i2, i3⟩
            | ok l2 => rw [hr] at p; exact absurd p (by simp)
          · cases hr : pall T L f (e + 1) with
            | error b2 => rw [hr] at p; exact absurd p (by simp)
            | ok l2 =>
              rw [hr] at p
              injection p with p
              subst p
              obtain ⟨mn, X', e', i1, i2, i3⟩ := ih.2.1 l2 hr
              refine ⟨mn, X', e', i1, fr_trans (fr_up X 0 (by decide)) i2, ?_⟩
              rw [List.length_cons]; omega
        · rw [if_neg t, if_neg t, st_66, if_neg one_ne]
          have ge := goF_end M 0 (many + 1) g' (st (up2 X 6 8 0) e 1)
          rw [ge.1]
          refine ⟨fun b' p => ?_, fun l p => absurd p (by simp), fun q => absurd q one_ne, fun _ => ⟨n1, n2, n3, fun _ => ⟨fun _ => ⟨fun p => absurd p q', fun _ => ⟨ns, fun p => absurd p one_ne, fun _ => ge.2⟩⟩, fun p => absurd rfl p⟩, fun q => absurd rfl q⟩⟩
          injection p with p
          subst p
          exact ⟨_, _, rfl, fr_up X 0 (by decide), by omega⟩
