def fz (X X' : jB) : Prop := (∀ r, r ≠ 0 → r ≠ 6 → X' r = X r) ∧ (∀ j, j < 5 → X' 6 j = X 6 j)
theorem fz_refl (X : jB) : fz X X := ⟨fun _ _ _ => rfl, fun _ _ => rfl⟩
theorem fz_trans {X X' X'' : jB} (h : fz X X') (g : fz X' X'') : fz X X'' := ⟨fun r h0 hr => by rw [g.1 r h0 hr, h.1 r h0 hr], fun j hj => by rw [g.2 j hj, h.2 j hj]⟩
theorem fz_fr {X X' : jB} (h : fr X X') : fz X X' := ⟨fun r _ hr => h.1 r hr, h.2⟩
theorem tx_fz {X X' : jB} {T : Nat → Int32} {L : Nat} (h : tx X T L) (g : fz X X') : tx X' T L := ⟨by rw [g.1 4 (by decide) (by decide)]; exact h.1, by rw [g.2 2 (by decide)]; exact h.2.1, h.2.2⟩
theorem st_self {X : jB} {a : Nat} {w : Int32} (h6 : X 6 6 = w) (h5 : X 6 5 = Int32.ofNat a) : st X a w = X := by
  funext r k
  unfold st
  simp only [up2_at]
  by_cases e : r = 6 ∧ k = 5
  · rw [if_pos e, e.1, e.2, h5]
  · rw [if_neg e]
    by_cases e2 : r = 6 ∧ k = 6
    · rw [if_pos e2, e2.1, e2.2, h6]
    · rw [if_neg e2]
theorem up1_up1 (K : Nat → jB) (b : Nat) (B B' : jB) : up1 (up1 K b B) b B' = up1 K b B' := by
  funext q
  rw [up1_at, up1_at, up1_at]
  by_cases e : q = b
  · rw [if_pos e, if_pos e]
  · rw [if_neg e, if_neg e, if_neg e]
theorem up1_0 (K : Nat → jB) (b : Nat) (B : jB) : up1 K b B b = B := by rw [up1_at, if_pos rfl]
theorem up1_ne (K : Nat → jB) {b q : Nat} (B : jB) (h : q ≠ b) : up1 K b B q = K q := by rw [up1_at, if_neg h]
theorem inv_of {K : Nat → jB} {j : Nat} (hj : j < 60) : r_X6_invoiceOf K (Int32.ofNat j) = K 7 1 j ∧ r_X6_centsOf K (Int32.ofNat j) = K 7 2 j := by
  have z0 : (0 : Int32).toInt = 0 := rfl
  have z60 : (60 : Int32).toInt = 60 := rfl
  unfold r_X6_invoiceOf r_X6_centsOf
  rw [an_tn (by omega), if_neg (show ¬ (Int32.ofNat j < 0) by rw [i_lt, an_toInt (by omega)]; omega), if_pos (show Int32.ofNat j < 60 by rw [i_lt, an_toInt (by omega)]; omega), if_neg (show ¬ (Int32.ofNat j < 0) by rw [i_lt, an_toInt (by omega)]; omega), if_pos (show Int32.ofNat j < 60 by rw [i_lt, an_toInt (by omega)]; omega)]
  exact ⟨rfl, rfl⟩
theorem l33_end (K0 Kr : Nat → jB) (B : jB) (N g : Nat) (hN : N < 100) (h : Kr 7 5 1 = Int32.ofNat N) (np : n_X2_push_1 (up1 Kr 0 B)) (sc : Int32) : L_X7_readPayments_33 K0 (g + 1) sc (Int32.ofNat N) (up1 Kr 0 B) = (sc, r_X2_push_1 (up1 Kr 0 B)) ∧ NL_X7_readPayments_33 K0 (g + 1) sc (Int32.ofNat N) (up1 Kr 0 B) := by
  have e : up1 Kr 0 B 7 5 1 ≤ Int32.ofNat N := by rw [up1_ne _ _ (by decide), h, i_le]; exact Int.le_refl _
  rw [L_X7_readPayments_33, NL_X7_readPayments_33, if_pos e]
  exact ⟨rfl, fun _ => ⟨np, trivial⟩, fun q => absurd e q⟩
theorem goT (M : jB) (K0 Kr : Nat → jB) {T : Nat → Int32} {L n : Nat} (hn : n ≤ 900) (N : Nat) (hN : N ≤ 60) (hNr : Kr 7 5 1 = Int32.ofNat N) (np : ∀ B, n_X2_push_1 (up1 Kr 0 B)) : ∀ (f g g3 : Nat) (a j : Nat) (l : List (Int32 × Int32)) (X B : jB) (sc : Int32), tx X T L → a ≤ L → L - a < 4 * f → f + 1 ≤ g → l.length < g3 → pall T L f a = .ok l → j + l.length = N → (∀ q (hq : q < l.length), Kr 7 1 (j + q) = l[q].1 ∧ Kr 7 2 (j + q) = l[q].2) → LB (X 0) B → InvG (64 * (n : Int) + j) n B → X 6 7 = sc →
    (NL_X8_go_24 M 1 g (Int32.ofNat j) 1 (st X a 0) ∧ NL_X7_readPayments_33 K0 g3 sc (Int32.ofNat j) (up1 Kr 0 B)) ∧
    ((∃ sc' mn B' X', L_X7_readPayments_33 K0 g3 sc (Int32.ofNat j) (up1 Kr 0 B) = (sc', r_X2_push_1 (up1 Kr 0 B')) ∧ L_X8_go_24 M 1 g (Int32.ofNat j) 1 (st X a 0) = (mn, X') ∧ fz X X' ∧ LB (X' 0) B' ∧ InvG (64 * (n : Int) + N) n B' ∧ X' 6 7 = sc' ∧ X' 6 8 = 0)
    ∨ (∃ j' err X', L_X7_readPayments_33 K0 g3 sc (Int32.ofNat j) (up1 Kr 0 B) = (-4, up3 (up3 (up1 Kr 0 (Kr 1)) 7 5 6 j') 7 5 7 err) ∧ L_X8_go_24 M 1 g (Int32.ofNat j) 1 (st X a 0) = (j', X') ∧ fz X X' ∧ X' 6 8 = err ∧ err.toInt < 0))
  | 0, g, g3, a, j, l, X, B, sc, h, ha, hf, _, _, _, _, _, _, _, _ => absurd hf (Nat.not_lt_zero _)
  | f + 1, g, g3, a, j, l, X, B, sc, h, ha, hf, hg, hg3, hp, hjl, hK, hLB, hG, hsc => by
    have hL := h.2.2
    obtain ⟨g', rfl⟩ : ∃ g', g = g' + 1 + 1 := ⟨g - 2, by omega⟩
    obtain ⟨g3', rfl⟩ : ∃ g3', g3 = g3' + 1 := ⟨g3 - 1, by omega⟩
    obtain ⟨ok, er, c, w, cL, ec, c2, w2, c2L, ec2⟩ := pay1_st h ha
    have n1 : n_X8_number (st X a 0) 48 2 := n_number h (by omega) 0 48 2 (by decide)
    have n2 : n_X8_sign ((r_X8_number (st X a 0) 48 2).2) 61 61 := by rw [ec]; exact n_sign h (by omega) w 61 61
    have n3 : n_X8_number (z_X8_go_1 (st X a 0)) 49 7 := by rw [ec2]; exact n_number h (by omega) w2 49 7 (by decide)
    have z0 : (0 : Int32).toInt = 0 := rfl
    unfold pall at hp
    cases h1 : pay1 T L a with
    | error b => rw [h1] at hp; exact absurd hp (by simp)
    | ok pe =>
      obtain ⟨⟨v, m⟩, e⟩ := pe
      obtain ⟨ev, en, ae, eL⟩ := ok v m e h1
      rw [h1] at hp
      dsimp only at hp
      have hl0 : ∃ l2, l = (v, m) :: l2 := by
        by_cases q : L ≤ e
        · rw [if_pos q] at hp; injection hp with hp; exact ⟨[], hp.symm⟩
        · rw [if_neg q] at hp
          by_cases t : T e = 44
          · rw [if_pos t] at hp
            cases h2 : pall T L f (e + 1) with
            | error b => rw [h2] at hp; exact absurd hp (by simp)
            | ok l2 => rw [h2] at hp; injection hp with hp; exact ⟨l2, hp.symm⟩
          · rw [if_neg t] at hp; exact absurd hp (by simp)
      obtain ⟨l2, rfl⟩ := hl0
      have hjN : j + 1 + l2.length = N := by rw [List.length_cons] at hjl; omega
      have I : Inv (n + 1) B := G_to hG (by omega) (by omega)
      -- the class's side
      have k0 := hK 0 (by rw [List.length_cons]; omega)
      have kv : Kr 7 1 j = v := k0.1
      have km : Kr 7 2 j = m := k0.2
      have io := inv_of (K := up1 Kr 0 B) (j := j) (by omega)
      rw [up1_ne _ _ (by decide), kv, km] at io
      have gN : ¬ (up1 Kr 0 B 7 5 1 ≤ Int32.ofNat j) := by
        rw [up1_ne _ _ (by decide), hNr, i_le, an_toInt (by omega), an_toInt (by omega)]; omega
      -- the reference's side
      have hLe : LB (st X e 0 0) B := by rw [st_r X e 0 (by decide)]; exact hLB
      have epf : r_X8_payFault (st X e 0) v m = r_X0_errorOfPayment B v m := e_payFault hLe I v m
      have hs' := Inv_s I
      have npf : n_X8_payFault (st X e 0) v m := ⟨by rw [rN9 hLe, i_le]; exact hs'.2, by rw [rN9 hLe, i_le]; exact hs'.1, trivial⟩
      have e2 : (r_X8_number (z_X8_go_1 (st X a 0)) 49 7).2 = st X e 0 := by rw [en]
      have e1 : (r_X8_number (z_X8_go_1 (st X a 0)) 49 7).1 = m := by rw [en]
      have z3 : z_X8_go_3 (st X a 0) = st (up2 X 6 8 (r_X0_errorOfPayment B v m)) e 0 := by
        unfold z_X8_go_3
        rw [e2, e1, ev, epf, st_up X e 0 _ (by decide) (by decide)]
      have s67 : st X e 0 6 7 = sc := by rw [st_6 X e 0 (by decide) (by decide)]; exact hsc
      rw [L_X8_go_24, NL_X8_go_24, if_neg one_ne, if_neg one_ne, e2, e1, ev, epf, L_X7_readPayments_33, NL_X7_readPayments_33, if_neg gN, up1_0, io.1, io.2]
      rcases err_cases B v m with ez | ez
      · -- no error
        obtain ⟨h0, hi, s1, c1, c2'⟩ := noFault I ez
        have ce := collect_eq I h0 hi (c := m)
        have le := left_of I h0 hi c1 c2'
        have hG2 : InvG (64 * (n : Int) + j + 1) n (cEnd B v m) := cEnd_inv I hG (by omega) h0 hi c1 c2'
        have hLz : LB (z_X8_go_3 (st X a 0) 0) B := by rw [z3, st_r _ e 0 (by decide), up2_row_ne (by decide)]; exact hLB
        obtain ⟨q1, q2, q3, q4⟩ := pays_eq hLz I h0 hi (c := m) (by rw [le.2]; omega)
        have eZ4 : z_X8_go_4 (st X a 0) = (r_X8_pays (z_X8_go_3 (st X a 0)) v m).2 := by unfold z_X8_go_4; rw [ev, e1]
        rw [← eZ4] at q2 q4
        have e6 : z_X8_go_4 (st X a 0) 6 = st (up2 X 6 8 (r_X0_errorOfPayment B v m)) e 0 6 := by rw [q4 6 (by decide), z3]
        have r6 : ∀ r, r ≠ 0 → r ≠ 6 → z_X8_go_4 (st X a 0) r = X r := by
          intro r hr0 hr6
          rw [q4 r hr0, z3, st_r _ e 0 hr6, up2_row_ne hr6]
        have p65 : z_X8_go_4 (st X a 0) 6 5 = Int32.ofNat e := by rw [e6, st_65]
        have p66 : z_X8_go_4 (st X a 0) 6 6 = 0 := by rw [e6, st_66]
        have p68 : z_X8_go_4 (st X a 0) 6 8 = 0 := by rw [e6, st_6 _ e 0 (by decide) (by decide), up2_at, if_pos ⟨rfl, rfl⟩]; exact ez
        have p6j : ∀ k, k < 5 → z_X8_go_4 (st X a 0) 6 k = X 6 k := by
          intro k hk
          rw [e6, st_6 _ e 0 (by omega) (by omega), up2_at, if_neg (by omega)]
        have p62 : z_X8_go_4 (st X a 0) 6 2 = Int32.ofNat L := by rw [p6j 2 (by decide)]; exact h.2.1
        have zu1 : z_X7_readPayments_0 (Int32.ofNat j) (up1 Kr 0 B) = up1 Kr 0 (cEnd B v m) := by
          unfold z_X7_readPayments_0
          rw [up1_0, io.1, io.2, ce.1, up1_up1]
        rw [if_pos ez, if_pos ez, q1, ce.1, zu1, p68, p66, p62, p65, if_pos (rfl : (0 : Int32) = 0), if_pos (rfl : (0 : Int32) = 0), an_1]
        unfold z_X8_go_5 z_X8_go_6
        rw [e2, s67]
        -- one state, one count
        have both : ∀ k : Int32, (k = 0 ∨ k = 1) →
            (NL_X8_go_24 M 1 (g' + 1) (Int32.ofNat (j + 1)) (if Int32.ofNat L ≤ Int32.ofNat e then 0 else 1) (if Int32.ofNat L ≤ Int32.ofNat e then (up2 (z_X8_go_4 (st X a 0)) 6 7 (sc + k)) else (r_X8_sign (up2 (z_X8_go_4 (st X a 0)) 6 7 (sc + k)) 44 44).2) ∧ (¬ (Int32.ofNat L ≤ Int32.ofNat e) → n_X8_sign (up2 (z_X8_go_4 (st X a 0)) 6 7 (sc + k)) 44 44 ∧ (r_X8_sign (up2 (z_X8_go_4 (st X a 0)) 6 7 (sc + k)) 44 44).2 6 6 = 0) ∧ NL_X7_readPayments_33 K0 g3' (sc + k) (Int32.ofNat (j + 1)) (up1 Kr 0 (cEnd B v m))) ∧
            ((∃ sc' mn B' X', L_X7_readPayments_33 K0 g3' (sc + k) (Int32.ofNat (j + 1)) (up1 Kr 0 (cEnd B v m)) = (sc', r_X2_push_1 (up1 Kr 0 B')) ∧ L_X8_go_24 M 1 (g' + 1) (Int32.ofNat (j + 1)) (if Int32.ofNat L ≤ Int32.ofNat e then 0 else 1) (if Int32.ofNat L ≤ Int32.ofNat e then (up2 (z_X8_go_4 (st X a 0)) 6 7 (sc + k)) else (r_X8_sign (up2 (z_X8_go_4 (st X a 0)) 6 7 (sc + k)) 44 44).2) = (mn, X') ∧ fz X X' ∧ LB (X' 0) B' ∧ InvG (64 * (n : Int) + N) n B' ∧ X' 6 7 = sc' ∧ X' 6 8 = 0)
            ∨ (∃ j' err X', L_X7_readPayments_33 K0 g3' (sc + k) (Int32.ofNat (j + 1)) (up1 Kr 0 (cEnd B v m)) = (-4, up3 (up3 (up1 Kr 0 (Kr 1)) 7 5 6 j') 7 5 7 err) ∧ L_X8_go_24 M 1 (g' + 1) (Int32.ofNat (j + 1)) (if Int32.ofNat L ≤ Int32.ofNat e then 0 else 1) (if Int32.ofNat L ≤ Int32.ofNat e then (up2 (z_X8_go_4 (st X a 0)) 6 7 (sc + k)) else (r_X8_sign (up2 (z_X8_go_4 (st X a 0)) 6 7 (sc + k)) 44 44).2) = (j', X') ∧ fz X X' ∧ X' 6 8 = err ∧ err.toInt < 0)) := by
          intro k _
          have hZr : ∀ r, r ≠ 6 → up2 (z_X8_go_4 (st X a 0)) 6 7 (sc + k) r = z_X8_go_4 (st X a 0) r := fun r hr => up2_row_ne hr _ _ _
          have hZ6 : ∀ q, q ≠ 7 → up2 (z_X8_go_4 (st X a 0)) 6 7 (sc + k) 6 q = z_X8_go_4 (st X a 0) 6 q := fun q hq => by rw [up2_at, if_neg (by omega)]
          have hZ7 : up2 (z_X8_go_4 (st X a 0)) 6 7 (sc + k) 6 7 = sc + k := by rw [up2_at, if_pos ⟨rfl, rfl⟩]
          generalize up2 (z_X8_go_4 (st X a 0)) 6 7 (sc + k) = Z at hZr hZ6 hZ7 ⊢
          have fZ : fz X Z := ⟨fun r h0 h6 => by rw [hZr r h6, r6 r h0 h6], fun q hq => by rw [hZ6 q (by omega), p6j q hq]⟩
          have lZ : LB (Z 0) (cEnd B v m) := by rw [hZr 0 (by decide)]; exact q2
          have sZ : st Z e 0 = Z := st_self (by rw [hZ6 6 (by decide), p66]) (by rw [hZ6 5 (by decide), p65])
          have tZ : tx Z T L := tx_fz h fZ
          have Z8 : Z 6 8 = 0 := by rw [hZ6 8 (by decide), p68]
          by_cases q : L ≤ e
          · have q' := (le_Ln (L := L) (a := e) hL (by omega)).mpr q
            rw [if_pos q] at hp
            injection hp with hp
            injection hp with _ hp
            subst hp
            have hN1 : j + 1 = N := by rw [← hjN]; rfl
            rw [if_pos q', if_pos q']
            have ge := goF_end M 1 (Int32.ofNat (j + 1)) g' Z
            obtain ⟨g4, rfl⟩ : ∃ g4, g3' = g4 + 1 := ⟨g3' - 1, by simp at hg3; omega⟩
            have le33 := l33_end K0 Kr (cEnd B v m) N g4 (by omega) hNr (np _) (sc + k)
            rw [hN1] at ge ⊢
            rw [ge.1, le33.1]
            refine ⟨⟨ge.2, fun r => absurd q' r, le33.2⟩, Or.inl ⟨_, _, _, _, rfl, rfl, fZ, lZ, ?_, hZ7, Z8⟩⟩
            exact G_mono hG2 (by omega) (Int.le_refl _)
          · have q' : ¬ (Int32.ofNat L ≤ Int32.ofNat e) := fun p => q ((le_Ln hL (by omega)).mp p)
            rw [if_neg q] at hp
            by_cases t : T e = 44
            · rw [if_pos t] at hp
              cases h2 : pall T L f (e + 1) with
              | error b => rw [h2] at hp; exact absurd hp (by simp)
              | ok l3 =>
                rw [h2] at hp
                injection hp with hp
                injection hp with _ hp
                subst hp
                have hs := sign_44 tZ (a := e) (by omega)
                rw [sZ, if_pos t] at hs
                rw [if_neg q', if_neg q', hs]
                have ns : n_X8_sign Z 44 44 := by
                  have := n_sign tZ (a := e) (by omega) 0 44 44
                  rwa [sZ] at this
                have ih := goT M K0 Kr hn N hN hNr np f (g' + 1) g3' (e + 1) (j + 1) l3 Z (cEnd B v m) (sc + k) tZ (by omega) (by omega) (by omega) (by rw [List.length_cons] at hg3; omega) h2 hjN ?_ lZ (G_mono hG2 (by omega) (Int.le_refl _)) hZ7
                · refine ⟨⟨ih.1.1, fun _ => ⟨ns, by rw [st_66]⟩, ih.1.2⟩, ?_⟩
                  rcases ih.2 with ⟨sc', mn, B', X', i1, i2, i3, i4⟩ | ⟨j', err, X', i1, i2, i3, i4⟩
                  · exact Or.inl ⟨sc', mn, B', X', i1, i2, fz_trans fZ i3, i4⟩
                  · exact Or.inr ⟨j', err, X', i1, i2, fz_trans fZ i3, i4⟩
                · intro q3 hq3
                  have := hK (q3 + 1) (by rw [List.length_cons]; omega)
                  rw [show j + 1 + q3 = j + (q3 + 1) by omega]
                  exact this
            · rw [if_neg t] at hp; exact absurd hp (by simp)
        by_cases lf : B 9 v.toNatClampNeg - (B 12 v.toNatClampNeg + m) = 0
        · have bo := both 1 (Or.inr rfl)
          rw [if_pos lf, if_pos lf]
          by_cases q' : Int32.ofNat L ≤ Int32.ofNat e
          · rw [if_pos q', if_pos q'] at bo
            rw [if_pos q']
            refine ⟨⟨⟨fun q => absurd q one_ne, fun _ => ⟨n1, n2, n3, fun q => absurd q one_ne, fun _ => ⟨npf, fun _ => ⟨q3, fun _ => ⟨fun _ => ⟨fun _ => ⟨fun _ => bo.1.1, fun q => absurd q' q⟩, fun q => absurd rfl q⟩, fun q => absurd rfl q⟩, fun q => absurd lf q⟩, fun q => absurd ez q⟩⟩⟩, ⟨fun q => absurd q gN, fun _ => ⟨fun _ => ⟨ce.2, fun _ => bo.1.2.2, fun q => absurd lf q⟩, fun q => absurd ez q⟩⟩⟩, bo.2⟩
          · rw [if_neg q', if_neg q'] at bo
            have sg := bo.1.2.1 q'
            rw [if_neg q', if_pos sg.2]
            refine ⟨⟨⟨fun q => absurd q one_ne, fun _ => ⟨n1, n2, n3, fun q => absurd q one_ne, fun _ => ⟨npf, fun _ => ⟨q3, fun _ => ⟨fun _ => ⟨fun _ => ⟨fun q => absurd q q', fun _ => ⟨sg.1, fun _ => bo.1.1, fun q => absurd sg.2 q⟩⟩, fun q => absurd rfl q⟩, fun q => absurd rfl q⟩, fun q => absurd lf q⟩, fun q => absurd ez q⟩⟩⟩, ⟨fun q => absurd q gN, fun _ => ⟨fun _ => ⟨ce.2, fun _ => bo.1.2.2, fun q => absurd lf q⟩, fun q => absurd ez q⟩⟩⟩, bo.2⟩
        · have bo := both 0 (Or.inl rfl)
          rw [if_neg lf, if_neg lf, if_pos (rfl : (0 : Int32) = 0), if_pos (rfl : (0 : Int32) = 0)]
          rw [add_zero32 sc] at bo ⊢
          by_cases q' : Int32.ofNat L ≤ Int32.ofNat e
          · rw [if_pos q', if_pos q'] at bo
            rw [if_pos q']
            refine ⟨⟨⟨fun q => absurd q one_ne, fun _ => ⟨n1, n2, n3, fun q => absurd q one_ne, fun _ => ⟨npf, fun _ => ⟨q3, fun q => absurd q lf, fun _ => ⟨fun _ => ⟨fun _ => ⟨fun _ => bo.1.1, fun q => absurd q' q⟩, fun q => absurd rfl q⟩, fun q => absurd rfl q⟩⟩, fun q => absurd ez q⟩⟩⟩, ⟨fun q => absurd q gN, fun _ => ⟨fun _ => ⟨ce.2, fun q => absurd q lf, fun _ => bo.1.2.2⟩, fun q => absurd ez q⟩⟩⟩, bo.2⟩
          · rw [if_neg q', if_neg q'] at bo
            have sg := bo.1.2.1 q'
            rw [if_neg q', if_pos sg.2]
            refine ⟨⟨⟨fun q => absurd q one_ne, fun _ => ⟨n1, n2, n3, fun q => absurd q one_ne, fun _ => ⟨npf, fun _ => ⟨q3, fun q => absurd q lf, fun _ => ⟨fun _ => ⟨fun _ => ⟨fun q => absurd q q', fun _ => ⟨sg.1, fun _ => bo.1.1, fun q => absurd sg.2 q⟩⟩, fun q => absurd rfl q⟩, fun q => absurd rfl q⟩⟩, fun q => absurd ez q⟩⟩⟩, ⟨fun q => absurd q gN, fun _ => ⟨fun _ => ⟨ce.2, fun q => absurd q lf, fun _ => bo.1.2.2⟩, fun q => absurd ez q⟩⟩⟩, bo.2⟩
      · -- an error
        have enz : ¬ (r_X0_errorOfPayment B v m = 0) := by rw [i_eq, z0]; omega
        have ge := goF_end M 1 (Int32.ofNat j + 0) g' (z_X8_go_3 (st X a 0))
        rw [if_neg enz, if_neg enz, st_66, if_pos rfl, ge.1, an_0]
        refine ⟨⟨⟨fun q => absurd q one_ne, fun _ => ⟨n1, n2, n3, fun q => absurd q one_ne, fun _ => ⟨npf, fun q => absurd q enz, fun _ => ⟨fun _ => by rw [← an_0 j]; exact ge.2, fun q => absurd rfl q⟩⟩⟩⟩, ⟨fun q => absurd q gN, fun _ => ⟨fun q => absurd q enz, fun _ => trivial⟩⟩⟩, Or.inr ⟨Int32.ofNat j, r_X0_errorOfPayment B v m, z_X8_go_3 (st X a 0), ?_, rfl, ?_, ?_, ez⟩⟩
        · unfold z_X7_readPayments_1
          rw [up1_0, io.1, io.2, up1_up1, up1_ne _ _ (by decide)]
        · rw [z3]
          exact fz_fr (fr_trans (fr_up X _ (by decide)) (fr_st _ e 0))
        · rw [z3, st_6 _ e 0 (by decide) (by decide), up2_at, if_pos ⟨rfl, rfl⟩]
