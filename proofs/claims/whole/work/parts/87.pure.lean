theorem tx_of {n : Nat} {K : Nat → jB} {M : jB} (h : Rel n K M) : ∃ L : Nat, L ≤ 60 ∧ K 7 5 0 = Int32.ofNat L ∧ tx M (M 4) L ∧ kx K (M 4) L := by
  obtain ⟨t1, t2, t3⟩ := R_T h
  have e : K 7 5 0 = Int32.ofNat (K 7 5 0).toInt.toNat := an_of t2.1
  refine ⟨(K 7 5 0).toInt.toNat, by omega, e, ⟨rfl, by rw [t1]; exact e, by omega⟩, fun j hj => ((t3 j (by omega)).1).symm, e, by omega⟩
theorem kx_up {K : Nat → jB} {T : Nat → Int32} {L : Nat} (h : kx K T L) (v : Int32) : kx (up3 K 7 5 1 v) T L := by
  refine ⟨fun j hj => ?_, ?_, h.2.2⟩
  · rw [up3_at, if_pos rfl, up2_at, if_neg (by omega)]; exact h.1 j hj
  · rw [up3_at, if_pos rfl, up2_at, if_neg (by omega)]; exact h.2.1
/-- the fund's parts that the relation looks at -/
theorem Rel_fund {n : Nat} {K K' : Nat → jB} {M M' : jB} (h : Rel n K M) (e0 : K' 0 = K 0) (eb : ∀ b, 2 ≤ b → b < 7 → K' b = K b) (e7 : ∀ k, k ≠ 1 → k ≠ 4 → K' 7 5 k = K 7 5 k) (et : K' 7 0 = K 7 0) (m0 : LB (M' 0) (K 0)) (m2 : M' 2 = M 2) (m3 : M' 3 = M 3) (m4 : M' 4 = M 4) (m6 : ∀ j, j < 5 → M' 6 j = M 6 j) : Rel n K' M' := by
  refine ⟨?_, ?_, ?_, ?_, ?_, ?_⟩
  · rw [e0]; exact m0
  · rw [e0]; exact R_I h
  · exact His_congr (R_H h) (e7 2 (by decide) (by decide)) (e7 3 (by decide) (by decide)) (fun b h1 h2 => eb b (by omega) h2) (m6 0 (by decide)) m2
  · exact Kept_congr (R_K h) (e7 5 (by decide) (by decide)) (eb 2 (by decide) (by decide)) (m6 1 (by decide)) m3
  · exact Txt_congr (R_T h) et (e7 0 (by decide) (by decide)) (m6 2 (by decide)) m4
  · exact Ref_congr (R_R h) (e7 6 (by decide) (by decide)) (e7 7 (by decide) (by decide)) (m6 3 (by decide)) (m6 4 (by decide))
theorem R_readPayments {n : Nat} {K : Nat → jB} {M : jB} (h : Rel n K M) (hN : n ≤ 900) : n_X7_readPayments K ∧ n_X8_readPayments M ∧ (r_X7_readPayments K).1 = (r_X8_readPayments M).1 ∧ Rel (n + 1) (r_X7_readPayments K).2 (r_X8_readPayments M).2 := by
  have hm : Rel (n + 1) K M := Rel_mono h (Nat.le_succ n)
  have hL := R_L h
  have hI := R_I h
  obtain ⟨L, L60, hKL, hT, hk⟩ := tx_of h
  have z0 : (0 : Int32).toInt = 0 := rfl
  -- the reference reads
  have hX0 : tx (up2 (up2 M 6 8 0) 6 7 0) (M 4) L := tx_fr hT (fr_go M)
  have gF := goF M 20 61 0 0 (up2 (up2 M 6 8 0) 6 7 0) hX0 (Nat.zero_le _) (by omega) (by decide)
  rw [← go_0 M] at gF
  have eg : r_X8_go M 0 = L_X8_go_24 M 0 61 0 1 (z_X8_go_0 M) := rfl
  have ng : n_X8_go M 0 = NL_X8_go_24 M 0 61 0 1 (z_X8_go_0 M) := rfl
  rw [← eg, ← ng] at gF
  -- the class reads
  have rA := read_all hk 20 0 (Nat.zero_le _) (by omega)
  have er : rd K 0 0 = r_X6_read K := rfl
  rw [er] at rA
  unfold n_X7_readPayments n_X8_readPayments r_X7_readPayments r_X8_readPayments
  cases hp : pall (M 4) L 20 0 with
  | error b =>
    obtain ⟨mn, X', g1, g2, bL⟩ := gF.1 b hp
    have c1 := rA.1 b hp
    have hb : ¬ (Int32.ofNat b = -1) := by rw [i_eq, an_toInt (by omega), show (-1 : Int32).toInt = -1 from rfl]; omega
    have g1b : (r_X8_go M 0).2 = st X' b 1 := by rw [g1]
    have c1a : (r_X6_read K).1 = Int32.ofNat b := by rw [c1]
    have c1b : (r_X6_read K).2 = up3 K 7 5 1 0 := by rw [c1]
    rw [g1b, c1a, c1b, st_66, if_neg one_ne, if_neg hb, st_65]
    refine ⟨⟨fun q => absurd q hb, fun _ => trivial⟩, ⟨gF.2.2, fun q => absurd q one_ne, fun _ => trivial⟩, rfl, ?_⟩
    have f2 := fr_trans (fr_trans (fr_go M) g2) (fr_st X' b 1)
    show Rel (n + 1) (up3 K 7 5 1 0) (st X' b 1)
    refine Rel_fund hm (by rw [up3_at, if_neg (by decide)]) (fun b h1 h2 => by rw [up3_at, if_neg (by omega)]) (fun k h1 h4 => by rw [up3_at, if_pos rfl, up2_at, if_neg (by omega)]) (by rw [up3_at, if_pos rfl]; exact up2_row_ne (by decide) _ _ _) ?_ (f2.1 2 (by decide)) (f2.1 3 (by decide)) (f2.1 4 (by decide)) f2.2
    rw [f2.1 0 (by decide)]; exact hL
  | ok l =>
    obtain ⟨mn, X', e, g1, g2, lL⟩ := gF.2.1 l hp
    have c1 := rA.2 l hp
    have f1 : fr M (st X' e 0) := fr_trans (fr_trans (fr_go M) g2) (fr_st X' e 0)
    have hk1 : kx (up3 K 7 5 1 0) (M 4) L := kx_up hk 0
    have eR : r_X6_readNumbers (up3 K 7 5 1 0) = rn (up3 K 7 5 1 0) (up3 K 7 5 1 0) 0 0 0 := rfl
    obtain ⟨d1, d2, d3⟩ := pall_rn (up3 K 7 5 1 0) 20 0 0 l (up3 K 7 5 1 0) hk1 (Nat.le_refl _) hp
    rw [← eR] at d1 d2 d3
    rw [Nat.zero_add] at d2
    have g1b : (r_X8_go M 0).2 = st X' e 0 := by rw [g1]
    have c1a : (r_X6_read K).1 = -1 := by rw [c1]
    have c1b : (r_X6_read K).2 = r_X6_readNumbers (up3 K 7 5 1 0) := by rw [c1]
    rw [g1b, c1a, c1b, st_66, if_pos (rfl : (0 : Int32) = 0), if_pos (rfl : (-1 : Int32) = -1)]
    generalize hKn : r_X6_readNumbers (up3 K 7 5 1 0) = Kn at d1 d2 d3 ⊢
    have kn0 : ∀ b, b ≠ 7 → Kn b = K b := fun b hb => by rw [d1.1 b hb, up3_at, if_neg hb]
    have kn7 : ∀ r k, r ≠ 1 → r ≠ 2 → ¬ (r = 5 ∧ k = 1) → Kn 7 r k = K 7 r k := fun r k h1 h2 h5 => by
      rw [d1.2 r k (by omega) h5, up3_at, if_pos rfl, up2_at, if_neg h5]
    have kr : ∀ b, b ≠ 1 → up1 Kn 1 (Kn 0) b = Kn b := fun b hb => up1_ne _ _ hb
    have kr1 : up1 Kn 1 (Kn 0) 1 = K 0 := by rw [up1_0]; exact kn0 0 (by decide)
    have eKr0 : up1 (up1 Kn 1 (Kn 0)) 0 (K 0) = up1 Kn 1 (Kn 0) := up1_self (by rw [kr 0 (by decide)]; exact kn0 0 (by decide))
    obtain ⟨nx, kn, hnx, hkn, k2, k3, -, -⟩ := R_push hL hI (R_H h)
    have q2 : ∀ B, (up1 (up1 Kn 1 (Kn 0)) 0 B 7 5 2).toInt = nx := fun B => by rw [up1_ne _ _ (by decide), kr 7 (by decide), kn7 5 2 (by decide) (by decide) (by omega)]; exact k2
    have q3 : ∀ B, (up1 (up1 Kn 1 (Kn 0)) 0 B 7 5 3).toInt = kn := fun B => by rw [up1_ne _ _ (by decide), kr 7 (by decide), kn7 5 3 (by decide) (by decide) (by omega)]; exact k3
    have np : ∀ B, n_X2_push_1 (up1 (up1 Kn 1 (Kn 0)) 0 B) := fun B => (push1_psh hnx (q2 B) (q3 B) hkn).2
    have lN : up1 Kn 1 (Kn 0) 7 5 1 = Int32.ofNat l.length := by rw [kr 7 (by decide)]; exact d2
    have lN2 : ((up1 Kn 1 (Kn 0) 7 5 1).toInt - (0 : Int32).toInt).toNat + 1 = l.length + 1 := by
      rw [lN, an_toInt (by omega), z0]; omega
    rw [lN2]
    -- the second reading, from any state that is X1 but for row 1
    have second : ∀ X : jB, (∀ r, r ≠ 1 → X r = st X' e 0 r) → (n_X8_go X 1 ∧ NL_X7_readPayments_33 K (l.length + 1) 0 0 (up1 Kn 1 (Kn 0))) ∧
        ((∃ sc' mn B' X4, L_X7_readPayments_33 K (l.length + 1) 0 0 (up1 Kn 1 (Kn 0)) = (sc', r_X2_push_1 (up1 (up1 Kn 1 (Kn 0)) 0 B')) ∧ r_X8_go X 1 = (mn, X4) ∧ fz X X4 ∧ LB (X4 0) B' ∧ InvG (64 * (n : Int) + l.length) n B' ∧ X4 6 7 = sc' ∧ X4 6 8 = 0)
        ∨ (∃ j' err X4, L_X7_readPayments_33 K (l.length + 1) 0 0 (up1 Kn 1 (Kn 0)) = (-4, up3 (up3 (up1 (up1 Kn 1 (Kn 0)) 0 (K 0)) 7 5 6 j') 7 5 7 err) ∧ r_X8_go X 1 = (j', X4) ∧ fz X X4 ∧ X4 6 8 = err ∧ err.toInt < 0)) := by
      intro X hX
      have t1 : tx X (M 4) L := ⟨by rw [hX 4 (by decide), f1.1 4 (by decide)], by rw [hX 6 (by decide), f1.2 2 (by decide)]; exact hT.2.1, L60⟩
      have t2 : tx (up2 (up2 X 6 8 0) 6 7 0) (M 4) L := tx_fr t1 (fr_go X)
      have l2 : LB (up2 (up2 X 6 8 0) 6 7 0 0) (K 0) := by rw [(fr_go X).1 0 (by decide), hX 0 (by decide), f1.1 0 (by decide)]; exact hL
      have gT := goT X K (up1 Kn 1 (Kn 0)) hN l.length (by omega) lN np 20 61 (l.length + 1) 0 0 l (up2 (up2 X 6 8 0) 6 7 0) (K 0) 0 t2 (Nat.zero_le _) (by omega) (by decide) (Nat.lt_succ_self _) hp (Nat.zero_add _) (fun q hq => by rw [kr 7 (by decide)]; exact d3 q hq) l2 (by
        have := G_of hI
        exact G_mono this (by omega) (Int.le_refl _)) (by rw [up2_at, if_pos ⟨rfl, rfl⟩])
      rw [← go_0 X, eKr0, kr1] at gT
      have e0 : Int32.ofNat 0 = 0 := rfl
      rw [e0] at gT
      have eg1 : r_X8_go X 1 = L_X8_go_24 X 1 61 0 1 (z_X8_go_0 X) := rfl
      have ng1 : n_X8_go X 1 = NL_X8_go_24 X 1 61 0 1 (z_X8_go_0 X) := rfl
      rw [← eg1, ← ng1] at gT
      refine ⟨gT.1, ?_⟩
      rcases gT.2 with ⟨sc', mn, B', X4, i1, i2, i3, i4⟩ | ⟨j', err, X4, i1, i2, i3, i4⟩
      · exact Or.inl ⟨sc', mn, B', X4, i1, i2, fz_trans (fz_fr (fr_go X)) i3, i4⟩
      · exact Or.inr ⟨j', err, X4, i1, i2, fz_trans (fz_fr (fr_go X)) i3, i4⟩
    have hH := R_H h
    have know_ok : ∀ X, (∀ r, r ≠ 1 → X r = st X' e 0 r) → n_X8_know (r_X8_swap ((r_X8_go X 1).2)) := by
      intro X hX
      have m60 : r_X8_swap ((r_X8_go X 1).2) 6 0 = M 6 0 := by
        rw [(swap_at _).2.2 6 (by decide) (by decide)]
        rcases (second X hX).2 with ⟨sc', mn, B', X4, i1, i2, i3, i4⟩ | ⟨j', err, X4, i1, i2, i3, i4⟩
        · rw [i2]; dsimp only; rw [i3.2 0 (by decide), hX 6 (by decide), f1.2 0 (by decide)]
        · rw [i2]; dsimp only; rw [i3.2 0 (by decide), hX 6 (by decide), f1.2 0 (by decide)]
      obtain ⟨kn', nx', a1, a2, a3, a4, a5, a6⟩ := hH
      refine ⟨?_, ?_, trivial⟩
      · rw [m60, a5, i_le, a3, z0]; omega
      · rw [m60, a5, i_le, a3]
        show (kn' : Int) ≤ 4
        omega
    have nl23 : NL_X8_readPayments_23 M 205 0 (st X' e 0) := NL23 M (fun X => ∀ r, r ≠ 1 → X r = st X' e 0 r) (fun X k v p r hr => by rw [up2_row_ne hr]; exact p r hr) 205 0 _ (fun r _ => rfl) (fun X p => ⟨(second X p).1.1, fun _ => know_ok X p⟩)
    have lp := loopC (L := L_X8_readPayments_23 M) (fin := fun M23 => (if (0 : Int32) ≤ ((r_X8_swap ((r_X8_go M23 (1 : Int32)).2)) 6 8) then (((r_X8_swap (r_X8_know (r_X8_swap ((r_X8_go M23 (1 : Int32)).2)))) 6 7), (r_X8_swap (r_X8_know (r_X8_swap ((r_X8_go M23 (1 : Int32)).2))))) else ((-4 : Int32), (z_X8_readPayments_1 M23)))) (N := 204) (R := 1) (D := 0) (R' := 0) (S := 0) (P := fun M => True) (by decide) (by
      intro M k v p; trivial) (by
      intro n x M hx; rw [L_X8_readPayments_23, if_pos hx]) (by
      intro n x M h0 h1 p
      have z204 : (204 : Int32).toInt = 204 := rfl
      rw [L_X8_readPayments_23, if_neg (by rw [i_le]; omega), Nat.zero_add]) 204 204 0 (st X' e 0) trivial (by decide) (by decide) (by decide)
    rw [tn0] at lp
    rw [lp]
    have cr : ∀ r, r ≠ 1 → cpy 1 0 0 0 204 0 (st X' e 0) r = st X' e 0 r := by
      intro r hr; funext j; rw [cpy_at (Or.inl (by decide)), if_neg (by omega)]
    have c1 : ∀ p, p < 204 → cpy 1 0 0 0 204 0 (st X' e 0) 1 p = M 0 p := by
      intro p hp; rw [cpy_at (Or.inl (by decide)), if_pos (by omega), Nat.sub_zero, Nat.zero_add, f1.1 0 (by decide)]
    clear lp
    generalize cpy 1 0 0 0 204 0 (st X' e 0) = X2 at cr c1 ⊢
    have sc2 := second X2 cr
    have kno := know_ok X2 cr
    have fM : fz M X2 ∨ True := Or.inr trivial
    have x2r : ∀ r, r ≠ 0 → r ≠ 1 → r ≠ 6 → X2 r = M r := fun r h0 h1 h6 => by rw [cr r h1, f1.1 r h6]
    have x26 : ∀ j, j < 5 → X2 6 j = M 6 j := fun j hj => by rw [cr 6 (by decide), f1.2 j hj]
    refine ⟨⟨fun _ => sc2.1.2, fun q => absurd rfl q⟩, ⟨gF.2.2, fun _ => nl23, fun q => absurd rfl q⟩, ?_⟩
    rcases sc2.2 with ⟨sc', mn', B', X4, i1, i2, i3, i4, i5, i6, i7⟩ | ⟨j', err, X4, i1, i2, i3, i4, i5⟩
    · -- done
      have i2b : (r_X8_go X2 1).2 = X4 := by rw [i2]
      rw [i2b] at kno
      rw [i1, i2b]
      dsimp only
      have sw := swap_at X4
      have s68 : r_X8_swap X4 6 8 = 0 := by rw [sw.2.2 6 (by decide) (by decide)]; exact i7
      rw [if_pos (show (0 : Int32) ≤ r_X8_swap X4 6 8 by rw [s68]; decide)]
      have ls : LB (r_X8_swap X4 0) (K 0) := by
        intro p hp
        rw [sw.1 p hp, i3.1 1 (by decide) (by decide), c1 p hp]; exact hL p hp
      have s2r : ∀ r, r ≠ 0 → r ≠ 1 → r ≠ 6 → r_X8_swap X4 r = M r := fun r h0 h1 h6 => by rw [sw.2.2 r h0 h1, i3.1 r h0 h6, x2r r h0 h1 h6]
      have s26 : ∀ j, j < 5 → r_X8_swap X4 6 j = M 6 j := fun j hj => by rw [sw.2.2 6 (by decide) (by decide), i3.2 j hj, x26 j hj]
      have hS : His n K (r_X8_swap X4) := His_congr hH rfl rfl (fun b _ _ => rfl) (s26 0 (by decide)) (s2r 2 (by decide) (by decide) (by decide))
      obtain ⟨nx2, kn2, hnx2, hkn2, k22, k32, -, hh⟩ := R_push ls hI hS
      have enx : nx2 = nx := by omega
      have ekn : kn2 = kn := by omega
      subst enx ekn
      have kw := know_row hS
      have sw2 := swap_at (r_X8_know (r_X8_swap X4))
      have ps := (push1_psh hnx (q2 B') (q3 B') hkn).1
      have e1 : up1 (up1 Kn 1 (Kn 0)) 0 B' 1 = K 0 := by rw [up1_ne _ _ (by decide)]; exact kr1
      rw [e1] at ps
      rw [ps]
      have w7 : ∀ r k, r ≠ 1 → r ≠ 2 → ¬ (r = 5 ∧ k = 1) → up1 (up1 Kn 1 (Kn 0)) 0 B' 7 r k = K 7 r k := fun r k h1 h2 h5 => by
        rw [up1_ne _ _ (by decide), kr 7 (by decide), kn7 r k h1 h2 h5]
      have wb' : ∀ b, b ≠ 0 → b ≠ 1 → b ≠ 7 → up1 (up1 Kn 1 (Kn 0)) 0 B' b = K b := fun b h0 h1 h7 => by
        rw [up1_ne _ _ h0, kr b h1, kn0 b h7]
      have w0 : up1 (up1 Kn 1 (Kn 0)) 0 B' 0 = B' := up1_0 _ _ _
      generalize up1 (up1 Kn 1 (Kn 0)) 0 B' = Kw at w7 wb' w0 ⊢
      rw [w7 5 2 (by decide) (by decide) (by omega), w7 5 3 (by decide) (by decide) (by omega)]
      dsimp only
      refine ⟨?_, ?_, ?_, ?_, ?_, ?_, ?_⟩
      · rw [sw2.2.2 6 (by decide) (by decide), kw.2 7 (by decide), sw.2.2 6 (by decide) (by decide)]; exact i6.symm
      · rw [psh_b _ _ _ _ _ (by decide), if_neg (by omega), w0]
        intro p hp
        rw [sw2.1 p hp, kw.1 1 (by decide) (by decide), sw.2.1 p hp]; exact i4 p hp
      · rw [psh_b _ _ _ _ _ (by decide), if_neg (by omega), w0]
        exact G_to i5 (by omega) (by omega)
      · refine His_congr (His_mono hh (Nat.le_succ n)) ?_ ?_ ?_ ?_ ?_
        · rw [psh_72 _ _ hnx, psh_72 _ _ hnx]
        · rw [psh_73 _ _ hnx, psh_73 _ _ hnx]
        · intro b h1 h2
          rw [psh_b _ _ _ _ _ (by omega), psh_b _ _ _ _ _ (by omega), wb' b (by omega) (by omega) (by omega)]
        · rw [sw2.2.2 6 (by decide) (by decide)]
        · rw [sw2.2.2 2 (by decide) (by decide)]
      · refine Kept_congr (R_K hm) ?_ ?_ ?_ ?_
        · rw [psh_7 _ _ hnx _ _ _ _ (by omega), w7 5 5 (by decide) (by decide) (by omega)]
        · rw [psh_b _ _ _ _ _ (by decide), if_neg (by omega), wb' 2 (by decide) (by decide) (by decide)]
        · rw [sw2.2.2 6 (by decide) (by decide), kw.2 1 (by decide), s26 1 (by decide)]
        · rw [sw2.2.2 3 (by decide) (by decide), kw.1 3 (by decide) (by decide), s2r 3 (by decide) (by decide) (by decide)]
      · refine Txt_congr (R_T hm) ?_ ?_ ?_ ?_
        · funext k; rw [psh_7 _ _ hnx _ _ _ _ (by omega), w7 0 k (by decide) (by decide) (by omega)]
        · rw [psh_7 _ _ hnx _ _ _ _ (by omega), w7 5 0 (by decide) (by decide) (by omega)]
        · rw [sw2.2.2 6 (by decide) (by decide), kw.2 2 (by decide), s26 2 (by decide)]
        · rw [sw2.2.2 4 (by decide) (by decide), kw.1 4 (by decide) (by decide), s2r 4 (by decide) (by decide) (by decide)]
      · refine Ref_congr (R_R hm) ?_ ?_ ?_ ?_
        · rw [psh_7 _ _ hnx _ _ _ _ (by omega), w7 5 6 (by decide) (by decide) (by omega)]
        · rw [psh_7 _ _ hnx _ _ _ _ (by omega), w7 5 7 (by decide) (by decide) (by omega)]
        · rw [sw2.2.2 6 (by decide) (by decide), kw.2 3 (by decide), s26 3 (by decide)]
        · rw [sw2.2.2 6 (by decide) (by decide), kw.2 4 (by decide), s26 4 (by decide)]
    · -- refused
      have i2a : (r_X8_go X2 1).1 = j' := by rw [i2]
      have i2b : (r_X8_go X2 1).2 = X4 := by rw [i2]
      have ez1 : z_X8_readPayments_1 X2 = up2 (up2 (r_X8_swap X4) 6 3 j') 6 4 err := by
        unfold z_X8_readPayments_1 z_X8_readPayments_0
        rw [i2b, i2a, (swap_at X4).2.2 6 (by decide) (by decide), i4]
      rw [i1, i2b, ez1]
      dsimp only
      have sw := swap_at X4
      have s68 : r_X8_swap X4 6 8 = err := by rw [sw.2.2 6 (by decide) (by decide)]; exact i4
      rw [if_neg (show ¬ ((0 : Int32) ≤ r_X8_swap X4 6 8) by rw [s68, i_le, z0]; omega)]
      have ls : LB (r_X8_swap X4 0) (K 0) := by
        intro p hp
        rw [sw.1 p hp, i3.1 1 (by decide) (by decide), c1 p hp]; exact hL p hp
      have s2r : ∀ r, r ≠ 0 → r ≠ 1 → r ≠ 6 → r_X8_swap X4 r = M r := fun r h0 h1 h6 => by rw [sw.2.2 r h0 h1, i3.1 r h0 h6, x2r r h0 h1 h6]
      have s26 : ∀ j, j < 5 → r_X8_swap X4 6 j = M 6 j := fun j hj => by rw [sw.2.2 6 (by decide) (by decide), i3.2 j hj, x26 j hj]
      refine ⟨rfl, ?_⟩
      dsimp only
      have w7 : ∀ r k, r ≠ 1 → r ≠ 2 → ¬ (r = 5 ∧ (k = 1 ∨ k = 6 ∨ k = 7)) → up3 (up3 (up1 (up1 Kn 1 (Kn 0)) 0 (K 0)) 7 5 6 j') 7 5 7 err 7 r k = K 7 r k := fun r k h1 h2 h5 => by
        rw [up3_at, if_pos rfl, up2_at, if_neg (by omega), up3_at, if_pos rfl, up2_at, if_neg (by omega), up1_ne _ _ (by decide), kr 7 (by decide), kn7 r k h1 h2 (by omega)]
      have w76 : up3 (up3 (up1 (up1 Kn 1 (Kn 0)) 0 (K 0)) 7 5 6 j') 7 5 7 err 7 5 6 = j' := by
        rw [up3_at, if_pos rfl, up2_at, if_neg (by omega), up3_at, if_pos rfl, up2_at, if_pos ⟨rfl, rfl⟩]
      have w77 : up3 (up3 (up1 (up1 Kn 1 (Kn 0)) 0 (K 0)) 7 5 6 j') 7 5 7 err 7 5 7 = err := by
        rw [up3_at, if_pos rfl, up2_at, if_pos ⟨rfl, rfl⟩]
      have wb' : ∀ b, b ≠ 1 → b ≠ 7 → up3 (up3 (up1 (up1 Kn 1 (Kn 0)) 0 (K 0)) 7 5 6 j') 7 5 7 err b = K b := fun b h1 h7 => by
        rw [up3_at, if_neg h7, up3_at, if_neg h7]
        by_cases h0 : b = 0
        · subst h0; rw [up1_0]
        · rw [up1_ne _ _ h0, kr b h1, kn0 b h7]
      have m6 : ∀ j, j ≠ 3 → j ≠ 4 → up2 (up2 (r_X8_swap X4) 6 3 j') 6 4 err 6 j = r_X8_swap X4 6 j := fun j h3 h4 => by
        rw [up2_at, if_neg (by omega), up2_at, if_neg (by omega)]
      have m63 : up2 (up2 (r_X8_swap X4) 6 3 j') 6 4 err 6 3 = j' := by rw [up2_at, if_neg (by omega), up2_at, if_pos ⟨rfl, rfl⟩]
      have m64 : up2 (up2 (r_X8_swap X4) 6 3 j') 6 4 err 6 4 = err := by rw [up2_at, if_pos ⟨rfl, rfl⟩]
      have mr : ∀ r, r ≠ 6 → up2 (up2 (r_X8_swap X4) 6 3 j') 6 4 err r = r_X8_swap X4 r := fun r hr => by rw [up2_row_ne hr, up2_row_ne hr]
      generalize up3 (up3 (up1 (up1 Kn 1 (Kn 0)) 0 (K 0)) 7 5 6 j') 7 5 7 err = Kw at w7 w76 w77 wb' ⊢
      generalize up2 (up2 (r_X8_swap X4) 6 3 j') 6 4 err = Mw at m6 m63 m64 mr ⊢
      refine ⟨?_, ?_, ?_, ?_, ?_, ?_⟩
      · rw [wb' 0 (by decide) (by decide), mr 0 (by decide)]; exact ls
      · rw [wb' 0 (by decide) (by decide)]; exact R_I hm
      · exact His_congr (R_H hm) (w7 5 2 (by decide) (by decide) (by omega)) (w7 5 3 (by decide) (by decide) (by omega)) (fun b h1 h2 => wb' b (by omega) (by omega)) (by rw [m6 0 (by decide) (by decide), s26 0 (by decide)]) (by rw [mr 2 (by decide), s2r 2 (by decide) (by decide) (by decide)])
      · exact Kept_congr (R_K hm) (w7 5 5 (by decide) (by decide) (by omega)) (wb' 2 (by decide) (by decide)) (by rw [m6 1 (by decide) (by decide), s26 1 (by decide)]) (by rw [mr 3 (by decide), s2r 3 (by decide) (by decide) (by decide)])
      · exact Txt_congr (R_T hm) (funext fun k => w7 0 k (by decide) (by decide) (by omega)) (w7 5 0 (by decide) (by decide) (by omega)) (by rw [m6 2 (by decide) (by decide), s26 2 (by decide)]) (by rw [mr 4 (by decide), s2r 4 (by decide) (by decide) (by decide)])
      · refine Or.inr ⟨?_, by rw [m63, w76], by rw [m64, w77]⟩
        rw [w77, Ne, i_eq, z0]; omega
