theorem sEnd_fr (B : jB) (loss W : Int32) (m : Nat) {r k : Nat} (h : r ≠ 2) (h3 : r ≠ 3) (h2 : ¬ (r = 16 ∧ (k = 3 ∨ k = 7))) : sEnd B loss W m r k = B r k := by
  unfold sEnd
  rw [up2_at, if_neg (by omega), up2_at, if_neg (by omega)]
  unfold shF
  rw [if_neg h, if_neg h3]
theorem sEnd_inv {S L : Int} {B : jB} (G : InvG S L B) (loss W : Int32) (m : Nat) : InvG S L (sEnd B loss W m) := by
  have e : ∀ r, r ≠ 2 → r ≠ 3 → r ≠ 16 → sEnd B loss W m r = B r := fun r h2 h3 h16 => funext fun k => sEnd_fr B loss W m h2 h3 (by omega)
  have e0 : sEnd B loss W m 16 0 = B 16 0 := sEnd_fr B loss W m (by omega) (by omega) (by omega)
  have e1 : sEnd B loss W m 16 1 = B 16 1 := sEnd_fr B loss W m (by omega) (by omega) (by omega)
  unfold InvG IInv at *
  rw [e0, e1, e 0 (by omega) (by omega) (by omega), e 4 (by omega) (by omega) (by omega), e 5 (by omega) (by omega) (by omega), e 7 (by omega) (by omega) (by omega), e 8 (by omega) (by omega) (by omega), e 9 (by omega) (by omega) (by omega), e 11 (by omega) (by omega) (by omega), e 12 (by omega) (by omega) (by omega), e 13 (by omega) (by omega) (by omega), e 15 (by omega) (by omega) (by omega)]
  exact G
theorem R_giveUp {n : Nat} {K : Nat → jB} {M : jB} (h : Rel n K M) (hN : n ≤ 900) (i : Int32) : n_X7_giveUp K i ∧ n_X8_giveUp M i ∧ (r_X7_giveUp K i).1 = (r_X8_giveUp M i).1 ∧ Rel (n + 1) (r_X7_giveUp K i).2 (r_X8_giveUp M i).2 := by
  obtain ⟨hp, np, nk, p0, p2, k0, k3, k6⟩ := R_push0 h
  have hL := R_L h
  have hI := R_I h
  have hm : Rel (n + 1) K M := Rel_mono h (Nat.le_succ n)
  have hs := Inv_s hI
  have hms := Inv_m hI
  have z0 : (0 : Int32).toInt = 0 := rfl
  have l0 : LB (r_X8_know M 0) (K 0) := by rw [k0]; exact hL
  have nn : (0 : Int32) ≤ K 0 16 1 ∧ K 0 16 1 ≤ 20 := ⟨by rw [i_le]; exact hs.1, by rw [i_le]; exact hs.2⟩
  unfold n_X7_giveUp n_X8_giveUp r_X7_giveUp r_X8_giveUp
  rw [e_isInvoice hL hI, rN9 hL, p0]
  rcases has3_cases hI i with g | ⟨g, h0, h1⟩
  · rw [if_pos g.1, if_pos g.1]
    exact ⟨⟨fun _ => trivial, fun q => absurd g.1 q⟩, ⟨nn.2, nn.1, fun _ => trivial, fun q => absurd g.1 q⟩, rfl, hm⟩
  have gn : ¬ (r_X3_has (K 0) i = 0) := by rw [g]; exact one_ne
  have hi : i.toInt < 20 := by omega
  rw [if_neg gn, if_neg gn, e_mayGiveUp hL hI h0 h1]
  have nmg : n_X8_mayGiveUp M i := ⟨vpi_of h0 hi, trivial⟩
  have cl := cl_of hI h0 h1
  have cl6 := nat_lt (n := 6) cl.1 cl.2
  have me := mem_of hI h0 h1
  have ad := adv_of hI h0 h1
  have pd := paid_of hI h0 h1
  have am := am_of hI h0 h1
  rw [rI4 l0 h0 hi, rI6 l0 h0 hi, rI5 l0 h0 hi]
  have elz : z_X0_lose_0 (K 0) i = up2 (up2 (K 0) 11 i.toNatClampNeg 3) 5 (K 0 8 i.toNatClampNeg).toNatClampNeg (K 0 5 (K 0 8 i.toNatClampNeg).toNatClampNeg + 1) := by
    unfold z_X0_lose_0 r_X1_addLost
    rw [if_neg (show ¬ (r_X1_has (up2 (K 0) 11 i.toNatClampNeg 3) (K 0 8 i.toNatClampNeg) = 0) by rw [has1_1 _ cl.1 cl.2]; exact one_ne), up2_at _ 11 _ _ 5, if_neg (by omega)]
  have ls3 : LB (z_X8_giveUp_0 M i 0) (up2 (K 0) 11 i.toNatClampNeg 3) := LB_up2 l0 (vI4 h0 hi) (pI4 h0 hi) rfl
  have ec : (z_X8_giveUp_0 M i) 0 (r_X8_of i (1 : Int32)).toNatClampNeg = K 0 8 i.toNatClampNeg := by rw [rI1 ls3 h0 hi, up2_at, if_neg (by omega)]
  have l1 : LB (z_X8_giveUp_1 M i 0) (z_X0_lose_0 (K 0) i) := by
    rw [elz]
    unfold z_X8_giveUp_1
    rw [ec]
    exact LB_up2 ls3 (vC1 cl.1 cl.2) (pC1 cl.1 cl.2) (by rw [rC1 ls3 cl.1 cl.2, up2_at, if_neg (by omega)])
  have G1 : InvG (64 * ((n + 1 : Nat) : Int)) ((n + 1 : Nat) : Int) (z_X0_lose_0 (K 0) i) := by
    have G0 : InvG (64 * ((n + 1 : Nat) : Int)) ((n + 1 : Nat) : Int) (K 0) := G_of (R_I hm)
    rw [elz]
    refine G_lup (G_iup G0 (by omega) (fun hk => ?_)) (fun _ => ?_)
    · have := Inv_i hI hk
      unfold IInv at this ⊢
      simp only [up2_at]
      simp
      omega
    · have := Inv_c hI cl6
      rw [ii_succ (by omega)]
      omega
  have I1 : Inv (n + 1) (z_X0_lose_0 (K 0) i) := G1
  have f13 : z_X0_lose_0 (K 0) i 13 i.toNatClampNeg = K 0 13 i.toNatClampNeg := by rw [elz, up2_at, if_neg (by omega), up2_at, if_neg (by omega)]
  have f12 : z_X0_lose_0 (K 0) i 12 i.toNatClampNeg = K 0 12 i.toNatClampNeg := by rw [elz, up2_at, if_neg (by omega), up2_at, if_neg (by omega)]
  have f16 : z_X0_lose_0 (K 0) i 16 0 = K 0 16 0 := by rw [elz, up2_at, if_neg (by omega), up2_at, if_neg (by omega)]
  have r1 : ∀ r, r ≠ 0 → z_X8_giveUp_1 M i r = r_X8_know M r := by
    intro r hr
    unfold z_X8_giveUp_1 z_X8_giveUp_0
    rw [up2_row_ne hr, up2_row_ne hr]
  have vc : vp_in (r_X8_ofClient (K 0 8 i.toNatClampNeg) (1 : Int32)) 204 := vp_ofC cl.1 cl.2 (by decide) (by decide)
  have lo : (K 0 13 i.toNatClampNeg - K 0 12 i.toNatClampNeg).toInt = (K 0 13 i.toNatClampNeg).toInt - (K 0 12 i.toNatClampNeg).toInt := i_sub (by omega) (by omega)
  have sh : (0 : Int32) < K 0 13 i.toNatClampNeg - K 0 12 i.toNatClampNeg → _ := fun q => share_eq l1 I1 (by rw [f16]; omega) (loss := K 0 13 i.toNatClampNeg - K 0 12 i.toNatClampNeg) (by rw [i_lt, z0] at q; omega)
  have e7 : r_X0_lose (K 0) i = (if (K 0 11 i.toNatClampNeg) = (1 : Int32) then (if (0 : Int32) < (K 0 13 i.toNatClampNeg - K 0 12 i.toNatClampNeg) then (K 0 13 i.toNatClampNeg - K 0 12 i.toNatClampNeg, r_X0_share (z_X0_lose_0 (K 0) i) (K 0 13 i.toNatClampNeg - K 0 12 i.toNatClampNeg)) else ((0 : Int32), (z_X0_lose_0 (K 0) i))) else ((0 : Int32), (z_X0_lose_0 (K 0) i))) := by
    unfold r_X0_lose z_X0_lose_1
    rw [if_neg gn, f13, f12]
  have n7 : n_X0_lose (K 0) i := by
    unfold n_X0_lose
    rw [f13, f12]
    exact ⟨fun _ => trivial, fun _ => ⟨fun _ => ⟨fun q => ⟨(sh q).2.2.1, trivial⟩, fun _ => trivial⟩, fun _ => trivial⟩⟩
  rw [ec, e7]
  refine ⟨⟨fun _ => trivial, fun _ => ⟨fun _ => trivial, fun _ => ⟨np, n7, trivial⟩⟩⟩, ⟨nn.2, nn.1, fun q => absurd q gn, fun _ => ⟨nmg, fun _ => trivial, fun _ => ⟨nk, fun _ => ⟨vc, vc, fun q => ⟨(sh q).2.2.2.1, trivial⟩, fun _ => trivial⟩, fun _ => ⟨vc, vc, trivial⟩⟩⟩⟩, ?_⟩
  by_cases a : r_X0_canGiveUp (K 0) i = 0
  · rw [if_pos a, if_pos a]; exact ⟨rfl, hm⟩
  rw [if_neg a, if_neg a]
  have base : Rel (n + 1) (up1 (r_X2_push_0 K) 0 (z_X0_lose_0 (K 0) i)) (z_X8_giveUp_1 M i) := push_set h l1 I1 r1
  by_cases s : K 0 11 i.toNatClampNeg = 1
  · rw [if_pos s, if_pos s]
    by_cases q : (0 : Int32) < K 0 13 i.toNatClampNeg - K 0 12 i.toNatClampNeg
    · rw [if_pos q, if_pos q]
      refine ⟨rfl, ?_⟩
      obtain ⟨s1, s2, s3, s4, s5⟩ := sh q
      dsimp only
      have ez2 : z_X8_giveUp_2 M i = r_X8_share (z_X8_giveUp_1 M i) (K 0 13 i.toNatClampNeg - K 0 12 i.toNatClampNeg) := by
        unfold z_X8_giveUp_2
        rw [rI6 l0 h0 hi, rI5 l0 h0 hi]
      rw [ez2]
      refine R_set hp (Nat.le_succ n) s1 ?_ ?_ ?_ ?_ ?_
      · rw [s5]; exact sEnd_inv G1 _ _ _
      · rw [s2 2 (by decide) (by decide), r1 2 (by decide)]
      · rw [s2 3 (by decide) (by decide), r1 3 (by decide)]
      · rw [s2 4 (by decide) (by decide), r1 4 (by decide)]
      · intro j _; rw [s2 6 (by decide) (by decide), r1 6 (by decide)]
    · rw [if_neg q, if_neg q]; exact ⟨rfl, base⟩
  · rw [if_neg s, if_neg s]; exact ⟨rfl, base⟩
