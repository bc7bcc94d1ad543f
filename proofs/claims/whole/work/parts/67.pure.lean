theorem R_payAhead {n : Nat} {K : Nat → jB} {M : jB} (h : Rel n K M) (hN : n ≤ 1000) (i : Int32) : n_X7_payAhead K i ∧ n_X8_payAhead M i ∧ (r_X7_payAhead K i).1 = (r_X8_payAhead M i).1 ∧ Rel (n + 1) (r_X7_payAhead K i).2 (r_X8_payAhead M i).2 := by
  obtain ⟨hp, np, nk, p0, p2, k0, k3, k6⟩ := R_push0 h
  have hL := R_L h
  have hI := R_I h
  have hm : Rel (n + 1) K M := Rel_mono h (Nat.le_succ n)
  have hs := Inv_s hI
  have hmm := Inv_m hI
  have l0 : LB (r_X8_know M 0) (K 0) := by rw [k0]; exact hL
  have main : ∀ (g : r_X3_has (K 0) i = 1) (h0 : 0 ≤ i.toInt) (h1 : i.toInt < (K 0 16 1).toInt), LB (z_X8_payAhead_4 M i 0) (z_X0_advance_3 (K 0) i) ∧ vp_in (r_X8_ofMember ((z_X8_payAhead_2 M i) 0 (r_X8_of i (0 : Int32)).toNatClampNeg) (2 : Int32)) 204 := by
    intro g h0 h1
    have me := mem_of hI h0 h1
    have eo := e_offer l0 hI h0 h1 0
    have l1 : LB (z_X8_payAhead_0 M i 0) (up2 (K 0) 11 i.toNatClampNeg 1) := LB_up2 l0 (vI4 h0 (by omega)) (pI4 h0 (by omega)) rfl
    have l2 : LB (z_X8_payAhead_1 M i 0) (z_X0_advance_0 (K 0) i) := LB_up2 l1 (vI6 h0 (by omega)) (pI6 h0 (by omega)) eo
    have l3 : LB (z_X8_payAhead_2 M i 0) (up2 (z_X0_advance_0 (K 0) i) 16 3 (z_X0_advance_0 (K 0) i 16 3 - r_X0_offerAfter (K 0) i 0)) := LB_up2 l2 vS1 rfl (by rw [rS1 l2, eo])
    have e7 : (z_X8_payAhead_2 M i) 0 (r_X8_of i (0 : Int32)).toNatClampNeg = K 0 7 i.toNatClampNeg := by
      rw [rI0 l3 h0 (by omega), up2_at, if_neg (by omega)]
      unfold z_X0_advance_0
      rw [up2_at, if_neg (by omega), up2_at, if_neg (by omega)]
    have l4 : LB (z_X8_payAhead_3 M i 0) (up2 (up2 (z_X0_advance_0 (K 0) i) 16 3 (z_X0_advance_0 (K 0) i 16 3 - r_X0_offerAfter (K 0) i 0)) 2 (K 0 7 i.toNatClampNeg).toNatClampNeg (z_X0_advance_0 (K 0) i 2 (K 0 7 i.toNatClampNeg).toNatClampNeg + r_X0_offerAfter (K 0) i 0)) := by
      refine LB_up2 l3 (vM2 me.1 (by omega)) ?_ ?_
      · rw [e7]; exact pM2 me.1 (by omega)
      · rw [e7, rM2 l3 me.1 (by omega), up2_at, if_neg (by omega), eo]
    have l5 := LB_up2 (M := z_X8_payAhead_3 M i) l4 vS10 rfl (v := (((z_X8_payAhead_3 M i) 0 (10 : Int32).toNatClampNeg) + (r_X8_offerBehind (r_X8_know M) i (0 : Int32)))) (v2 := z_X0_advance_0 (K 0) i 16 4 + r_X0_offerAfter (K 0) i 0) (p := (10 : Int32).toNatClampNeg) (by rw [rS10 l4, up2_at, if_neg (by omega), up2_at, if_neg (by omega), eo])
    refine ⟨LB_ext l5 ?_, by rw [e7]; exact vp_ofM me.1 (by omega) (by decide) (by decide)⟩
    intro r k hv
    have hh : r_X4_has (z_X0_advance_0 (K 0) i) (K 0 7 i.toNatClampNeg) = 1 := by
      have es : z_X0_advance_0 (K 0) i 16 0 = K 0 16 0 := by unfold z_X0_advance_0; rw [up2_at, if_neg (by omega), up2_at, if_neg (by omega)]
      have : r_X4_has (z_X0_advance_0 (K 0) i) (K 0 7 i.toNatClampNeg) = r_X4_has (K 0) (K 0 7 i.toNatClampNeg) := by unfold r_X4_has; rw [es]
      rw [this]; exact has4_1 hI me.1 me.2
    unfold z_X0_advance_3 z_X0_advance_2 z_X0_advance_1 r_X4_intoPurse
    rw [if_neg (by rw [hh]; exact one_ne)]
    simp only [up2_at]
    grind
  have nx8 : n_X8_payAhead M i := by
    refine ⟨by rw [rN9 hL, i_le]; exact hs.2, by rw [rN9 hL, i_le]; exact hs.1, fun _ => trivial, fun q => ?_⟩
    rw [e_isInvoice hL hI] at q
    rcases has3_cases hI i with g | ⟨g, h0, h1⟩
    · exact absurd g.1 q
    · exact ⟨n_mayAhead hL hI hN h0 h1, fun _ => trivial, fun _ => ⟨nk, n_offer8 l0 hI hN h0 h1 0, (main g h0 h1).2, (main g h0 h1).2, trivial⟩⟩
  have nx7 : n_X7_payAhead K i := ⟨fun _ => trivial, fun _ => ⟨n_canPayAhead hI hN i, fun _ => trivial, fun _ => ⟨np, ⟨fun _ => trivial, fun _ => ⟨by rw [p0]; exact n_offer hI hN i 0, trivial⟩⟩, trivial⟩⟩⟩
  refine ⟨nx7, nx8, ?_⟩
  unfold r_X7_payAhead r_X8_payAhead
  rw [e_isInvoice hL hI]
  rcases has3_cases hI i with g | ⟨g, h0, h1⟩
  · rw [if_pos g.1, if_pos g.1]; exact ⟨rfl, hm⟩
  have gn : ¬ (r_X3_has (K 0) i = 0) := by rw [g]; exact one_ne
  rw [if_neg gn, if_neg gn, e_mayAhead hL hI h0 h1]
  by_cases a : r_X0_canPayAhead (K 0) i = 0
  · rw [if_pos a, if_pos a]; exact ⟨rfl, hm⟩
  rw [if_neg a, if_neg a, p0]
  have ea : r_X0_advance (K 0) i = (r_X0_offerAfter (K 0) i 0, z_X0_advance_3 (K 0) i) := by unfold r_X0_advance; rw [if_neg gn]
  rw [ea]
  refine ⟨(e_offer l0 hI h0 h1 0).symm, ?_⟩
  show Rel (n + 1) (up1 (r_X2_push_0 K) 0 (z_X0_advance_3 (K 0) i)) (z_X8_payAhead_4 M i)
  refine push_set h (main g h0 h1).1 ?_ ?_
  · have hI' := R_I hm
    have ii := Inv_i hI' (nat_lt_i h0 h1)
    have oc := (offer_cut hI hN h0 h1 0).2
    have I1 : Inv (n + 1) (up2 (K 0) 11 i.toNatClampNeg 1) := by
      refine Inv_iup hI' (by omega) (fun _ => ?_)
      unfold IInv at ii ⊢
      simp only [up2_at]
      have z1 : (1 : Int32).toInt = 1 := rfl
      simp
      omega
    have I2 : Inv (n + 1) (z_X0_advance_0 (K 0) i) := by
      unfold z_X0_advance_0
      refine Inv_iup I1 (by omega) (fun hk => ?_)
      have := Inv_i I1 hk
      unfold IInv at this ⊢
      simp only [up2_at] at this ⊢
      simp at this ⊢
      omega
    have I3 : Inv (n + 1) (z_X0_advance_1 (K 0) i) := by
      unfold z_X0_advance_1 r_X4_intoPurse
      split
      · exact I2
      · exact Inv_free I2 _ (by omega)
    unfold z_X0_advance_3 z_X0_advance_2
    exact Inv_free (Inv_free I3 _ (by omega)) _ (by omega)
  · intro r hr
    show z_X8_payAhead_4 M i r = _
    unfold z_X8_payAhead_4 z_X8_payAhead_3 z_X8_payAhead_2 z_X8_payAhead_1 z_X8_payAhead_0
    rw [up2_row_ne hr, up2_row_ne hr, up2_row_ne hr, up2_row_ne hr, up2_row_ne hr]
