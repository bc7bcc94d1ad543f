theorem of_toInt {i w : Int32} (h0 : 0 ≤ i.toInt) (h1 : i.toInt < 20) (w0 : 0 ≤ w.toInt) (w1 : w.toInt ≤ 6) : (r_X8_of i w).toInt = 64 + 7 * i.toInt + w.toInt := by
  unfold r_X8_of
  have z1 : (64 : Int32).toInt = 64 := rfl
  have z2 : (7 : Int32).toInt = 7 := rfl
  have a : ((7 : Int32) * i).toInt = 7 * i.toInt := by rw [i_mul] <;> rw [z2] <;> omega
  have b : ((64 : Int32) + 7 * i).toInt = 64 + 7 * i.toInt := by rw [i_add] <;> rw [z1, a] <;> omega
  rw [i_add] <;> rw [b] <;> omega
theorem vp_of {i w : Int32} (h0 : 0 ≤ i.toInt) (h1 : i.toInt < 20) (w0 : 0 ≤ w.toInt) (w1 : w.toInt ≤ 6) : vp_in (r_X8_of i w) 204 := vpi_of (by rw [of_toInt h0 h1 w0 w1]; omega) (by rw [of_toInt h0 h1 w0 w1]; omega)
theorem vp_ofM {i w : Int32} (h0 : 0 ≤ i.toInt) (h1 : i.toInt < 8) (w0 : 0 ≤ w.toInt) (w1 : w.toInt ≤ 3) : vp_in (r_X8_ofMember i w) 204 := vpi_of (by rw [ofM_toInt h0 h1 w0 w1]; omega) (by rw [ofM_toInt h0 h1 w0 w1]; omega)
theorem vp_ofC {i w : Int32} (h0 : 0 ≤ i.toInt) (h1 : i.toInt < 6) (w0 : 0 ≤ w.toInt) (w1 : w.toInt ≤ 2) : vp_in (r_X8_ofClient i w) 204 := vpi_of (by rw [ofC_toInt h0 h1 w0 w1]; omega) (by rw [ofC_toInt h0 h1 w0 w1]; omega)
theorem R_addInvoice {n : Nat} {K : Nat → jB} {M : jB} (h : Rel n K M) (i c a d : Int32) : n_X7_addInvoice K i c a d ∧ n_X8_addInvoice M i c a d ∧ (r_X7_addInvoice K i c a d).1 = (r_X8_addInvoice M i c a d).1 ∧ Rel (n + 1) (r_X7_addInvoice K i c a d).2 (r_X8_addInvoice M i c a d).2 := by
  obtain ⟨hp, np, nk, p0, p2, k0, k3, k6⟩ := R_push0 h
  have hL := R_L h
  have hI := R_I h
  have hm : Rel (n + 1) K M := Rel_mono h (Nat.le_succ n)
  have hs := Inv_s hI
  have z0 : (0 : Int32).toInt = 0 := rfl
  have z100 : (100 : Int32).toInt = 100 := rfl
  have z20 : (20 : Int32).toInt = 20 := rfl
  have zM : (1000000 : Int32).toInt = 1000000 := rfl
  have z9 : (9999 : Int32).toInt = 9999 := rfl
  have em : r_X8_know M 0 (9 : Int32).toNatClampNeg = K 0 16 1 := by rw [k0]; exact rS9 hL
  have hmm : (M 0 (9 : Int32).toNatClampNeg = 20) ↔ ¬ ((K 0 16 1).toInt < 20) := by rw [rS9 hL, i_eq, z20]; omega
  refine ⟨⟨fun _ => trivial, fun _ => ⟨fun _ => trivial, fun _ => ⟨fun _ => trivial, fun _ => ⟨fun _ => ⟨fun _ => trivial, fun _ => ⟨fun _ => ⟨fun _ => ⟨np, trivial⟩, fun _ => trivial⟩, fun _ => trivial⟩⟩, fun _ => trivial⟩⟩⟩⟩, ⟨fun _ => trivial, fun _ => ⟨fun _ => trivial, fun _ => ⟨fun _ => trivial, fun _ => ⟨fun _ => trivial, fun _ => ⟨fun _ => trivial, fun q => ?_⟩⟩⟩⟩⟩, ?_⟩
  · have q1 : (K 0 16 1).toInt < 20 := Classical.byContradiction fun q2 => q (hmm.mpr q2)
    rw [em]
    exact ⟨nk, vp_of hs.1 q1 (by decide) (by decide), vp_of hs.1 q1 (by decide) (by decide), vp_of hs.1 q1 (by decide) (by decide), vp_of hs.1 q1 (by decide) (by decide), vp_of hs.1 q1 (by decide) (by decide), vp_of hs.1 q1 (by decide) (by decide), vp_of hs.1 q1 (by decide) (by decide), trivial⟩
  unfold r_X7_addInvoice r_X8_addInvoice
  rw [e_isMember hL hI, e_isClient (K 0) c]
  rcases has4_cases hI i with g | ⟨g, h0, h1⟩
  · rw [if_pos g.1, if_pos g.1]; exact ⟨rfl, hm⟩
  have gn : ¬ (r_X4_has (K 0) i = 0) := by rw [g]; exact one_ne
  rw [if_neg gn, if_neg gn]
  rcases has1_cases (K 0) c with f | ⟨f, c0, c1⟩
  · rw [if_pos f.1, if_pos f.1]; exact ⟨rfl, hm⟩
  have fn : ¬ (r_X1_has (K 0) c = 0) := by rw [f]; exact one_ne
  rw [if_neg fn, if_neg fn]
  rcases in_cases a 100 1000000 with b | b
  · rw [if_pos b.1]
    by_cases q : a < 100
    · rw [if_pos q]; exact ⟨rfl, hm⟩
    · rw [if_neg q, if_neg (show ¬ (a ≤ 1000000) by rw [i_lt] at q; rw [i_le]; omega)]; exact ⟨rfl, hm⟩
  rw [if_neg (show ¬ (r_X8_in a 100 1000000 = 0) by rw [b.1]; exact one_ne), if_neg (show ¬ (a < 100) by rw [i_lt]; omega), if_pos (show a ≤ 1000000 by rw [i_le]; omega)]
  rcases in_cases d 0 9999 with b2 | b2
  · rw [if_pos b2.1]
    by_cases q : d < 0
    · rw [if_pos q]; exact ⟨rfl, hm⟩
    · rw [if_neg q, if_neg (show ¬ (d ≤ 9999) by rw [i_lt] at q; rw [i_le]; omega)]; exact ⟨rfl, hm⟩
  rw [if_neg (show ¬ (r_X8_in d 0 9999 = 0) by rw [b2.1]; exact one_ne), if_neg (show ¬ (d < 0) by rw [i_lt]; omega), if_pos (show d ≤ 9999 by rw [i_le]; omega)]
  by_cases q : (K 0 16 1).toInt < 20
  · rw [if_pos (show K 0 16 1 < 20 by rw [i_lt]; exact q), if_neg (fun r => (hmm.mp r) q)]
    have ea : r_X3_append (K 0) i c a d = ((K 0 16 1 + 1) - 1, up2 (z_X3_append_4 (K 0) i c a d) 16 1 (K 0 16 1 + 1)) := by
      unfold r_X3_append
      rw [if_neg (show ¬ (K 0 16 1 < 0) by rw [i_lt]; omega), if_pos (show K 0 16 1 < 20 by rw [i_lt]; exact q)]
    rw [p0, ea]
    have l0 : LB (r_X8_know M 0) (K 0) := by rw [k0]; exact hL
    have l1 : LB (z_X8_addInvoice_0 M i 0) (up2 (K 0) 7 (K 0 16 1).toNatClampNeg i) := LB_up2 l0 (vI0 hs.1 q) (by rw [em]; exact pI0 hs.1 q) rfl
    have l2 : LB (z_X8_addInvoice_1 M i c 0) (z_X3_append_0 (K 0) i c) := LB_up2 l1 (vI1 hs.1 q) (by rw [em]; exact pI1 hs.1 q) rfl
    have l3 : LB (z_X8_addInvoice_2 M i c a 0) (up2 (z_X3_append_0 (K 0) i c) 9 (K 0 16 1).toNatClampNeg a) := LB_up2 l2 (vI2 hs.1 q) (by rw [em]; exact pI2 hs.1 q) rfl
    have l4 : LB (z_X8_addInvoice_3 M i c a d 0) (z_X3_append_1 (K 0) i c a d) := LB_up2 l3 (vI3 hs.1 q) (by rw [em]; exact pI3 hs.1 q) rfl
    have l5 : LB (z_X8_addInvoice_4 M i c a d 0) (z_X3_append_2 (K 0) i c a d) := LB_up2 l4 (vI4 hs.1 q) (by rw [em]; exact pI4 hs.1 q) rfl
    have l6 : LB (z_X8_addInvoice_5 M i c a d 0) (z_X3_append_3 (K 0) i c a d) := LB_up2 l5 (vI5 hs.1 q) (by rw [em]; exact pI5 hs.1 q) rfl
    have l7 : LB (z_X8_addInvoice_6 M i c a d 0) (z_X3_append_4 (K 0) i c a d) := LB_up2 l6 (vI6 hs.1 q) (by rw [em]; exact pI6 hs.1 q) rfl
    have fr0 : ∀ r k, ¬ (7 ≤ r ∧ r < 14 ∧ k = (K 0 16 1).toNatClampNeg) → z_X3_append_4 (K 0) i c a d r k = K 0 r k := by
      intro r k hq; unfold z_X3_append_4 z_X3_append_3 z_X3_append_2 z_X3_append_1 z_X3_append_0
      rw [up2_at, if_neg (by omega), up2_at, if_neg (by omega), up2_at, if_neg (by omega), up2_at, if_neg (by omega), up2_at, if_neg (by omega), up2_at, if_neg (by omega), up2_at, if_neg (by omega)]
    have es : z_X3_append_4 (K 0) i c a d 16 1 = K 0 16 1 := fr0 16 1 (by omega)
    have l8 : LB (z_X8_addInvoice_7 M i c a d 0) (up2 (z_X3_append_4 (K 0) i c a d) 16 1 (K 0 16 1 + 1)) := LB_up2 l7 vS9 rfl (by rw [rS9 l7, es])
    refine ⟨?_, ?_⟩
    · show K 0 16 1 + 1 - 1 = r_X8_know M 0 (9 : Int32).toNatClampNeg
      rw [em]; grind
    · refine push_set h l8 ?_ ?_
      · show Inv (n + 1) (up2 (z_X3_append_4 (K 0) i c a d) 16 1 (K 0 16 1 + 1))
        have hI' := R_I hm
        have hsz : (K 0 16 1 + 1).toInt = (K 0 16 1).toInt + 1 := ii_succ (by omega)
        have fr : ∀ r k, ¬ (7 ≤ r ∧ r < 14 ∧ k = (K 0 16 1).toNatClampNeg) → ¬ (r = 16 ∧ k = 1) → up2 (z_X3_append_4 (K 0) i c a d) 16 1 (K 0 16 1 + 1) r k = K 0 r k := by
          intro r k h1 h2; rw [up2_at, if_neg h2, fr0 r k h1]
        have fs1 : up2 (z_X3_append_4 (K 0) i c a d) 16 1 (K 0 16 1 + 1) 16 1 = K 0 16 1 + 1 := by rw [up2_at, if_pos ⟨rfl, rfl⟩]
        have g7 : up2 (z_X3_append_4 (K 0) i c a d) 16 1 (K 0 16 1 + 1) 7 (K 0 16 1).toNatClampNeg = i := by unfold z_X3_append_4 z_X3_append_3 z_X3_append_2 z_X3_append_1 z_X3_append_0; simp [up2_at]
        have g8 : up2 (z_X3_append_4 (K 0) i c a d) 16 1 (K 0 16 1 + 1) 8 (K 0 16 1).toNatClampNeg = c := by unfold z_X3_append_4 z_X3_append_3 z_X3_append_2 z_X3_append_1 z_X3_append_0; simp [up2_at]
        have g9 : up2 (z_X3_append_4 (K 0) i c a d) 16 1 (K 0 16 1 + 1) 9 (K 0 16 1).toNatClampNeg = a := by unfold z_X3_append_4 z_X3_append_3 z_X3_append_2 z_X3_append_1 z_X3_append_0; simp [up2_at]
        have g11 : up2 (z_X3_append_4 (K 0) i c a d) 16 1 (K 0 16 1 + 1) 11 (K 0 16 1).toNatClampNeg = 0 := by unfold z_X3_append_4 z_X3_append_3 z_X3_append_2 z_X3_append_1 z_X3_append_0; simp [up2_at]
        have g12 : up2 (z_X3_append_4 (K 0) i c a d) 16 1 (K 0 16 1 + 1) 12 (K 0 16 1).toNatClampNeg = 0 := by unfold z_X3_append_4 z_X3_append_3 z_X3_append_2 z_X3_append_1 z_X3_append_0; simp [up2_at]
        have g13 : up2 (z_X3_append_4 (K 0) i c a d) 16 1 (K 0 16 1 + 1) 13 (K 0 16 1).toNatClampNeg = 0 := by unfold z_X3_append_4 z_X3_append_3 z_X3_append_2 z_X3_append_1 z_X3_append_0; simp [up2_at]
        obtain ⟨ia, ib, ic, id, ie, ig⟩ := hI'
        refine ⟨?_, ?_, ?_, ?_, ?_, ?_⟩
        · rw [fr 16 0 (by omega) (by omega)]; exact ia
        · rw [fs1]; omega
        · intro k; rw [fr 16 0 (by omega) (by omega), fr 0 k (by omega) (by omega)]; exact ic k
        · intro k hk; rw [fr 4 k (by omega) (by omega), fr 5 k (by omega) (by omega)]; exact id k hk
        · intro k; rw [fs1]; intro hk
          by_cases e : k = (K 0 16 1).toNatClampNeg
          · subst e
            unfold IInv
            rw [g7, g8, g9, g11, g12, g13, fr 16 0 (by omega) (by omega), z0]
            omega
          · have e' := e
            rw [i_nat] at e'
            have := ie k (by omega)
            unfold IInv at this ⊢
            rw [fr 7 k (by omega) (by omega), fr 8 k (by omega) (by omega), fr 9 k (by omega) (by omega), fr 11 k (by omega) (by omega), fr 12 k (by omega) (by omega), fr 13 k (by omega) (by omega), fr 16 0 (by omega) (by omega)]
            exact this
        · rw [fr 15 0 (by omega) (by omega), fr 15 1 (by omega) (by omega), fr 15 2 (by omega) (by omega)]; exact ig
      · intro r hr
        show z_X8_addInvoice_7 M i c a d r = _
        unfold z_X8_addInvoice_7 z_X8_addInvoice_6 z_X8_addInvoice_5 z_X8_addInvoice_4 z_X8_addInvoice_3 z_X8_addInvoice_2 z_X8_addInvoice_1 z_X8_addInvoice_0
        rw [up2_row_ne hr, up2_row_ne hr, up2_row_ne hr, up2_row_ne hr, up2_row_ne hr, up2_row_ne hr, up2_row_ne hr, up2_row_ne hr]
  · rw [if_neg (show ¬ (K 0 16 1 < 20) by rw [i_lt]; exact q), if_pos (hmm.mpr q)]; exact ⟨rfl, hm⟩
