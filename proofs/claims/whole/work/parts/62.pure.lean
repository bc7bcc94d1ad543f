theorem R_addMember {n : Nat} {K : Nat → jB} {M : jB} (h : Rel n K M) (w : Int32) : n_X7_addMember K w ∧ n_X8_addMember M w ∧ (r_X7_addMember K w).1 = (r_X8_addMember M w).1 ∧ Rel (n + 1) (r_X7_addMember K w).2 (r_X8_addMember M w).2 := by
  obtain ⟨hp, np, nk, p0, p2, k0, k3, k6⟩ := R_push0 h
  have hL := R_L h
  have hI := R_I h
  have hm : Rel (n + 1) K M := Rel_mono h (Nat.le_succ n)
  have hs := Inv_m hI
  have z1 : (1 : Int32).toInt = 1 := rfl
  have z2 : (9 : Int32).toInt = 9 := rfl
  have z8 : (8 : Int32).toInt = 8 := rfl
  have z0 : (0 : Int32).toInt = 0 := rfl
  have em : r_X8_know M 0 (8 : Int32).toNatClampNeg = K 0 16 0 := by rw [k0]; exact rS8 hL
  have hmm : (M 0 (8 : Int32).toNatClampNeg = 8) ↔ ¬ ((K 0 16 0).toInt < 8) := by rw [rS8 hL, i_eq, z8]; omega
  refine ⟨⟨fun _ => trivial, fun _ => ⟨fun _ => ⟨fun _ => ⟨np, trivial⟩, fun _ => trivial⟩, fun _ => trivial⟩⟩, ⟨fun _ => trivial, fun _ => ⟨fun _ => trivial, fun q => ?_⟩⟩, ?_⟩
  · have q1 : (K 0 16 0).toInt < 8 := Classical.byContradiction fun q2 => q (hmm.mpr q2)
    rw [em]
    refine ⟨nk, vpi_of ?_ ?_, vpi_of ?_ ?_, vpi_of ?_ ?_, vpi_of ?_ ?_, trivial⟩ <;> rw [ofM_toInt hs.1 q1 (by decide) (by decide)]
    · rw [z0]; omega
    · rw [z0]; omega
    · rw [z1]; omega
    · rw [z1]; omega
    · rw [show (2 : Int32).toInt = 2 from rfl]; omega
    · rw [show (2 : Int32).toInt = 2 from rfl]; omega
    · rw [show (3 : Int32).toInt = 3 from rfl]; omega
    · rw [show (3 : Int32).toInt = 3 from rfl]; omega
  unfold r_X7_addMember r_X8_addMember
  rcases in_cases w 1 9 with b | b
  · rw [if_pos b.1]
    by_cases a : w < 1
    · rw [if_pos a]; exact ⟨rfl, hm⟩
    · rw [if_neg a, if_neg (by rw [i_lt] at a; rw [i_le]; omega)]; exact ⟨rfl, hm⟩
  rw [if_neg (show ¬ (r_X8_in w 1 9 = 0) by rw [b.1]; exact one_ne), if_neg (show ¬ (w < 1) by rw [i_lt]; omega), if_pos (show w ≤ 9 by rw [i_le]; omega)]
  by_cases a : (K 0 16 0).toInt < 8
  · rw [if_pos (show K 0 16 0 < 8 by rw [i_lt]; exact a), if_neg (fun q => (hmm.mp q) a)]
    have ea : r_X4_append (K 0) w = ((K 0 16 0 + 1) - 1, up2 (z_X4_append_1 (K 0) w) 16 0 (K 0 16 0 + 1)) := by
      unfold r_X4_append
      rw [if_neg (show ¬ (K 0 16 0 < 0) by rw [i_lt]; omega), if_pos (show K 0 16 0 < 8 by rw [i_lt]; exact a)]
    rw [p0, ea]
    have l0 : LB (r_X8_know M 0) (K 0) := by rw [k0]; exact hL
    have l1 : LB (z_X8_addMember_0 M w 0) (up2 (K 0) 0 (K 0 16 0).toNatClampNeg w) := LB_up2 l0 (vM0 hs.1 a) (by rw [em]; exact pM0 hs.1 a) rfl
    have l2 : LB (z_X8_addMember_1 M w 0) (z_X4_append_0 (K 0) w) := LB_up2 l1 (vM1 hs.1 a) (by rw [em]; exact pM1 hs.1 a) rfl
    have l3 : LB (z_X8_addMember_2 M w 0) (up2 (z_X4_append_0 (K 0) w) 2 (K 0 16 0).toNatClampNeg 0) := LB_up2 l2 (vM2 hs.1 a) (by rw [em]; exact pM2 hs.1 a) rfl
    have l4 : LB (z_X8_addMember_3 M w 0) (z_X4_append_1 (K 0) w) := LB_up2 l3 (vM3 hs.1 a) (by rw [em]; exact pM3 hs.1 a) rfl
    have es : z_X4_append_1 (K 0) w 16 0 = K 0 16 0 := by
      unfold z_X4_append_1 z_X4_append_0
      simp [up2_at]
    have l5 : LB (z_X8_addMember_4 M w 0) (up2 (z_X4_append_1 (K 0) w) 16 0 (K 0 16 0 + 1)) := LB_up2 l4 vS8 rfl (by rw [rS8 l4, es])
    refine ⟨?_, ?_⟩
    · show K 0 16 0 + 1 - 1 = r_X8_know M 0 (8 : Int32).toNatClampNeg
      rw [em]; grind
    · refine push_set h l5 ?_ ?_
      · show Inv (n + 1) (up2 (z_X4_append_1 (K 0) w) 16 0 (K 0 16 0 + 1))
        have hI' := R_I hm
        have hsz : (K 0 16 0 + 1).toInt = (K 0 16 0).toInt + 1 := ii_succ (by omega)
        have f0 : ∀ k, up2 (z_X4_append_1 (K 0) w) 16 0 (K 0 16 0 + 1) 0 k = if k = (K 0 16 0).toNatClampNeg then w else K 0 0 k := by
          intro k; unfold z_X4_append_1 z_X4_append_0; simp [up2_at]
        have fr : ∀ r k, 4 ≤ r → ¬ (r = 16 ∧ k = 0) → up2 (z_X4_append_1 (K 0) w) 16 0 (K 0 16 0 + 1) r k = K 0 r k := by
          intro r k hr hq; unfold z_X4_append_1 z_X4_append_0
          rw [up2_at, if_neg hq, up2_at, if_neg (by omega), up2_at, if_neg (by omega), up2_at, if_neg (by omega), up2_at, if_neg (by omega)]
        have fs0 : up2 (z_X4_append_1 (K 0) w) 16 0 (K 0 16 0 + 1) 16 0 = K 0 16 0 + 1 := by rw [up2_at, if_pos ⟨rfl, rfl⟩]
        obtain ⟨ia, ib, ic, id, ie, ig⟩ := hI'
        refine ⟨?_, ?_, ?_, ?_, ?_, ?_⟩
        · rw [fs0]; omega
        · rw [fr 16 1 (by decide) (by omega)]; exact ib
        · intro k; rw [fs0, f0 k]; intro hk
          by_cases e : k = (K 0 16 0).toNatClampNeg
          · rw [if_pos e]; omega
          · rw [if_neg e]; rw [i_nat] at e; exact ic k (by omega)
        · intro k hk; rw [fr 4 k (by decide) (by omega), fr 5 k (by decide) (by omega)]; exact id k hk
        · intro k; rw [fr 16 1 (by decide) (by omega)]; intro hk
          have := ie k hk
          unfold IInv at this ⊢
          rw [fr 7 k (by decide) (by omega), fr 8 k (by decide) (by omega), fr 9 k (by decide) (by omega), fr 11 k (by decide) (by omega), fr 12 k (by decide) (by omega), fr 13 k (by decide) (by omega), fs0]
          omega
        · rw [fr 15 0 (by decide) (by omega), fr 15 1 (by decide) (by omega), fr 15 2 (by decide) (by omega)]; exact ig
      · intro r hr
        show z_X8_addMember_4 M w r = _
        unfold z_X8_addMember_4 z_X8_addMember_3 z_X8_addMember_2 z_X8_addMember_1 z_X8_addMember_0
        rw [up2_row_ne hr, up2_row_ne hr, up2_row_ne hr, up2_row_ne hr, up2_row_ne hr]
  · rw [if_neg (show ¬ (K 0 16 0 < 8) by rw [i_lt]; exact a), if_pos (hmm.mpr a)]; exact ⟨rfl, hm⟩
