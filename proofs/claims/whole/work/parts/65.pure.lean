theorem R_keep {n : Nat} {K : Nat → jB} {M : jB} (h : Rel n K M) : (r_X7_keep K).1 = (r_X8_keep M).1 ∧ Rel (n + 1) (r_X7_keep K).2 (r_X8_keep M).2 := by
  have hm : Rel (n + 1) K M := Rel_mono h (Nat.le_succ n)
  have hL := R_L hm
  have lp := loopC (L := L_X8_keep_2 M) (fin := fun M => (M 0 (0 : Int32).toNatClampNeg, up2 M 6 1 1)) (N := 204) (R := 3) (D := 0) (R' := 0) (S := 0) (P := fun M => True) (by decide) (by
    intro M k v p; trivial) (by
    intro n x M hx; rw [L_X8_keep_2, if_pos hx]) (by
    intro n x M h0 h1 p
    have z204 : (204 : Int32).toInt = 204 := rfl
    rw [L_X8_keep_2, if_neg (by rw [i_le]; omega), Nat.zero_add]) 204 204 0 M trivial (by decide) (by decide) (by decide)
  rw [tn0] at lp
  unfold r_X8_keep r_X7_keep
  rw [lp]
  have cr : ∀ r j, r ≠ 3 → cpy 3 0 0 0 204 0 M r j = M r j := by
    intro r j hr; rw [cpy_at (Or.inl (by decide)), if_neg (by omega)]
  have c3 : ∀ p, p < 204 → cpy 3 0 0 0 204 0 M 3 p = M 0 p := by
    intro p hp; rw [cpy_at (Or.inl (by decide)), if_pos (by omega), Nat.sub_zero, Nat.zero_add]
  clear lp
  generalize cpy 3 0 0 0 204 0 M = M1 at *
  have m6 : ∀ j, up2 M1 6 1 1 6 j = if j = 1 then 1 else M 6 j := by
    intro j; rw [up2_at]
    by_cases q : j = 1
    · rw [if_pos ⟨rfl, q⟩, if_pos q]
    · rw [if_neg (by omega), if_neg q, cr 6 j (by decide)]
  have mr : ∀ r, r ≠ 6 → r ≠ 3 → up2 M1 6 1 1 r = M r := by
    intro r h1 h2; rw [up2_row_ne h1]; exact funext fun j => cr r j h2
  have m3 : up2 M1 6 1 1 3 = M1 3 := up2_row_ne (by decide) _ _ _
  have kb : ∀ b, b ≠ 2 → b ≠ 7 → up3 (up1 K 2 (K 0)) 7 5 5 1 b = K b := by
    intro b h1 h2; rw [up3_at, if_neg h2, up1_at, if_neg h1]
  have k2 : up3 (up1 K 2 (K 0)) 7 5 5 1 2 = K 0 := by rw [up3_at, if_neg (by decide), up1_at, if_pos rfl]
  have k7 : ∀ r j, ¬ (r = 5 ∧ j = 5) → up3 (up1 K 2 (K 0)) 7 5 5 1 7 r j = K 7 r j := by
    intro r j hq; rw [up3_at, if_pos rfl, up2_at, if_neg hq, up1_at, if_neg (by decide)]
  have k75 : up3 (up1 K 2 (K 0)) 7 5 5 1 7 5 5 = 1 := by rw [up3_at, if_pos rfl, up2_at, if_pos ⟨rfl, rfl⟩]
  refine ⟨?_, ?_⟩
  · show up1 K 2 (K 0) 0 16 2 = M1 0 0
    rw [up1_at, if_neg (by decide), cr 0 0 (by decide)]
    exact (rN0 hL).symm
  · show Rel (n + 1) (up3 (up1 K 2 (K 0)) 7 5 5 1) (up2 M1 6 1 1)
    generalize up3 (up1 K 2 (K 0)) 7 5 5 1 = K1 at *
    generalize up2 M1 6 1 1 = M2 at *
    refine ⟨?_, ?_, ?_, ?_, ?_, ?_⟩
    · rw [kb 0 (by decide) (by decide), mr 0 (by decide) (by decide)]; exact hL
    · rw [kb 0 (by decide) (by decide)]; exact R_I hm
    · exact His_congr (R_H hm) (k7 5 2 (by omega)) (k7 5 3 (by omega)) (fun b h1 h2 => kb b (by omega) (by omega)) (by rw [m6, if_neg (by decide)]) (mr 2 (by decide) (by decide))
    · refine ⟨by rw [m6, if_pos rfl, k75], fun _ => ?_⟩
      rw [k2, m3]
      refine ⟨?_, R_I hm⟩
      intro p hp
      rw [c3 p hp]; exact hL p hp
    · exact Txt_congr (R_T hm) (funext fun j => k7 0 j (by omega)) (k7 5 0 (by omega)) (by rw [m6, if_neg (by decide)]) (mr 4 (by decide) (by decide))
    · exact Ref_congr (R_R hm) (k7 5 6 (by omega)) (k7 5 7 (by omega)) (by rw [m6, if_neg (by decide)]) (by rw [m6, if_neg (by decide)])
theorem NL_restore (M : jB) : ∀ (n : Nat) (x : Int32) (M1 : jB), NL_X8_restore_16 M n x M1
  | 0, _, _ => trivial
  | n + 1, x, M1 => ⟨fun _ => trivial, fun _ => NL_restore M n _ _⟩
theorem R_restore {n : Nat} {K : Nat → jB} {M : jB} (h : Rel n K M) : n_X7_restore K ∧ n_X8_restore M ∧ (r_X7_restore K).1 = (r_X8_restore M).1 ∧ Rel (n + 1) (r_X7_restore K).2 (r_X8_restore M).2 := by
  obtain ⟨hp, np, nk, p0, p2, k0, k3, k6⟩ := R_push0 h
  have hm : Rel (n + 1) K M := Rel_mono h (Nat.le_succ n)
  refine ⟨⟨fun _ => trivial, fun _ => ⟨np, trivial⟩⟩, ⟨fun _ => trivial, fun _ => ⟨nk, NL_restore M _ _ _⟩⟩, ?_⟩
  unfold r_X7_restore r_X8_restore
  have hK := R_K h
  rw [hK.1]
  by_cases e : K 7 5 5 = 0
  · rw [if_pos e, if_pos e]; exact ⟨rfl, hm⟩
  rw [if_neg e, if_neg e]
  have lp := loopC (L := L_X8_restore_16 M) (fin := fun M => (M 0 (0 : Int32).toNatClampNeg, M)) (N := 204) (R := 0) (D := 0) (R' := 3) (S := 0) (P := fun M => True) (by decide) (by
    intro M k v p; trivial) (by
    intro n x M hx; rw [L_X8_restore_16, if_pos hx]) (by
    intro n x M h0 h1 p
    have z204 : (204 : Int32).toInt = 204 := rfl
    rw [L_X8_restore_16, if_neg (by rw [i_le]; omega), Nat.zero_add]) 204 204 0 (r_X8_know M) trivial (by decide) (by decide) (by decide)
  rw [tn0] at lp
  rw [lp]
  have cr : ∀ r j, r ≠ 0 → cpy 0 0 3 0 204 0 (r_X8_know M) r j = r_X8_know M r j := by
    intro r j hr; rw [cpy_at (Or.inl (by decide)), if_neg (by omega)]
  have c0 : ∀ p, p < 204 → cpy 0 0 3 0 204 0 (r_X8_know M) 0 p = M 3 p := by
    intro p hp; rw [cpy_at (Or.inl (by decide)), if_pos (by omega), Nat.sub_zero, Nat.zero_add, k3]
  clear lp
  generalize cpy 0 0 3 0 204 0 (r_X8_know M) = M1 at *
  have hs := hK.2 e
  have l0 : LB (M1 0) (K 2) := fun p hp => by rw [c0 p hp]; exact hs.1 p hp
  rw [p2]
  refine ⟨?_, ?_⟩
  · show up1 (r_X2_push_0 K) 0 (K 2) 0 16 2 = M1 0 0
    rw [up1_at, if_pos rfl]
    exact (rN0 l0).symm
  · exact push_set h l0 (Inv_mono hs.2 (Nat.le_succ n)) (fun r hr => funext fun j => cr r j hr)
theorem an_toInt0 {n : Nat} (h : n < 2147483648) : ((UInt32.ofNat n).toInt32).toInt = n := Int32.toInt_ofNat_of_lt h
theorem char_nar (v : Int32) : 0 ≤ (vp_nar .char v).toInt ∧ (vp_nar .char v).toInt ≤ 65535 := by
  show 0 ≤ (v.toUInt32.toUInt16.toUInt32.toInt32).toInt ∧ (v.toUInt32.toUInt16.toUInt32.toInt32).toInt ≤ 65535
  have hu : v.toUInt32.toUInt16.toUInt32.toNat < 65536 := by
    show v.toUInt32.toUInt16.toNat < _
    exact UInt16.toNat_lt _
  have e : v.toUInt32.toUInt16.toUInt32 = UInt32.ofNat v.toUInt32.toUInt16.toUInt32.toNat := by
    apply UInt32.toNat_inj.mp
    show _ = _ % 2 ^ 32
    omega
  have e2 : (v.toUInt32.toUInt16.toUInt32.toInt32).toInt = v.toUInt32.toUInt16.toUInt32.toNat := by
    conv => lhs; rw [e]
    exact an_toInt0 (by omega)
  omega
theorem char_idem (v : Int32) : vp_nar .char (v.toUInt32.toUInt16.toUInt32.toInt32) = v.toUInt32.toUInt16.toUInt32.toInt32 := by
  show (v.toUInt32.toUInt16.toUInt32.toInt32).toUInt32.toUInt16.toUInt32.toInt32 = _
  have e : ∀ u : UInt32, u % 65536 % 65536 = u % 65536 := fun u => by
    apply UInt32.toNat_inj.mp
    simp [UInt32.toNat_mod]
  simp [e]
theorem R_clearText {n : Nat} {K : Nat → jB} {M : jB} (h : Rel n K M) : (r_X7_clearText K).1 = (r_X8_clearText M).1 ∧ Rel (n + 1) (r_X7_clearText K).2 (r_X8_clearText M).2 := by
  have hm : Rel (n + 1) K M := Rel_mono h (Nat.le_succ n)
  have hT := R_T hm
  refine ⟨hT.1.symm, ?_⟩
  have kb : ∀ b, b ≠ 7 → up3 K 7 5 0 0 b = K b := fun b hb => by rw [up3_at, if_neg hb]
  have k7 : ∀ r j, ¬ (r = 5 ∧ j = 0) → up3 K 7 5 0 0 7 r j = K 7 r j := fun r j hq => by rw [up3_at, if_pos rfl, up2_at, if_neg hq]
  have k70 : up3 K 7 5 0 0 7 5 0 = 0 := by rw [up3_at, if_pos rfl, up2_at, if_pos ⟨rfl, rfl⟩]
  have mr : ∀ r, r ≠ 6 → up2 M 6 2 0 r = M r := fun r hr => up2_row_ne hr _ _ _
  have m6 : ∀ j, j ≠ 2 → up2 M 6 2 0 6 j = M 6 j := fun j hj => by rw [up2_at, if_neg (by omega)]
  have m62 : up2 M 6 2 0 6 2 = 0 := by rw [up2_at, if_pos ⟨rfl, rfl⟩]
  show Rel (n + 1) (up3 K 7 5 0 0) (up2 M 6 2 0)
  generalize up3 K 7 5 0 0 = K1 at *
  generalize up2 M 6 2 0 = M1 at *
  refine ⟨?_, ?_, ?_, ?_, ?_, ?_⟩
  · rw [kb 0 (by decide), mr 0 (by decide)]; exact R_L hm
  · rw [kb 0 (by decide)]; exact R_I hm
  · exact His_congr (R_H hm) (k7 5 2 (by omega)) (k7 5 3 (by omega)) (fun b h1 h2 => kb b (by omega)) (m6 0 (by decide)) (mr 2 (by decide))
  · exact Kept_congr (R_K hm) (k7 5 5 (by omega)) (kb 2 (by decide)) (m6 1 (by decide)) (mr 3 (by decide))
  · refine ⟨by rw [m62, k70], by rw [k70]; decide, fun j hj => ?_⟩
    rw [k70] at hj
    have z : (0 : Int32).toInt = 0 := rfl
    omega
  · exact Ref_congr (R_R hm) (k7 5 6 (by omega)) (k7 5 7 (by omega)) (m6 3 (by decide)) (m6 4 (by decide))
theorem R_type {n : Nat} {K : Nat → jB} {M : jB} (h : Rel n K M) (c : Int32) (hc : vp_nar .char c = c) : n_X8_type M c ∧ (r_X7_type K c).1 = (r_X8_type M c).1 ∧ Rel (n + 1) (r_X7_type K c).2 (r_X8_type M c).2 := by
  have hm : Rel (n + 1) K M := Rel_mono h (Nat.le_succ n)
  obtain ⟨t1, t2, t3⟩ := R_T hm
  have z0 : (0 : Int32).toInt = 0 := rfl
  have z60 : (60 : Int32).toInt = 60 := rfl
  have hc1 := char_nar c
  rw [hc] at hc1
  refine ⟨⟨by rw [t1, i_le]; exact t2.1, by rw [t1, i_le]; exact t2.2, trivial⟩, ?_⟩
  unfold r_X7_type r_X6_append r_X8_type z_X6_append_0
  rw [t1, hc, if_neg (show ¬ (K 7 5 0 < 0) by rw [i_lt]; omega)]
  by_cases e : K 7 5 0 = 60
  · rw [if_pos e, if_neg (show ¬ (K 7 5 0 < 60) by rw [e]; decide)]; exact ⟨rfl, hm⟩
  have e' : (K 7 5 0).toInt < 60 := by rw [i_eq] at e; omega
  rw [if_neg e, if_pos (show K 7 5 0 < 60 by rw [i_lt]; omega)]
  refine ⟨rfl, ?_⟩
  show Rel (n + 1) (up3 (up3 K 7 0 ((K 7 5 0)).toNatClampNeg c) 7 5 0 ((K 7 5 0) + (1 : Int32))) (up2 (up2 M 4 ((K 7 5 0)).toNatClampNeg c) 6 2 ((K 7 5 0) + (1 : Int32)))
  have kb : ∀ b, b ≠ 7 → (up3 (up3 K 7 0 ((K 7 5 0)).toNatClampNeg c) 7 5 0 ((K 7 5 0) + (1 : Int32))) b = K b := fun b hb => by rw [up3_at, if_neg hb, up3_at, if_neg hb]
  have k7 : ∀ r j, r ≠ 0 → ¬ (r = 5 ∧ j = 0) → (up3 (up3 K 7 0 ((K 7 5 0)).toNatClampNeg c) 7 5 0 ((K 7 5 0) + (1 : Int32))) 7 r j = K 7 r j := fun r j hr hq => by rw [up3_at, if_pos rfl, up2_at, if_neg hq, up3_at, if_pos rfl, up2_at, if_neg (by omega)]
  have k70 : (up3 (up3 K 7 0 ((K 7 5 0)).toNatClampNeg c) 7 5 0 ((K 7 5 0) + (1 : Int32))) 7 5 0 = K 7 5 0 + 1 := by rw [up3_at, if_pos rfl, up2_at, if_pos ⟨rfl, rfl⟩]
  have k7t : ∀ j, (up3 (up3 K 7 0 ((K 7 5 0)).toNatClampNeg c) 7 5 0 ((K 7 5 0) + (1 : Int32))) 7 0 j = if j = (K 7 5 0).toNatClampNeg then c else K 7 0 j := fun j => by
    rw [up3_at, if_pos rfl, up2_at, if_neg (by omega), up3_at, if_pos rfl, up2_at]
    by_cases q : j = (K 7 5 0).toNatClampNeg
    · rw [if_pos ⟨rfl, q⟩, if_pos q]
    · rw [if_neg (fun r => q r.2), if_neg q]
  have mr : ∀ r, r ≠ 6 → r ≠ 4 → (up2 (up2 M 4 ((K 7 5 0)).toNatClampNeg c) 6 2 ((K 7 5 0) + (1 : Int32))) r = M r := fun r hr h4 => by rw [up2_row_ne hr, up2_row_ne h4]
  have m6 : ∀ j, j ≠ 2 → (up2 (up2 M 4 ((K 7 5 0)).toNatClampNeg c) 6 2 ((K 7 5 0) + (1 : Int32))) 6 j = M 6 j := fun j hj => by rw [up2_at, if_neg (by omega), up2_at, if_neg (by omega)]
  have m62 : (up2 (up2 M 4 ((K 7 5 0)).toNatClampNeg c) 6 2 ((K 7 5 0) + (1 : Int32))) 6 2 = K 7 5 0 + 1 := by rw [up2_at, if_pos ⟨rfl, rfl⟩]
  have m4 : ∀ j, (up2 (up2 M 4 ((K 7 5 0)).toNatClampNeg c) 6 2 ((K 7 5 0) + (1 : Int32))) 4 j = if j = (K 7 5 0).toNatClampNeg then c else M 4 j := fun j => by
    rw [up2_at, if_neg (by omega), up2_at]
    by_cases q : j = (K 7 5 0).toNatClampNeg
    · rw [if_pos ⟨rfl, q⟩, if_pos q]
    · rw [if_neg (fun r => q r.2), if_neg q]
  generalize (up3 (up3 K 7 0 ((K 7 5 0)).toNatClampNeg c) 7 5 0 ((K 7 5 0) + (1 : Int32))) = K1 at *
  generalize (up2 (up2 M 4 ((K 7 5 0)).toNatClampNeg c) 6 2 ((K 7 5 0) + (1 : Int32))) = M1 at *
  refine ⟨?_, ?_, ?_, ?_, ?_, ?_⟩
  · rw [kb 0 (by decide), mr 0 (by decide) (by decide)]; exact R_L hm
  · rw [kb 0 (by decide)]; exact R_I hm
  · exact His_congr (R_H hm) (k7 5 2 (by decide) (by omega)) (k7 5 3 (by decide) (by omega)) (fun b h1 h2 => kb b (by omega)) (m6 0 (by decide)) (mr 2 (by decide) (by decide))
  · exact Kept_congr (R_K hm) (k7 5 5 (by decide) (by omega)) (kb 2 (by decide)) (m6 1 (by decide)) (mr 3 (by decide) (by decide))
  · have hsz : (K 7 5 0 + 1).toInt = (K 7 5 0).toInt + 1 := ii_succ (by omega)
    refine ⟨by rw [m62, k70], by rw [k70]; omega, fun j hj => ?_⟩
    rw [k70] at hj
    rw [m4 j, k7t j]
    by_cases q : j = (K 7 5 0).toNatClampNeg
    · rw [if_pos q, if_pos q]; exact ⟨rfl, hc1⟩
    · rw [if_neg q, if_neg q]
      rw [i_nat] at q
      exact t3 j (by omega)
  · exact Ref_congr (R_R hm) (k7 5 6 (by decide) (by omega)) (k7 5 7 (by decide) (by omega)) (m6 3 (by decide)) (m6 4 (by decide))
theorem R_refusal {n : Nat} {K : Nat → jB} {M : jB} (h : Rel n K M) (w : Int32) : r_X7_refusal K w = r_X8_refusal M w := by
  have z0 : (0 : Int32).toInt = 0 := rfl
  have z1 : (1 : Int32).toInt = 1 := rfl
  unfold r_X7_refusal r_X8_refusal
  rcases in_cases w 0 1 with b | b
  · rw [if_pos b.1]
    by_cases a : w < 0
    · rw [if_pos a]
    · rw [if_neg a, if_neg (show ¬ (w ≤ 1) by rw [i_lt] at a; rw [i_le]; omega)]
  rw [if_neg (show ¬ (r_X8_in w 0 1 = 0) by rw [b.1]; exact one_ne), if_neg (show ¬ (w < 0) by rw [i_lt]; omega), if_pos (show w ≤ 1 by rw [i_le]; omega)]
  rcases R_R h with g | g
  · rw [if_pos g.1, g.2.1, g.2.2]
    split <;> rfl
  · rw [if_neg g.1, g.2.1, g.2.2]
