theorem w3 {w : Int32} (h0 : 0 ≤ w.toInt) (h1 : w.toInt ≤ 2) : w = 0 ∨ w = 1 ∨ w = 2 := by
  have z0 : (0 : Int32).toInt = 0 := rfl
  have z1 : (1 : Int32).toInt = 1 := rfl
  have z2 : (2 : Int32).toInt = 2 := rfl
  rw [i_eq, i_eq, i_eq]; omega
theorem setNum_core {n : Nat} {K : Nat → jB} {M : jB} (h : Rel n K M) (w v : Int32) (k : Nat) (hk : k < 3) (hw : w.toNatClampNeg = k) (h5 : ((5 : Int32) + w).toNatClampNeg = 5 + k) (lo hi : Int32) :
    (if v < lo then ((-2 : Int32), K) else (if v ≤ hi then (if (K 0 14 w.toNatClampNeg) = v then ((-5 : Int32), K) else ((K 0 14 w.toNatClampNeg), (up3 (r_X2_push_0 K) 0 14 (w).toNatClampNeg v))) else ((-2 : Int32), K))).1 = (if (r_X8_in v lo hi) = (0 : Int32) then ((-2 : Int32), M) else (if (M 0 ((5 : Int32) + w).toNatClampNeg) = v then ((-5 : Int32), M) else ((M 0 ((5 : Int32) + w).toNatClampNeg), (up2 (r_X8_know M) 0 (((5 : Int32) + w)).toNatClampNeg v)))).1
    ∧ Rel (n + 1) (if v < lo then ((-2 : Int32), K) else (if v ≤ hi then (if (K 0 14 w.toNatClampNeg) = v then ((-5 : Int32), K) else ((K 0 14 w.toNatClampNeg), (up3 (r_X2_push_0 K) 0 14 (w).toNatClampNeg v))) else ((-2 : Int32), K))).2 (if (r_X8_in v lo hi) = (0 : Int32) then ((-2 : Int32), M) else (if (M 0 ((5 : Int32) + w).toNatClampNeg) = v then ((-5 : Int32), M) else ((M 0 ((5 : Int32) + w).toNatClampNeg), (up2 (r_X8_know M) 0 (((5 : Int32) + w)).toNatClampNeg v)))).2 := by
  obtain ⟨hp, np, nk, p0, p2, k0, k3, k6⟩ := R_push0 h
  have hL := R_L h
  have hm : Rel (n + 1) K M := Rel_mono h (Nat.le_succ n)
  have hv : vld 14 k := by unfold vld; omega
  have hpos : 5 + k = posOf 14 k := by unfold posOf; simp
  rcases in_cases v lo hi with b | b
  · rw [if_pos b.1]
    by_cases a : v < lo
    · rw [if_pos a]; exact ⟨rfl, hm⟩
    · rw [if_neg a, if_neg (show ¬ (v ≤ hi) by rw [i_lt] at a; rw [i_le]; omega)]; exact ⟨rfl, hm⟩
  rw [if_neg (show ¬ (r_X8_in v lo hi = 0) by rw [b.1]; exact one_ne), if_neg (show ¬ (v < lo) by rw [i_lt]; omega), if_pos (show v ≤ hi by rw [i_le]; omega), h5, hw]
  have e : M 0 (5 + k) = K 0 14 k := by rw [hpos]; exact LB_rd hL hv
  rw [e]
  by_cases a : K 0 14 k = v
  · rw [if_pos a, if_pos a]; exact ⟨rfl, hm⟩
  · rw [if_neg a, if_neg a]
    refine ⟨rfl, ?_⟩
    refine push_set h (B := up2 (r_X2_push_0 K 0) 14 k v) ?_ ?_ ?_
    · exact LB_up2 (by rw [k0, p0]; exact hL) hv hpos rfl
    · exact Inv_free (by rw [p0]; exact R_I hm) _ (by omega)
    · intro r hr; exact up2_row_ne hr _ _ _
theorem R_setNumber {n : Nat} {K : Nat → jB} {M : jB} (h : Rel n K M) (w v : Int32) : n_X7_setNumber K w v ∧ n_X8_setNumber M w v ∧ (r_X7_setNumber K w v).1 = (r_X8_setNumber M w v).1 ∧ Rel (n + 1) (r_X7_setNumber K w v).2 (r_X8_setNumber M w v).2 := by
  obtain ⟨hp, np, nk, p0, p2, k0, k3, k6⟩ := R_push0 h
  have hm : Rel (n + 1) K M := Rel_mono h (Nat.le_succ n)
  have z0 : (0 : Int32).toInt = 0 := rfl
  have z2 : (2 : Int32).toInt = 2 := rfl
  have z3 : (3 : Int32).toInt = 3 := rfl
  refine ⟨⟨fun _ => trivial, fun _ => ⟨fun _ => ⟨fun _ => trivial, fun _ => ⟨fun _ => ⟨fun _ => trivial, fun _ => ⟨np, trivial⟩⟩, fun _ => trivial⟩⟩, fun _ => trivial⟩⟩, ⟨fun _ => trivial, fun q => ?_⟩, ?_⟩
  · rcases in_cases w 0 2 with c | c
    · exact absurd c.1 q
    · have vp : vp_in (5 + w) 204 := by
        rcases w3 c.2.1 c.2.2 with e | e | e <;> subst e <;> exact vpi_of (by decide) (by decide)
      exact ⟨fun _ => ⟨fun _ => trivial, fun _ => ⟨vp, fun _ => trivial, fun _ => ⟨nk, vp, trivial⟩⟩⟩, fun _ => ⟨fun _ => trivial, fun _ => ⟨vp, fun _ => trivial, fun _ => ⟨nk, vp, trivial⟩⟩⟩⟩
  unfold r_X7_setNumber r_X8_setNumber
  rcases in_cases w 0 2 with c | c
  · rw [if_pos c.1]
    by_cases a : w < 0
    · rw [if_pos a]; exact ⟨rfl, hm⟩
    · rw [if_neg a, if_neg (show ¬ (w < 3) by rw [i_lt] at a ⊢; omega)]; exact ⟨rfl, hm⟩
  rw [if_neg (show ¬ (r_X8_in w 0 2 = 0) by rw [c.1]; exact one_ne), if_neg (show ¬ (w < 0) by rw [i_lt]; omega), if_pos (show w < 3 by rw [i_lt]; omega)]
  rcases w3 c.2.1 c.2.2 with e | e | e <;> subst e
  · rw [if_neg (show ¬ ((0 : Int32) = 2) by decide)]
    exact setNum_core h 0 v 0 (by decide) rfl rfl 0 90
  · rw [if_neg (show ¬ ((1 : Int32) = 2) by decide)]
    exact setNum_core h 1 v 1 (by decide) rfl rfl 0 90
  · rw [if_pos (show (2 : Int32) = 2 from rfl)]
    exact setNum_core h 2 v 2 (by decide) rfl rfl 1 365
theorem R_undo {n : Nat} {K : Nat → jB} {M : jB} (h : Rel n K M) : n_X7_undo K ∧ n_X8_undo M ∧ (r_X7_undo K).1 = (r_X8_undo M).1 ∧ Rel (n + 1) (r_X7_undo K).2 (r_X8_undo M).2 := by
  have hm : Rel (n + 1) K M := Rel_mono h (Nat.le_succ n)
  obtain ⟨kn, nx, hk, hn, h3, h2, hM, hb⟩ := R_H h
  have z0 : (0 : Int32).toInt = 0 := rfl
  have z1 : (1 : Int32).toInt = 1 := rfl
  have z4 : (4 : Int32).toInt = 4 := rfl
  have d0 := nx_eq h2 0 0 rfl
  have d1 := nx_eq h2 1 1 rfl
  have d2 := nx_eq h2 2 2 rfl
  have d3 := nx_eq h2 3 3 rfl
  refine ⟨⟨fun _ => trivial, fun _ => ⟨by unfold n_X2_popInto_0; rw [d0, d1, d2, d3]; omega, trivial⟩⟩, ⟨by rw [hM, i_le]; omega, by rw [hM, i_le]; omega, trivial⟩, ?_⟩
  unfold r_X7_undo r_X8_undo
  rw [hM]
  by_cases e : kn = 0
  · have : K 7 5 3 = 0 := by rw [i_eq, h3]; omega
    rw [if_pos this, if_pos this]; exact ⟨rfl, hm⟩
  · have hne : ¬ (K 7 5 3 = 0) := by rw [i_eq, h3]; omega
    rw [if_neg hne, if_neg hne]
    have hk1 : (K 7 5 3 - 1).toInt = ((kn - 1 : Nat) : Int) := by rw [i_sub] <;> rw [h3, z1] <;> omega
    have lp := loopC (L := L_X8_undo_22 M) (fin := fun M => (M 6 0, M)) (N := 204) (R := 0) (D := 0) (R' := 2) (S := 204 * (kn - 1)) (P := fun M => (M 6 0).toInt = ((kn - 1 : Nat) : Int)) (by decide) (by
      intro M k v p; rw [up2_at, if_neg (by omega)]; exact p) (by
      intro n x M hx; rw [L_X8_undo_22, if_pos hx]) (by
      intro n x M h0 h1 p
      have z204 : (204 : Int32).toInt = 204 := rfl
      rw [L_X8_undo_22, if_neg (by rw [i_le]; omega)]
      unfold z_X8_undo_0
      rw [pos_204 (by omega) p h0 (by omega), Nat.zero_add]) 204 204 0 (up2 M 6 0 (K 7 5 3 - 1)) (by rw [up2_at, if_pos ⟨rfl, rfl⟩]; exact hk1) (by decide) (by decide) (by decide)
    rw [tn0] at lp
    rw [lp]
    have c0 : ∀ r j, r ≠ 0 → r ≠ 6 → cpy 0 0 2 (204 * (kn - 1)) 204 0 (up2 M 6 0 (K 7 5 3 - 1)) r j = M r j := by
      intro r j q1 q2
      rw [cpy_at (Or.inl (by decide)), if_neg (by omega), up2_at, if_neg (by omega)]
    have c6 : ∀ j, cpy 0 0 2 (204 * (kn - 1)) 204 0 (up2 M 6 0 (K 7 5 3 - 1)) 6 j = if j = 0 then K 7 5 3 - 1 else M 6 j := by
      intro j
      rw [cpy_at (Or.inl (by decide)), if_neg (by omega), up2_at]
      by_cases q : j = 0
      · rw [if_pos ⟨rfl, q⟩, if_pos q]
      · rw [if_neg (by omega), if_neg q]
    have cr : ∀ p, p < 204 → cpy 0 0 2 (204 * (kn - 1)) 204 0 (up2 M 6 0 (K 7 5 3 - 1)) 0 p = M 2 (204 * (kn - 1) + p) := by
      intro p hp
      rw [cpy_at (Or.inl (by decide)), if_pos (by omega), up2_at, if_neg (by omega), Nat.sub_zero]
    -- the class's side
    have ep : r_X2_popInto_0 K = up1 (up3 (up3 K 7 5 2 (if nx = 0 then 3 else K 7 5 2 - 1)) 7 5 3 (K 7 5 3 - 1)) 0 (K (3 + (nx + 3) % 4)) := by
      have g : ∀ (v : Int32) (b : Nat), b ≠ 7 → (up3 (up3 K 7 5 2 v) 7 5 3 (K 7 5 3 - 1)) b = K b := by
        intro v b hb7
        rw [up3_at, if_neg hb7, up3_at, if_neg hb7]
      unfold r_X2_popInto_0
      rcases (by omega : nx = 0 ∨ nx = 1 ∨ nx = 2 ∨ nx = 3) with q | q | q | q <;> subst q
      · rw [if_pos (d0.mpr rfl)]
        unfold r_X2_popInto_0_0 z_X2_popInto_0_0_0
        rw [if_neg hne, g _ 6 (by decide)]; rfl
      · rw [if_neg (fun q => absurd (d0.mp q) (by decide)), if_pos (d1.mpr rfl)]
        unfold r_X2_popInto_0_1 z_X2_popInto_0_1_0
        rw [if_neg hne, g _ 3 (by decide)]; rfl
      · rw [if_neg (fun q => absurd (d0.mp q) (by decide)), if_neg (fun q => absurd (d1.mp q) (by decide)), if_pos (d2.mpr rfl)]
        unfold r_X2_popInto_0_2 z_X2_popInto_0_2_0
        rw [if_neg hne, g _ 4 (by decide)]; rfl
      · rw [if_neg (fun q => absurd (d0.mp q) (by decide)), if_neg (fun q => absurd (d1.mp q) (by decide)), if_neg (fun q => absurd (d2.mp q) (by decide))]
        unfold r_X2_popInto_0_3 z_X2_popInto_0_3_0
        rw [if_neg hne, g _ 5 (by decide)]; rfl
    rw [ep]
    have last := hb (kn - 1) (by omega)
    have ix : (nx + 4 - kn + (kn - 1)) % 4 = (nx + 3) % 4 := by omega
    rw [ix] at last
    have q0 : ∀ (A : Nat → jB) (B : jB), up1 A 0 B 0 = B := fun A B => by rw [up1_at, if_pos rfl]
    have qb : ∀ b, b ≠ 0 → b ≠ 7 → up1 (up3 (up3 K 7 5 2 (if nx = 0 then 3 else K 7 5 2 - 1)) 7 5 3 (K 7 5 3 - 1)) 0 (K (3 + (nx + 3) % 4)) b = K b := by
      intro b h1 h7; rw [up1_at, if_neg h1, up3_at, if_neg h7, up3_at, if_neg h7]
    have q7 : ∀ r j, ¬ (r = 5 ∧ (j = 2 ∨ j = 3)) → up1 (up3 (up3 K 7 5 2 (if nx = 0 then 3 else K 7 5 2 - 1)) 7 5 3 (K 7 5 3 - 1)) 0 (K (3 + (nx + 3) % 4)) 7 r j = K 7 r j := by
      intro r j hq
      rw [up1_at, if_neg (by omega), up3_at, if_pos rfl, up2_at, if_neg (by omega), up3_at, if_pos rfl, up2_at, if_neg (by omega)]
    have q73 : up1 (up3 (up3 K 7 5 2 (if nx = 0 then 3 else K 7 5 2 - 1)) 7 5 3 (K 7 5 3 - 1)) 0 (K (3 + (nx + 3) % 4)) 7 5 3 = K 7 5 3 - 1 := by
      rw [up1_at, if_neg (by omega), up3_at, if_pos rfl, up2_at, if_pos ⟨rfl, rfl⟩]
    have q72 : up1 (up3 (up3 K 7 5 2 (if nx = 0 then 3 else K 7 5 2 - 1)) 7 5 3 (K 7 5 3 - 1)) 0 (K (3 + (nx + 3) % 4)) 7 5 2 = (if nx = 0 then 3 else K 7 5 2 - 1) := by
      rw [up1_at, if_neg (by omega), up3_at, if_pos rfl, up2_at, if_neg (by omega), up3_at, if_pos rfl, up2_at, if_pos ⟨rfl, rfl⟩]
    have q0' := q0 (up3 (up3 K 7 5 2 (if nx = 0 then 3 else K 7 5 2 - 1)) 7 5 3 (K 7 5 3 - 1)) (K (3 + (nx + 3) % 4))
    clear lp ep q0
    generalize cpy 0 0 2 (204 * (kn - 1)) 204 0 (up2 M 6 0 (K 7 5 3 - 1)) = M1 at *
    generalize up1 (up3 (up3 K 7 5 2 (if nx = 0 then 3 else K 7 5 2 - 1)) 7 5 3 (K 7 5 3 - 1)) 0 (K (3 + (nx + 3) % 4)) = K1 at *
    show K1 7 5 3 = M1 6 0 ∧ Rel (n + 1) K1 M1
    refine ⟨?_, ?_, ?_, ?_, ?_, ?_, ?_⟩
    · show _ = M1 6 0
      rw [q73, c6 0, if_pos rfl]
    · rw [q0']
      intro p hp
      show M1 0 p = _
      rw [cr p hp]
      exact last.1 p hp
    · rw [q0']
      exact Inv_mono last.2 (Nat.le_succ n)
    · refine ⟨kn - 1, (nx + 3) % 4, by omega, by omega, by rw [q73]; exact hk1, ?_, ?_, ?_⟩
      · rw [q72]
        by_cases q : nx = 0
        · rw [if_pos q, q]; rfl
        · rw [if_neg q, i_sub] <;> rw [h2, z1] <;> omega
      · rw [q73]
        show M1 6 0 = _
        rw [c6 0, if_pos rfl]
      · intro j hj
        rw [qb _ (by omega) (by omega)]
        have := hb j (by omega)
        have e2 : ((nx + 3) % 4 + 4 - (kn - 1) + j) % 4 = (nx + 4 - kn + j) % 4 := by omega
        rw [e2]
        refine ⟨?_, Inv_mono this.2 (Nat.le_succ n)⟩
        intro p hp
        show M1 2 (204 * j + p) = _
        rw [c0 2 _ (by decide) (by decide)]
        exact this.1 p hp
    · refine Kept_congr (Kept_mono (R_K h) (Nat.le_succ n)) (q7 5 5 (by omega)) (qb 2 (by decide) (by decide)) ?_ ?_
      · show M1 6 1 = _
        rw [c6 1, if_neg (by decide)]
      · exact funext fun j => c0 3 j (by decide) (by decide)
    · refine Txt_congr (R_T h) (funext fun j => q7 0 j (by omega)) (q7 5 0 (by omega)) ?_ ?_
      · show M1 6 2 = _
        rw [c6 2, if_neg (by decide)]
      · exact funext fun j => c0 4 j (by decide) (by decide)
    · refine Ref_congr (R_R h) (q7 5 6 (by omega)) (q7 5 7 (by omega)) ?_ ?_
      · show M1 6 3 = _
        rw [c6 3, if_neg (by decide)]
      · show M1 6 4 = _
        rw [c6 4, if_neg (by decide)]
