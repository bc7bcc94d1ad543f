theorem Inv_eq {n : Nat} {B B' : jB} (I : Inv n B) (s0 : B' 16 0 = B 16 0) (s1 : B' 16 1 = B 16 1) (e0 : B' 0 = B 0) (e4 : B' 4 = B 4) (e5 : B' 5 = B 5) (e7 : B' 7 = B 7) (e8 : B' 8 = B 8) (e9 : B' 9 = B 9) (e11 : B' 11 = B 11) (e12 : B' 12 = B 12) (e13 : B' 13 = B 13) (e15 : B' 15 = B 15) : Inv n B' := by
  unfold Inv IInv at *
  rw [s0, s1, e0, e4, e5, e7, e8, e9, e11, e12, e13, e15]
  exact I
theorem Inv_free {n : Nat} {B : jB} (I : Inv n B) {r k : Nat} (v : Int32) (h : r = 1 ∨ r = 2 ∨ r = 3 ∨ r = 6 ∨ r = 10 ∨ r = 14 ∨ (r = 16 ∧ 2 ≤ k)) : Inv n (up2 B r k v) := by
  have e : ∀ q, q ≠ r → up2 B r k v q = B q := fun q hq => up2_row_ne hq B k v
  refine Inv_eq I ?_ ?_ (e _ (by omega)) (e _ (by omega)) (e _ (by omega)) (e _ (by omega)) (e _ (by omega)) (e _ (by omega)) (e _ (by omega)) (e _ (by omega)) (e _ (by omega)) (e _ (by omega))
  · rw [up2_at, if_neg (by omega)]
  · rw [up2_at, if_neg (by omega)]
/-- an invoice's number changes -/
theorem Inv_iup {n : Nat} {B : jB} (I : Inv n B) {r k : Nat} {v : Int32} (hr : 7 ≤ r ∧ r < 14) (hk : (k : Int) < (B 16 1).toInt → IInv (up2 B r k v) k) : Inv n (up2 B r k v) := by
  have e : ∀ q j, q ≠ r → up2 B r k v q j = B q j := fun q j hq => by rw [up2_at, if_neg (by omega)]
  have e2 : ∀ q j, j ≠ k → up2 B r k v q j = B q j := fun q j hq => by rw [up2_at, if_neg (by omega)]
  obtain ⟨a, b, c, d, f, g⟩ := I
  refine ⟨?_, ?_, ?_, ?_, ?_, ?_⟩
  · rw [e 16 0 (by omega)]; exact a
  · rw [e 16 1 (by omega)]; exact b
  · intro j; rw [e 16 0 (by omega), e 0 j (by omega)]; exact c j
  · intro j hj; rw [e 4 j (by omega), e 5 j (by omega)]; exact d j hj
  · intro j; rw [e 16 1 (by omega)]; intro hj
    by_cases hjk : j = k
    · subst hjk; exact hk hj
    · have := f j hj
      unfold IInv at this ⊢
      rw [e2 7 j hjk, e2 8 j hjk, e2 9 j hjk, e2 11 j hjk, e2 12 j hjk, e2 13 j hjk, e 16 0 (by omega)]
      exact this
  · rw [e 15 0 (by omega), e 15 1 (by omega), e 15 2 (by omega)] <;> first | exact g | omega
theorem r15_ne {B : jB} {r k : Nat} {v : Int32} (h : r ≠ 15) (j : Nat) : up2 B r k v 15 j = B 15 j := by rw [up2_at, if_neg (by omega)]
theorem push_set {n : Nat} {K : Nat → jB} {M M' : jB} {B : jB} (h : Rel n K M) (hL : LB (M' 0) B) (hI : Inv (n + 1) B) (hM : ∀ r, r ≠ 0 → M' r = r_X8_know M r) : Rel (n + 1) (up1 (r_X2_push_0 K) 0 B) M' :=
  R_set (R_push0 h).1 (Nat.le_succ n) hL hI (hM 2 (by decide)) (hM 3 (by decide)) (hM 4 (by decide)) (fun j _ => by rw [hM 6 (by decide)])
theorem R_pass {n : Nat} {K : Nat → jB} {M : jB} (h : Rel n K M) (days : Int32) : n_X7_pass K days ∧ n_X8_pass M days ∧ (r_X7_pass K days).1 = (r_X8_pass M days).1 ∧ Rel (n + 1) (r_X7_pass K days).2 (r_X8_pass M days).2 := by
  obtain ⟨hp, np, nk, p0, p2, k0, k3, k6⟩ := R_push0 h
  have hL := R_L h
  refine ⟨⟨fun _ => trivial, fun _ => ⟨fun _ => ⟨fun _ => ⟨np, trivial⟩, fun _ => trivial⟩, fun _ => trivial⟩⟩, ⟨fun _ => trivial, fun _ => ⟨fun _ => ⟨nk, trivial⟩, fun _ => trivial⟩⟩, ?_⟩
  unfold r_X7_pass r_X8_pass z_X8_pass_0
  have hm : Rel (n + 1) K M := Rel_mono h (Nat.le_succ n)
  have z1 : (1 : Int32).toInt = 1 := rfl
  have z2 : (365 : Int32).toInt = 365 := rfl
  rcases in_cases days 1 365 with c | c
  · rw [if_pos c.1]
    by_cases a : days < 1
    · rw [if_pos a]; exact ⟨rfl, hm⟩
    · rw [if_neg a, if_neg (by rw [i_lt] at a; rw [i_le]; omega)]; exact ⟨rfl, hm⟩
  · rw [if_neg (show ¬ (r_X8_in days 1 365 = 0) by rw [c.1]; exact one_ne), if_neg (by rw [i_lt]; omega), if_pos (show days ≤ 365 by rw [i_le]; omega), rS0 hL]
    by_cases a : K 0 16 2 + days ≤ 99999
    · rw [if_pos a, if_pos a]
      have e : ((up2 (r_X8_know M) 0 ((0 : Int32)).toNatClampNeg (((r_X8_know M) 0 (0 : Int32).toNatClampNeg) + days)) 0 (0 : Int32).toNatClampNeg) = K 0 16 2 + days := by
        rw [up2_at, if_pos ⟨rfl, rfl⟩, k0, rS0 hL]
      refine ⟨?_, ?_⟩
      · show r_X2_push_0 K 0 16 2 + days = _
        rw [e, p0]
      · refine push_set h (B := up2 (r_X2_push_0 K 0) 16 2 (r_X2_push_0 K 0 16 2 + days)) ?_ ?_ ?_
        · exact LB_up2 (by rw [k0, p0]; exact hL) vS0 rfl (by rw [k0, p0, rS0 hL])
        · exact Inv_free (by rw [p0]; exact R_I hm) _ (by omega)
        · intro r hr; exact up2_row_ne hr _ _ _
    · rw [if_neg a, if_neg a]; exact ⟨rfl, hm⟩
theorem R_payDues {n : Nat} {K : Nat → jB} {M : jB} (h : Rel n K M) (i c : Int32) : n_X7_payDues K i c ∧ n_X8_payDues M i c ∧ (r_X7_payDues K i c).1 = (r_X8_payDues M i c).1 ∧ Rel (n + 1) (r_X7_payDues K i c).2 (r_X8_payDues M i c).2 := by
  obtain ⟨hp, np, nk, p0, p2, k0, k3, k6⟩ := R_push0 h
  have hL := R_L h
  have hI := R_I h
  have hm : Rel (n + 1) K M := Rel_mono h (Nat.le_succ n)
  have hs := Inv_m hI
  refine ⟨⟨fun _ => trivial, fun _ => ⟨fun _ => trivial, fun _ => ⟨fun _ => ⟨fun _ => ⟨np, trivial⟩, fun _ => trivial⟩, fun _ => trivial⟩⟩⟩, ⟨by rw [rN8 hL, i_le]; exact hs.2, by rw [rN8 hL, i_le]; exact hs.1, fun _ => trivial, fun _ => ⟨fun _ => trivial, fun _ => ⟨fun _ => ⟨nk, trivial⟩, fun _ => trivial⟩⟩⟩, ?_⟩
  unfold r_X7_payDues r_X8_payDues
  rw [e_isMember hL hI]
  have z1 : (1 : Int32).toInt = 1 := rfl
  have z2 : (1000000 : Int32).toInt = 1000000 := rfl
  rcases has4_cases hI i with g | ⟨g, h0, h1⟩
  · rw [if_pos g.1, if_pos g.1]; exact ⟨rfl, hm⟩
  have gn : ¬ (r_X4_has (K 0) i = 0) := by rw [g]; exact one_ne
  rw [if_neg gn, if_neg gn]
  rcases in_cases c 1 1000000 with b | b
  · rw [if_pos b.1]
    by_cases a : c < 1
    · rw [if_pos a]; exact ⟨rfl, hm⟩
    · rw [if_neg a, if_neg (by rw [i_lt] at a; rw [i_le]; omega)]; exact ⟨rfl, hm⟩
  rw [if_neg (show ¬ (r_X8_in c 1 1000000 = 0) by rw [b.1]; exact one_ne), if_neg (show ¬ (c < 1) by rw [i_lt]; omega), if_pos (show c ≤ 1000000 by rw [i_le]; omega), rM1 hL h0 (by omega)]
  by_cases a : K 0 1 i.toNatClampNeg + c ≤ 100000000
  · rw [if_pos a, if_pos a]
    have l0 : LB (r_X8_know M 0) (r_X2_push_0 K 0) := by rw [k0, p0]; exact hL
    have v : r_X2_push_0 K 0 1 i.toNatClampNeg + c = r_X8_know M 0 (r_X8_ofMember i 1).toNatClampNeg + c := by rw [rM1 l0 h0 (by omega)]
    have l1 : LB (z_X8_payDues_0 M i c 0) (up2 (r_X2_push_0 K 0) 1 i.toNatClampNeg (r_X2_push_0 K 0 1 i.toNatClampNeg + c)) := LB_up2 l0 (vM1 h0 (by omega)) (pM1 h0 (by omega)) v.symm
    have l2 : LB (z_X8_payDues_1 M i c 0) (up2 (up2 (r_X2_push_0 K 0) 1 i.toNatClampNeg (r_X2_push_0 K 0 1 i.toNatClampNeg + c)) 16 3 (r_X2_push_0 K 0 16 3 + c)) := LB_up2 l1 vS1 rfl (by rw [rS1 l1, up2_at, if_neg (by omega)])
    have e7 : (up3 (z_X7_payDues_0 K i c) 0 16 3 ((r_X2_push_0 K 0 16 3) + c)) = up1 (r_X2_push_0 K) 0 (up2 (up2 (r_X2_push_0 K 0) 1 i.toNatClampNeg (r_X2_push_0 K 0 1 i.toNatClampNeg + c)) 16 3 (r_X2_push_0 K 0 16 3 + c)) := by
      funext b1
      unfold z_X7_payDues_0
      rw [up3_at, up1_at]
      by_cases q : b1 = 0
      · rw [if_pos q, if_pos q, up3_at, if_pos rfl]
      · rw [if_neg q, if_neg q, up3_at, if_neg q]
    refine ⟨?_, ?_⟩
    · show z_X7_payDues_0 K i c 0 1 i.toNatClampNeg = z_X8_payDues_1 M i c 0 (r_X8_ofMember i 1).toNatClampNeg
      rw [rM1 l2 h0 (by omega)]
      unfold z_X7_payDues_0
      rw [up3_at, if_pos rfl, up2_at, if_pos ⟨rfl, rfl⟩, up2_at, if_neg (by omega), up2_at, if_pos ⟨rfl, rfl⟩]
    · show Rel (n + 1) (up3 (z_X7_payDues_0 K i c) 0 16 3 ((r_X2_push_0 K 0 16 3) + c)) (z_X8_payDues_1 M i c)
      rw [e7]
      refine push_set h l2 ?_ ?_
      · exact Inv_free (Inv_free (by rw [p0]; exact R_I hm) _ (by omega)) _ (by omega)
      · intro r hr
        unfold z_X8_payDues_1 z_X8_payDues_0
        rw [up2_row_ne hr, up2_row_ne hr]
  · rw [if_neg a, if_neg a]; exact ⟨rfl, hm⟩
