def Res (n : Nat) (P : Int32) (K : Nat → jB) (r : Int32 × (Nat → jB)) : Prop := -5 ≤ r.1.toInt ∧ St (n + 1) P r.2 ∧ r.2 0 16 5 = K 0 16 5
theorem Res_no {n : Nat} {P : Int32} {K : Nat → jB} (h : St n P K) (c : Int32) (hc : -5 ≤ c.toInt) : Res n P K (c, K) := ⟨hc, St_mono h (Nat.le_succ n), rfl⟩
theorem Res_ok {n : Nat} {P : Int32} {K : Nat → jB} (h : Hst K) {c : Int32} {B : jB} (hc : -5 ≤ c.toInt) (hB : Bok (n + 1) P B) (h5 : B 16 5 = K 0 16 5) : Res n P K (c, up1 (r_X2_push_0 K) 0 B) := ⟨hc, St_set h hB, by
  have e : up1 (r_X2_push_0 K) 0 B 0 = B := up1_0 _ _ _
  exact (congrFun (congrFun e 16) 5).trans h5⟩
theorem up3_up1 (K : Nat → jB) (r k : Nat) (v : Int32) : up3 K 0 r k v = up1 K 0 (up2 (K 0) r k v) := rfl
theorem pass_eq {n : Nat} {P : Int32} {K : Nat → jB} (h : St n P K) (hN : n ≤ 200) (days : Int32) (h1 : 1 ≤ days.toInt) (h2 : days.toInt ≤ 365) : r_X7_pass K days = (K 0 16 2 + days, up1 (r_X2_push_0 K) 0 (up2 (K 0) 16 2 (K 0 16 2 + days))) ∧ (K 0 16 2 + days).toInt = (K 0 16 2).toInt + days.toInt := by
  obtain ⟨np, p0, ps⟩ := push_St h.2
  obtain ⟨-, -, e3, e4⟩ := h.1.2.2.2.2
  have z1 : (1 : Int32).toInt = 1 := rfl
  have z2 : (365 : Int32).toInt = 365 := rfl
  have z9 : (99999 : Int32).toInt = 99999 := rfl
  have ea : (K 0 16 2 + days).toInt = (K 0 16 2).toInt + days.toInt := i_add (by omega) (by omega)
  refine ⟨?_, ea⟩
  unfold r_X7_pass
  rw [if_neg (show ¬ (days < 1) by rw [i_lt]; omega), if_pos (show days ≤ 365 by rw [i_le]; omega), if_pos (show K 0 16 2 + days ≤ 99999 by rw [i_le]; omega), up3_up1, p0]
theorem n_pass {n : Nat} {P : Int32} {K : Nat → jB} (h : St n P K) (days : Int32) : n_X7_pass K days := ⟨fun _ => trivial, fun _ => ⟨fun _ => ⟨fun _ => ⟨(push_St h.2).1, trivial⟩, fun _ => trivial⟩, fun _ => trivial⟩⟩
theorem C_pass {n : Nat} {P : Int32} {K : Nat → jB} (h : St n P K) (hN : n ≤ 200) (days : Int32) : n_X7_pass K days ∧ Res n P K (r_X7_pass K days) := by
  refine ⟨n_pass h days, ?_⟩
  obtain ⟨-, -, e3, e4⟩ := h.1.2.2.2.2
  have z1 : (1 : Int32).toInt = 1 := rfl
  have z2 : (365 : Int32).toInt = 365 := rfl
  by_cases a : days < 1
  · unfold r_X7_pass; rw [if_pos a]; exact Res_no h _ (by decide)
  by_cases b : days ≤ 365
  · rw [i_lt] at a
    rw [i_le] at b
    obtain ⟨q1, q2⟩ := pass_eq h hN days (by omega) (by omega)
    rw [q1]
    refine Res_ok h.2 (by omega) ?_ ?_
    · refine Bok_eq h.1 (Inv_free (Inv_mono (St_I h) (Nat.le_succ n)) _ (by omega)) (fun r _ _ _ h16 => up2_row_ne h16 _ _ _) (fun j hj => by rw [up2_at, if_neg (by omega)]) ?_
      have R := Rng_mono h.1.2.2.2.2 (Nat.le_succ n)
      refine ⟨fun k => ?_, fun j => ?_, ?_⟩
      · rw [up2_at, if_neg (by omega), up2_at, if_neg (by omega)]; exact R.1 k
      · rw [up2_at, if_neg (by omega)]; exact R.2.1 j
      · rw [up2_at, if_pos ⟨rfl, rfl⟩, q2]; omega
    · rw [up2_at, if_neg (by omega)]
  · unfold r_X7_pass; rw [if_neg a, if_neg b]; exact Res_no h _ (by decide)
theorem C_payDues {n : Nat} {P : Int32} {K : Nat → jB} (h : St n P K) (i c : Int32) : n_X7_payDues K i c ∧ Res n P K (r_X7_payDues K i c) := by
  obtain ⟨np, p0, ps⟩ := push_St h.2
  have hI := St_I h
  have hs := Inv_m hI
  have z1 : (1 : Int32).toInt = 1 := rfl
  have z2 : (1000000 : Int32).toInt = 1000000 := rfl
  have zM : (100000000 : Int32).toInt = 100000000 := rfl
  refine ⟨⟨fun _ => trivial, fun _ => ⟨fun _ => trivial, fun _ => ⟨fun _ => ⟨fun _ => ⟨np, trivial⟩, fun _ => trivial⟩, fun _ => trivial⟩⟩⟩, ?_⟩
  unfold r_X7_payDues
  rcases has4_cases hI i with g | ⟨g, h0, h1⟩
  · rw [if_pos g.1]; exact Res_no h _ (by decide)
  rw [if_neg (show ¬ (r_X4_has (K 0) i = 0) by rw [g]; exact one_ne)]
  by_cases a : c < 1
  · rw [if_pos a]; exact Res_no h _ (by decide)
  rw [if_neg a]
  by_cases b : c ≤ 1000000
  rotate_left
  · rw [if_neg b]; exact Res_no h _ (by decide)
  rw [if_pos b]
  by_cases d : K 0 1 i.toNatClampNeg + c ≤ 100000000
  rotate_left
  · rw [if_neg d]; exact Res_no h _ (by decide)
  rw [if_pos d]
  rw [i_lt] at a
  rw [i_le] at b d
  have R := Rng_mono h.1.2.2.2.2 (Nat.le_succ n)
  have rk := R.1 i.toNatClampNeg (nat_lt_i h0 h1)
  have ea : (K 0 1 i.toNatClampNeg + c).toInt = (K 0 1 i.toNatClampNeg).toInt + c.toInt := i_add (by omega) (by omega)
  have e7 : (up3 (z_X7_payDues_0 K i c) 0 16 3 ((r_X2_push_0 K 0 16 3) + c)) = up1 (r_X2_push_0 K) 0 (up2 (up2 (K 0) 1 i.toNatClampNeg (K 0 1 i.toNatClampNeg + c)) 16 3 (K 0 16 3 + c)) := by
    unfold z_X7_payDues_0
    rw [up3_up1, up3_up1, up1_up1, up1_0, p0]
  have e8 : z_X7_payDues_0 K i c 0 1 i.toNatClampNeg = K 0 1 i.toNatClampNeg + c := by
    unfold z_X7_payDues_0
    rw [up3_up1, up1_0, up2_at, if_pos ⟨rfl, rfl⟩, p0]
  rw [e7, e8]
  have hk : i.toNatClampNeg < mN (K 0) := by unfold mN; rw [i_nat]; omega
  refine Res_ok h.2 (by omega) ?_ ?_
  · obtain ⟨-, A, V, C, -⟩ := h.1
    have ne16 : ∀ r k, r ≠ 1 → ¬ (r = 16 ∧ k = 3) → up2 (up2 (K 0) 1 i.toNatClampNeg (K 0 1 i.toNatClampNeg + c)) 16 3 (K 0 16 3 + c) r k = K 0 r k := by
      intro r k q1 q2; rw [up2_at, if_neg q2, up2_at, if_neg (by omega)]
    have row : ∀ r, r ≠ 1 → r ≠ 16 → up2 (up2 (K 0) 1 i.toNatClampNeg (K 0 1 i.toNatClampNeg + c)) 16 3 (K 0 16 3 + c) r = K 0 r := by
      intro r q1 q2; rw [up2_row_ne q2, up2_row_ne q1]
    refine ⟨Inv_free (Inv_free (Inv_mono hI (Nat.le_succ n)) _ (by omega)) _ (by omega), ?_, ?_, ?_, ?_⟩
    · refine Acc_of A c 0 0 0 0 c 0 0 0 ?_ ?_ ?_ ?_ ?_ ?_ ?_ ?_ ?_ ?_ ?_ ?_
      · rw [up2_at, if_pos ⟨rfl, rfl⟩]
      · rw [ne16 _ _ (by omega) (by omega), add_zero32]
      · rw [ne16 _ _ (by omega) (by omega), add_zero32]
      · rw [ne16 _ _ (by omega) (by omega), add_zero32]
      · rw [ne16 _ _ (by omega) (by omega), add_zero32]
      · rw [mN_ne (by omega), mN_ne (by omega), sm_ne (by omega), sm_add _ _ hk]
      · rw [mN_ne (by omega), mN_ne (by omega), sm_ne (by omega), sm_ne (by omega), add_zero32]
      · rw [mN_ne (by omega), mN_ne (by omega), sm_ne (by omega), sm_ne (by omega), add_zero32]
      · rw [add_zero32]
      · grind
      · grind
      · rfl
    · exact Ivs_eq V (ne16 _ _ (by omega) (by omega)) (row _ (by omega) (by omega)) (row _ (by omega) (by omega)) (row _ (by omega) (by omega)) (row _ (by omega) (by omega))
    · exact Cls_eq C (row _ (by omega) (by omega)) (row _ (by omega) (by omega)) (row _ (by omega) (by omega)) (ne16 _ _ (by omega) (by omega))
    · refine ⟨fun k => ?_, fun j => ?_, ?_⟩
      · rw [ne16 16 0 (by omega) (by omega)]
        intro hk2
        rw [up2_at, if_neg (by omega), up2_at]
        by_cases e : k = i.toNatClampNeg
        · rw [if_pos ⟨rfl, e⟩, ea]; omega
        · rw [if_neg (by omega)]; exact R.1 k hk2
      · rw [ne16 14 j (by omega) (by omega)]; exact R.2.1 j
      · rw [ne16 16 2 (by omega) (by omega)]; exact R.2.2
  · rw [up2_at, if_neg (by omega), up2_at, if_neg (by omega)]
theorem C_addMember {n : Nat} {P : Int32} {K : Nat → jB} (h : St n P K) (w : Int32) : n_X7_addMember K w ∧ Res n P K (r_X7_addMember K w) := by
  obtain ⟨np, p0, ps⟩ := push_St h.2
  have hI := St_I h
  have hs := Inv_m hI
  have z1 : (1 : Int32).toInt = 1 := rfl
  have z2 : (9 : Int32).toInt = 9 := rfl
  have z8 : (8 : Int32).toInt = 8 := rfl
  have z0 : (0 : Int32).toInt = 0 := rfl
  refine ⟨⟨fun _ => trivial, fun _ => ⟨fun _ => ⟨fun _ => ⟨np, trivial⟩, fun _ => trivial⟩, fun _ => trivial⟩⟩, ?_⟩
  unfold r_X7_addMember
  by_cases a : w < 1
  · rw [if_pos a]; exact Res_no h _ (by decide)
  rw [if_neg a]
  by_cases b : w ≤ 9
  rotate_left
  · rw [if_neg b]; exact Res_no h _ (by decide)
  rw [if_pos b]
  by_cases d : K 0 16 0 < 8
  rotate_left
  · rw [if_neg d]; exact Res_no h _ (by decide)
  rw [if_pos d]
  have ea : r_X4_append (K 0) w = ((K 0 16 0 + 1) - 1, up2 (z_X4_append_1 (K 0) w) 16 0 (K 0 16 0 + 1)) := by
    unfold r_X4_append
    rw [if_neg (show ¬ (K 0 16 0 < 0) by rw [i_lt]; omega), if_pos d]
  rw [p0, ea]
  dsimp only
  rw [i_lt] at a d
  rw [i_le] at b
  have hI' := Inv_mono hI (Nat.le_succ n)
  have hsz : (K 0 16 0 + 1).toInt = (K 0 16 0).toInt + 1 := ii_succ (by omega)
  have f0 : ∀ k, up2 (z_X4_append_1 (K 0) w) 16 0 (K 0 16 0 + 1) 0 k = if k = (K 0 16 0).toNatClampNeg then w else K 0 0 k := by
    intro k; unfold z_X4_append_1 z_X4_append_0; simp [up2_at]
  have fr : ∀ r k, 4 ≤ r → ¬ (r = 16 ∧ k = 0) → up2 (z_X4_append_1 (K 0) w) 16 0 (K 0 16 0 + 1) r k = K 0 r k := by
    intro r k hr hq; unfold z_X4_append_1 z_X4_append_0
    rw [up2_at, if_neg hq, up2_at, if_neg (by omega), up2_at, if_neg (by omega), up2_at, if_neg (by omega), up2_at, if_neg (by omega)]
  have row : ∀ r, 4 ≤ r → r ≠ 16 → up2 (z_X4_append_1 (K 0) w) 16 0 (K 0 16 0 + 1) r = K 0 r := fun r hr hq => funext fun k => fr r k hr (by omega)
  have fs0 : up2 (z_X4_append_1 (K 0) w) 16 0 (K 0 16 0 + 1) 16 0 = K 0 16 0 + 1 := by rw [up2_at, if_pos ⟨rfl, rfl⟩]
  have r1 : up2 (z_X4_append_1 (K 0) w) 16 0 (K 0 16 0 + 1) 1 = upd (K 0 1) (K 0 16 0).toNatClampNeg 0 := by
    unfold z_X4_append_1 z_X4_append_0
    rw [up2_row_ne (by omega), up2_row_ne (by omega), up2_row_ne (by omega), up2_row, up2_row_ne (by omega)]
  have r2 : up2 (z_X4_append_1 (K 0) w) 16 0 (K 0 16 0 + 1) 2 = upd (K 0 2) (K 0 16 0).toNatClampNeg 0 := by
    unfold z_X4_append_1 z_X4_append_0
    rw [up2_row_ne (by omega), up2_row_ne (by omega), up2_row, up2_row_ne (by omega), up2_row_ne (by omega)]
  have r3 : up2 (z_X4_append_1 (K 0) w) 16 0 (K 0 16 0 + 1) 3 = upd (K 0 3) (K 0 16 0).toNatClampNeg 0 := by
    unfold z_X4_append_1 z_X4_append_0
    rw [up2_row_ne (by omega), up2_row, up2_row_ne (by omega), up2_row_ne (by omega), up2_row_ne (by omega)]
  have emN : mN (up2 (z_X4_append_1 (K 0) w) 16 0 (K 0 16 0 + 1)) = mN (K 0) + 1 := by unfold mN; rw [fs0]; omega
  have eN : (K 0 16 0).toNatClampNeg = mN (K 0) := rfl
  have sums : ∀ g : Nat → Int32, fs (upd g (K 0 16 0).toNatClampNeg 0) 0 (mN (K 0) + 1) 0 = fs g 0 (mN (K 0)) 0 := by
    intro g
    rw [fs_s0, eN, pk_us, fs_out _ _ _ (Nat.le_refl _), add_zero32]
  refine Res_ok h.2 ?_ ?_ ?_
  · rw [i_sub] <;> rw [hsz, z1] <;> omega
  · obtain ⟨-, A, V, C, R0⟩ := h.1
    have R := Rng_mono R0 (Nat.le_succ n)
    refine ⟨?_, ?_, ?_, ?_, ?_⟩
    · obtain ⟨ia, ib, ic, id, ie, ig⟩ := hI'
      refine ⟨?_, ?_, ?_, ?_, ?_, ?_⟩
      · rw [fs0]; omega
      · rw [fr 16 1 (by decide) (by omega)]; exact ib
      · intro k; rw [fs0, f0 k]; intro hk
        by_cases e : k = (K 0 16 0).toNatClampNeg
        · rw [if_pos e]; omega
        · rw [if_neg e]; rw [i_nat] at e; exact ic k (by omega)
      · intro k hk; rw [fr 4 k (by decide) (by omega), fr 5 k (by decide) (by omega)]; exact id k hk
      · intro k; rw [fr 16 1 (by decide) (by omega)]; intro hk
        have := ie k hk
        unfold IInv at this ⊢
        rw [fr 7 k (by decide) (by omega), fr 8 k (by decide) (by omega), fr 9 k (by decide) (by omega), fr 11 k (by decide) (by omega), fr 12 k (by decide) (by omega), fr 13 k (by decide) (by omega), fs0]
        omega
      · rw [fr 15 0 (by decide) (by omega), fr 15 1 (by decide) (by omega), fr 15 2 (by decide) (by omega)]; exact ig
    · refine Acc_of A 0 0 0 0 0 0 0 0 0 ?_ ?_ ?_ ?_ ?_ ?_ ?_ ?_ (add_zero32 _).symm rfl rfl rfl
      · rw [fr _ _ (by omega) (by omega), add_zero32]
      · rw [fr _ _ (by omega) (by omega), add_zero32]
      · rw [fr _ _ (by omega) (by omega), add_zero32]
      · rw [fr _ _ (by omega) (by omega), add_zero32]
      · rw [fr _ _ (by omega) (by omega), add_zero32]
      · unfold sm; rw [emN, r1, sums, add_zero32]
      · unfold sm; rw [emN, r2, sums, add_zero32]
      · unfold sm; rw [emN, r3, sums, add_zero32]
    · exact Ivs_eq V (fr _ _ (by omega) (by omega)) (row _ (by omega) (by omega)) (row _ (by omega) (by omega)) (row _ (by omega) (by omega)) (row _ (by omega) (by omega))
    · exact Cls_eq C (row _ (by omega) (by omega)) (row _ (by omega) (by omega)) (row _ (by omega) (by omega)) (fr _ _ (by omega) (by omega))
    · refine ⟨fun k => ?_, fun j => ?_, ?_⟩
      · rw [fs0, r1]
        intro hk2
        by_cases e : k = (K 0 16 0).toNatClampNeg
        · rw [e, pk_us, z0]; omega
        · rw [pk_un e]; rw [i_nat] at e; exact R.1 k (by omega)
      · rw [fr 14 j (by omega) (by omega)]; exact R.2.1 j
      · rw [fr 16 2 (by omega) (by omega)]; exact R.2.2
  · exact fr _ _ (by omega) (by omega)
