theorem C_addInvoice {n : Nat} {P : Int32} {K : Nat → jB} (h : St n P K) (i c a d : Int32) : n_X7_addInvoice K i c a d ∧ Res n P K (r_X7_addInvoice K i c a d) := by
  obtain ⟨np, p0, ps⟩ := push_St h.2
  have hI := St_I h
  have hs := Inv_s hI
  have z0 : (0 : Int32).toInt = 0 := rfl
  have z1 : (1 : Int32).toInt = 1 := rfl
  have z100 : (100 : Int32).toInt = 100 := rfl
  have z20 : (20 : Int32).toInt = 20 := rfl
  have zM : (1000000 : Int32).toInt = 1000000 := rfl
  refine ⟨⟨fun _ => trivial, fun _ => ⟨fun _ => trivial, fun _ => ⟨fun _ => trivial, fun _ => ⟨fun _ => ⟨fun _ => trivial, fun _ => ⟨fun _ => ⟨fun _ => ⟨np, trivial⟩, fun _ => trivial⟩, fun _ => trivial⟩⟩, fun _ => trivial⟩⟩⟩⟩, ?_⟩
  unfold r_X7_addInvoice
  rcases has4_cases hI i with g | ⟨g, h0, h1⟩
  · rw [if_pos g.1]; exact Res_no h _ (by decide)
  rw [if_neg (show ¬ (r_X4_has (K 0) i = 0) by rw [g]; exact one_ne)]
  rcases has1_cases (K 0) c with f | ⟨f, c0, c1⟩
  · rw [if_pos f.1]; exact Res_no h _ (by decide)
  rw [if_neg (show ¬ (r_X1_has (K 0) c = 0) by rw [f]; exact one_ne)]
  by_cases b1 : a < 100
  · rw [if_pos b1]; exact Res_no h _ (by decide)
  rw [if_neg b1]
  by_cases b2 : a ≤ 1000000
  rotate_left
  · rw [if_neg b2]; exact Res_no h _ (by decide)
  rw [if_pos b2]
  by_cases b3 : d < 0
  · rw [if_pos b3]; exact Res_no h _ (by decide)
  rw [if_neg b3]
  by_cases b4 : d ≤ 9999
  rotate_left
  · rw [if_neg b4]; exact Res_no h _ (by decide)
  rw [if_pos b4]
  by_cases q : K 0 16 1 < 20
  rotate_left
  · rw [if_neg q]; exact Res_no h _ (by decide)
  rw [if_pos q]
  have ea : r_X3_append (K 0) i c a d = ((K 0 16 1 + 1) - 1, up2 (z_X3_append_4 (K 0) i c a d) 16 1 (K 0 16 1 + 1)) := by
    unfold r_X3_append
    rw [if_neg (show ¬ (K 0 16 1 < 0) by rw [i_lt]; omega), if_pos q]
  rw [p0, ea]
  dsimp only
  rw [i_lt] at b1 b3 q
  rw [i_le] at b2 b4
  have hI' := Inv_mono hI (Nat.le_succ n)
  have hsz : (K 0 16 1 + 1).toInt = (K 0 16 1).toInt + 1 := ii_succ (by omega)
  have fr0 : ∀ r k, ¬ (7 ≤ r ∧ r < 14 ∧ k = (K 0 16 1).toNatClampNeg) → z_X3_append_4 (K 0) i c a d r k = K 0 r k := by
    intro r k hq; unfold z_X3_append_4 z_X3_append_3 z_X3_append_2 z_X3_append_1 z_X3_append_0
    rw [up2_at, if_neg (by omega), up2_at, if_neg (by omega), up2_at, if_neg (by omega), up2_at, if_neg (by omega), up2_at, if_neg (by omega), up2_at, if_neg (by omega), up2_at, if_neg (by omega)]
  have fr : ∀ r k, ¬ (7 ≤ r ∧ r < 14 ∧ k = (K 0 16 1).toNatClampNeg) → ¬ (r = 16 ∧ k = 1) → up2 (z_X3_append_4 (K 0) i c a d) 16 1 (K 0 16 1 + 1) r k = K 0 r k := by
    intro r k h1 h2; rw [up2_at, if_neg h2, fr0 r k h1]
  have row : ∀ r, r < 7 ∨ r = 14 → up2 (z_X3_append_4 (K 0) i c a d) 16 1 (K 0 16 1 + 1) r = K 0 r := fun r hr => funext fun k => fr r k (by omega) (by omega)
  have fs1 : up2 (z_X3_append_4 (K 0) i c a d) 16 1 (K 0 16 1 + 1) 16 1 = K 0 16 1 + 1 := by rw [up2_at, if_pos ⟨rfl, rfl⟩]
  have g7 : up2 (z_X3_append_4 (K 0) i c a d) 16 1 (K 0 16 1 + 1) 7 (K 0 16 1).toNatClampNeg = i := by unfold z_X3_append_4 z_X3_append_3 z_X3_append_2 z_X3_append_1 z_X3_append_0; simp [up2_at]
  have g8 : up2 (z_X3_append_4 (K 0) i c a d) 16 1 (K 0 16 1 + 1) 8 (K 0 16 1).toNatClampNeg = c := by unfold z_X3_append_4 z_X3_append_3 z_X3_append_2 z_X3_append_1 z_X3_append_0; simp [up2_at]
  have g9 : up2 (z_X3_append_4 (K 0) i c a d) 16 1 (K 0 16 1 + 1) 9 (K 0 16 1).toNatClampNeg = a := by unfold z_X3_append_4 z_X3_append_3 z_X3_append_2 z_X3_append_1 z_X3_append_0; simp [up2_at]
  have g11 : up2 (z_X3_append_4 (K 0) i c a d) 16 1 (K 0 16 1 + 1) 11 (K 0 16 1).toNatClampNeg = 0 := by unfold z_X3_append_4 z_X3_append_3 z_X3_append_2 z_X3_append_1 z_X3_append_0; simp [up2_at]
  have g12 : up2 (z_X3_append_4 (K 0) i c a d) 16 1 (K 0 16 1 + 1) 12 (K 0 16 1).toNatClampNeg = 0 := by unfold z_X3_append_4 z_X3_append_3 z_X3_append_2 z_X3_append_1 z_X3_append_0; simp [up2_at]
  have g13 : up2 (z_X3_append_4 (K 0) i c a d) 16 1 (K 0 16 1 + 1) 13 (K 0 16 1).toNatClampNeg = 0 := by unfold z_X3_append_4 z_X3_append_3 z_X3_append_2 z_X3_append_1 z_X3_append_0; simp [up2_at]
  have r11 : up2 (z_X3_append_4 (K 0) i c a d) 16 1 (K 0 16 1 + 1) 11 = upd (K 0 11) (sN (K 0)) 0 := by
    funext k
    by_cases e : k = (K 0 16 1).toNatClampNeg
    · rw [e, g11]; exact pk_us.symm
    · rw [fr 11 k (by omega) (by omega)]; exact (pk_un e).symm
  have esN : sN (up2 (z_X3_append_4 (K 0) i c a d) 16 1 (K 0 16 1 + 1)) = sN (K 0) + 1 := by unfold sN; rw [fs1]; omega
  have emN : mN (up2 (z_X3_append_4 (K 0) i c a d) 16 1 (K 0 16 1 + 1)) = mN (K 0) := by unfold mN; rw [fr 16 0 (by omega) (by omega)]
  refine Res_ok h.2 ?_ ?_ ?_
  · rw [i_sub] <;> rw [hsz, z1] <;> omega
  · obtain ⟨-, A, V, C, R0⟩ := h.1
    refine ⟨?_, ?_, ?_, ?_, ?_⟩
    · obtain ⟨ia, ib, ic, id, ie, ig⟩ := hI'
      refine ⟨?_, ?_, ?_, ?_, ?_, ?_⟩
      · rw [fr 16 0 (by omega) (by omega)]; exact ia
      · rw [fs1]; omega
      · intro k; rw [fr 16 0 (by omega) (by omega), fr 0 k (by omega) (by omega)]; exact ic k
      · intro k hk; rw [fr 4 k (by omega) (by omega), fr 5 k (by omega) (by omega)]; exact id k hk
      · intro k; rw [fs1]; intro hk
        by_cases e : k = (K 0 16 1).toNatClampNeg
        · subst e
          unfold IInv
          rw [g7, g8, g9, g11, g12, g13, fr 16 0 (by omega) (by omega), z0]
          omega
        · have e' := e
          rw [i_nat] at e'
          have := ie k (by omega)
          unfold IInv at this ⊢
          rw [fr 7 k (by omega) (by omega), fr 8 k (by omega) (by omega), fr 9 k (by omega) (by omega), fr 11 k (by omega) (by omega), fr 12 k (by omega) (by omega), fr 13 k (by omega) (by omega), fr 16 0 (by omega) (by omega)]
          exact this
      · rw [fr 15 0 (by omega) (by omega), fr 15 1 (by omega) (by omega), fr 15 2 (by omega) (by omega)]; exact ig
    · exact Acc_eq A (fun j _ j1 _ => fr 16 j (by omega) (by omega)) (row 1 (by omega)) (row 2 (by omega)) (row 3 (by omega))
    · intro k; rw [fs1]; intro hk
      by_cases e : k = (K 0 16 1).toNatClampNeg
      · subst e
        rw [g9, g11, g12, g13]
        refine ⟨⟨fun q => ?_, fun q => absurd q (by decide)⟩, fun _ => rfl, fun q => absurd q (by decide)⟩
        rw [← q] at b1
        exact absurd z0 (by omega)
      · have e' := e
        rw [i_nat] at e'
        rw [fr 9 k (by omega) (by omega), fr 11 k (by omega) (by omega), fr 12 k (by omega) (by omega), fr 13 k (by omega) (by omega)]
        exact V k (by omega)
    · refine Cls_of C 0 0 ?_ ?_ ?_ ?_
      · unfold sm; rw [row 4 (by omega), add_zero32]
      · unfold sm; rw [row 5 (by omega), add_zero32]
      · rw [ct_app r11 esN, if_neg (by decide)]
      · rw [ct_app r11 esN, if_neg (by decide)]
    · exact Rng_eq R0 (fr _ _ (by omega) (by omega)) (fr _ _ (by omega) (by omega)) (row 1 (by omega)) (row 14 (by omega))
  · exact fr _ _ (by omega) (by omega)
/-- what canPayAhead says -/
theorem can_of {n : Nat} {B : jB} (I : Inv n B) {i : Int32} (h : ¬ (r_X0_canPayAhead B i = 0)) : 0 ≤ i.toInt ∧ i.toInt < (B 16 1).toInt ∧ B 11 i.toNatClampNeg = 0 ∧ B 12 i.toNatClampNeg = 0 ∧ 0 < (r_X0_offerAfter B i 0).toInt ∧ ¬ (B 16 3 - r_X0_offerAfter B i 0 < r_X0_reserveCents B) := by
  unfold r_X0_canPayAhead at h
  rcases has3_cases I i with g | ⟨g, h0, h1⟩
  · rw [if_pos g.1] at h; exact absurd rfl h
  rw [if_neg (by rw [g]; exact one_ne)] at h
  by_cases a : B 11 i.toNatClampNeg = 0
  rotate_left
  · rw [if_neg a] at h; exact absurd rfl h
  rw [if_pos a] at h
  by_cases b : B 12 i.toNatClampNeg = 0
  rotate_left
  · rw [if_neg b] at h; exact absurd rfl h
  rw [if_pos b] at h
  by_cases c : B 14 (0 : Int32).toNatClampNeg ≤ r_X0_ageOf B i
  rotate_left
  · rw [if_neg c] at h; exact absurd rfl h
  rw [if_pos c] at h
  by_cases d : r_X0_offerAfter B i 0 ≤ 0
  · rw [if_pos d] at h; exact absurd rfl h
  rw [if_neg d] at h
  by_cases e : B 16 3 - r_X0_offerAfter B i 0 < r_X0_reserveCents B
  · rw [if_pos e] at h; exact absurd rfl h
  rw [i_le, show (0 : Int32).toInt = 0 from rfl] at d
  exact ⟨h0, h1, a, b, by omega, e⟩
def aEnd (B : jB) (i : Int32) : jB := up2 (up2 (up2 (up2 (up2 B 11 i.toNatClampNeg 1) 13 i.toNatClampNeg (r_X0_offerAfter B i 0)) 2 (B 7 i.toNatClampNeg).toNatClampNeg (B 2 (B 7 i.toNatClampNeg).toNatClampNeg + r_X0_offerAfter B i 0)) 16 3 (B 16 3 - r_X0_offerAfter B i 0)) 16 4 (B 16 4 + r_X0_offerAfter B i 0)
theorem adv_eq {n : Nat} {B : jB} (I : Inv n B) {i : Int32} (h0 : 0 ≤ i.toInt) (h1 : i.toInt < (B 16 1).toInt) : r_X0_advance B i = (r_X0_offerAfter B i 0, aEnd B i) := by
  have me := mem_of I h0 h1
  have hh := has3_1 I h0 h1
  have hm4 := has4_1 I me.1 me.2
  have es : z_X0_advance_0 B i 16 0 = B 16 0 := by unfold z_X0_advance_0; rw [up2_at, if_neg (by omega), up2_at, if_neg (by omega)]
  have e2 : z_X0_advance_0 B i 2 (B 7 i.toNatClampNeg).toNatClampNeg = B 2 (B 7 i.toNatClampNeg).toNatClampNeg := by unfold z_X0_advance_0; rw [up2_at, if_neg (by omega), up2_at, if_neg (by omega)]
  have ez1 : z_X0_advance_1 B i = up2 (z_X0_advance_0 B i) 2 (B 7 i.toNatClampNeg).toNatClampNeg (B 2 (B 7 i.toNatClampNeg).toNatClampNeg + r_X0_offerAfter B i 0) := by
    unfold z_X0_advance_1 r_X4_intoPurse
    rw [has4_sz es, if_neg (by rw [hm4]; exact one_ne), e2]
  have e3 : z_X0_advance_1 B i 16 3 = B 16 3 := by rw [ez1, up2_at, if_neg (by omega)]; unfold z_X0_advance_0; rw [up2_at, if_neg (by omega), up2_at, if_neg (by omega)]
  have e4 : z_X0_advance_1 B i 16 4 = B 16 4 := by rw [ez1, up2_at, if_neg (by omega)]; unfold z_X0_advance_0; rw [up2_at, if_neg (by omega), up2_at, if_neg (by omega)]
  unfold r_X0_advance
  rw [if_neg (show ¬ (r_X3_has B i = 0) by rw [hh]; exact one_ne)]
  unfold z_X0_advance_3 z_X0_advance_2
  rw [e3, e4, ez1]
  rfl
theorem C_payAhead {n : Nat} {P : Int32} {K : Nat → jB} (h : St n P K) (hN : n ≤ 900) (i : Int32) : n_X7_payAhead K i ∧ Res n P K (r_X7_payAhead K i) ∧ (0 ≤ (r_X7_payAhead K i).1.toInt → ¬ ((r_X7_payAhead K i).2 0 16 3 < r_X0_reserveCents ((r_X7_payAhead K i).2 0))) := by
  obtain ⟨np, p0, ps⟩ := push_St h.2
  have hI := St_I h
  refine ⟨⟨fun _ => trivial, fun _ => ⟨n_canPayAhead hI (by omega) i, fun _ => trivial, fun _ => ⟨np, ⟨fun _ => trivial, fun _ => ⟨by rw [p0]; exact n_offer hI (by omega) i 0, trivial⟩⟩, trivial⟩⟩⟩, ?_⟩
  unfold r_X7_payAhead
  by_cases g : r_X3_has (K 0) i = 0
  · rw [if_pos g]; exact ⟨Res_no h _ (by decide), fun q => absurd (show 0 ≤ (-1 : Int32).toInt from q) (by decide)⟩
  rw [if_neg g]
  by_cases a : r_X0_canPayAhead (K 0) i = 0
  · rw [if_pos a]; exact ⟨Res_no h _ (by decide), fun q => absurd (show 0 ≤ (-4 : Int32).toInt from q) (by decide)⟩
  rw [if_neg a]
  obtain ⟨h0, h1, s0, pd0, off, rs⟩ := can_of hI a
  rw [p0, adv_eq hI h0 h1]
  dsimp only
  generalize hk : i.toNatClampNeg = k at *
  have oc := (offer_cut hI (by omega) h0 h1 0).2
  rw [hk] at oc
  have me := mem_of hI h0 h1
  have am := am_of hI h0 h1
  rw [hk] at me am
  have kN : k < sN (K 0) := by unfold sN; rw [← hk, i_nat]; omega
  have kI : (k : Int) < (K 0 16 1).toInt := by rw [← hk]; exact nat_lt_i h0 h1
  have z0 : (0 : Int32).toInt = 0 := rfl
  have z1 : (1 : Int32).toInt = 1 := rfl
  have mk : (K 0 7 k).toNatClampNeg < mN (K 0) := by unfold mN; rw [i_nat]; omega
  unfold aEnd
  rw [hk]
  generalize r_X0_offerAfter (K 0) i 0 = off0 at *
  have fr : ∀ r j, ¬ (r = 11 ∧ j = k) → ¬ (r = 13 ∧ j = k) → r ≠ 2 → ¬ (r = 16 ∧ (j = 3 ∨ j = 4)) → (up2 (up2 (up2 (up2 (up2 (K 0) 11 k 1) 13 k off0) 2 (K 0 7 k).toNatClampNeg (K 0 2 (K 0 7 k).toNatClampNeg + off0)) 16 3 (K 0 16 3 - off0)) 16 4 (K 0 16 4 + off0)) r j = K 0 r j := by
    intro r j q1 q2 q3 q4
    rw [up2_at, if_neg (by omega), up2_at, if_neg (by omega), up2_at, if_neg (by omega), up2_at, if_neg (by omega), up2_at, if_neg (by omega)]
  have row : ∀ r, r ≠ 11 → r ≠ 13 → r ≠ 2 → r ≠ 16 → (up2 (up2 (up2 (up2 (up2 (K 0) 11 k 1) 13 k off0) 2 (K 0 7 k).toNatClampNeg (K 0 2 (K 0 7 k).toNatClampNeg + off0)) 16 3 (K 0 16 3 - off0)) 16 4 (K 0 16 4 + off0)) r = K 0 r := fun r q1 q2 q3 q4 => funext fun j => fr r j (by omega) (by omega) q3 (by omega)
  have e11 : (up2 (up2 (up2 (up2 (up2 (K 0) 11 k 1) 13 k off0) 2 (K 0 7 k).toNatClampNeg (K 0 2 (K 0 7 k).toNatClampNeg + off0)) 16 3 (K 0 16 3 - off0)) 16 4 (K 0 16 4 + off0)) 11 k = 1 := by
    rw [up2_at, if_neg (by omega), up2_at, if_neg (by omega), up2_at, if_neg (by omega), up2_at, if_neg (by omega), up2_at, if_pos ⟨rfl, rfl⟩]
  have e13 : (up2 (up2 (up2 (up2 (up2 (K 0) 11 k 1) 13 k off0) 2 (K 0 7 k).toNatClampNeg (K 0 2 (K 0 7 k).toNatClampNeg + off0)) 16 3 (K 0 16 3 - off0)) 16 4 (K 0 16 4 + off0)) 13 k = off0 := by
    rw [up2_at, if_neg (by omega), up2_at, if_neg (by omega), up2_at, if_neg (by omega), up2_at, if_pos ⟨rfl, rfl⟩]
  have e3 : (up2 (up2 (up2 (up2 (up2 (K 0) 11 k 1) 13 k off0) 2 (K 0 7 k).toNatClampNeg (K 0 2 (K 0 7 k).toNatClampNeg + off0)) 16 3 (K 0 16 3 - off0)) 16 4 (K 0 16 4 + off0)) 16 3 = K 0 16 3 - off0 := by
    rw [up2_at, if_neg (by omega), up2_at, if_pos ⟨rfl, rfl⟩]
  have ct1 : ∀ a, ct (up2 (up2 (up2 (up2 (up2 (K 0) 11 k 1) 13 k off0) 2 (K 0 7 k).toNatClampNeg (K 0 2 (K 0 7 k).toNatClampNeg + off0)) 16 3 (K 0 16 3 - off0)) 16 4 (K 0 16 4 + off0)) a = ct (K 0) a + ((if (1 : Int32) = a then 1 else 0) - (if (0 : Int32) = a then 1 else 0)) := by
    intro a
    rw [ct_ne (by omega) (by omega), ct_ne (by omega) (by omega), ct_ne (by omega) (by omega), ct_ne (by omega) (by omega), ct_11 _ kN, s0]
  refine ⟨Res_ok h.2 (by omega) ?_ ?_, fun _ => ?_⟩
  · obtain ⟨-, A, V, C, R0⟩ := h.1
    refine ⟨?_, ?_, ?_, ?_, ?_⟩
    · have hI' := Inv_mono hI (Nat.le_succ n)
      have ii := Inv_i hI' kI
      have I1 : Inv (n + 1) (up2 (K 0) 11 k 1) := by
        refine Inv_iup hI' (by omega) (fun _ => ?_)
        unfold IInv at ii ⊢
        simp only [up2_at]
        simp
        omega
      have I2 : Inv (n + 1) (up2 (up2 (K 0) 11 k 1) 13 k off0) := by
        refine Inv_iup I1 (by omega) (fun hk => ?_)
        have := Inv_i I1 hk
        unfold IInv at this ⊢
        simp only [up2_at] at this ⊢
        simp at this ⊢
        omega
      exact Inv_free (Inv_free (Inv_free I2 _ (by omega)) _ (by omega)) _ (by omega)
    · refine Acc_of A (-off0) off0 0 0 0 0 off0 0 0 ?_ ?_ ?_ ?_ ?_ ?_ ?_ ?_ ?_ ?_ ?_ ?_
      · rw [e3]; grind
      · rw [up2_at, if_pos ⟨rfl, rfl⟩]
      · rw [fr _ _ (by omega) (by omega) (by omega) (by omega), add_zero32]
      · rw [fr _ _ (by omega) (by omega) (by omega) (by omega), add_zero32]
      · rw [fr _ _ (by omega) (by omega) (by omega) (by omega), add_zero32]
      · rw [mN_ne (by omega), mN_ne (by omega), mN_ne (by omega), mN_ne (by omega), mN_ne (by omega)]
        unfold sm; rw [row 1 (by omega) (by omega) (by omega) (by omega), add_zero32]
      · rw [mN_ne (by omega), mN_ne (by omega), mN_ne (by omega), mN_ne (by omega), mN_ne (by omega), sm_ne (by omega), sm_ne (by omega), sm_in _ _ mk, sm_ne (by omega), sm_ne (by omega), up2_at _ 13, if_neg (by omega), up2_at, if_neg (by omega)]
        grind
      · rw [mN_ne (by omega), mN_ne (by omega), mN_ne (by omega), mN_ne (by omega), mN_ne (by omega)]
        unfold sm; rw [row 3 (by omega) (by omega) (by omega) (by omega), add_zero32]
      · rw [add_zero32]
      · grind
      · grind
      · rfl
    · intro j
      rw [fr 16 1 (by omega) (by omega) (by omega) (by omega)]
      intro hj
      rw [row 9 (by omega) (by omega) (by omega) (by omega), row 12 (by omega) (by omega) (by omega) (by omega)]
      by_cases e : j = k
      · subst e
        rw [e11, e13]
        refine ⟨⟨fun q => ?_, fun q => absurd q (by decide)⟩, fun q => absurd q (by decide), fun _ => off⟩
        rw [pd0] at q
        rw [← q] at am
        omega
      · rw [fr 11 j (by omega) (by omega) (by omega) (by omega), fr 13 j (by omega) (by omega) (by omega) (by omega)]
        exact V j hj
    · refine Cls_of C 0 0 ?_ ?_ ?_ ?_
      · unfold sm; rw [row 4 (by omega) (by omega) (by omega) (by omega), add_zero32]
      · unfold sm; rw [row 5 (by omega) (by omega) (by omega) (by omega), add_zero32]
      · rw [ct1]; rfl
      · rw [ct1]; rfl
    · exact Rng_eq R0 (fr _ _ (by omega) (by omega) (by omega) (by omega)) (fr _ _ (by omega) (by omega) (by omega) (by omega)) (row 1 (by omega) (by omega) (by omega) (by omega)) (row 14 (by omega) (by omega) (by omega) (by omega))
  · exact fr _ _ (by omega) (by omega) (by omega) (by omega)
  · rw [up1_0, e3]
    have er : r_X0_reserveCents (up2 (up2 (up2 (up2 (up2 (K 0) 11 k 1) 13 k off0) 2 (K 0 7 k).toNatClampNeg (K 0 2 (K 0 7 k).toNatClampNeg + off0)) 16 3 (K 0 16 3 - off0)) 16 4 (K 0 16 4 + off0)) = r_X0_reserveCents (K 0) := by
      unfold r_X0_reserveCents
      have I9 : Inv (n + 1) (up2 (up2 (up2 (up2 (up2 (K 0) 11 k 1) 13 k off0) 2 (K 0 7 k).toNatClampNeg (K 0 2 (K 0 7 k).toNatClampNeg + off0)) 16 3 (K 0 16 3 - off0)) 16 4 (K 0 16 4 + off0)) := by
        have hI' := Inv_mono hI (Nat.le_succ n)
        have ii := Inv_i hI' kI
        have I1 : Inv (n + 1) (up2 (K 0) 11 k 1) := by
          refine Inv_iup hI' (by omega) (fun _ => ?_)
          unfold IInv at ii ⊢
          simp only [up2_at]
          simp
          omega
        have I2 : Inv (n + 1) (up2 (up2 (K 0) 11 k 1) 13 k off0) := by
          refine Inv_iup I1 (by omega) (fun hk => ?_)
          have := Inv_i I1 hk
          unfold IInv at this ⊢
          simp only [up2_at] at this ⊢
          simp at this ⊢
          omega
        exact Inv_free (Inv_free (Inv_free I2 _ (by omega)) _ (by omega)) _ (by omega)
      rw [e_dues I9, e_dues hI, row 14 (by omega) (by omega) (by omega) (by omega)]
      unfold sm
      rw [row 1 (by omega) (by omega) (by omega) (by omega)]
      unfold mN
      rw [fr 16 0 (by omega) (by omega) (by omega) (by omega)]
    rw [er]
    exact rs
