def nm : Nat → Int32 → Int32
  | 0, _ => 0
  | c + 1, x => nm c x + x
theorem rr_sum (m : Nat) (cent : Int32) : ∀ (c j : Nat) (D : Nat → Int32), j < m → fs (rr m cent c j D) 0 m 0 = fs D 0 m 0 + nm c cent
  | 0, _, D, _ => (add_zero32 _).symm
  | c + 1, j, D, h => by
    show fs (rr m cent c (if j + 1 < m then j + 1 else 0) (upd D j (D j + cent))) 0 m 0 = fs D 0 m 0 + (nm c cent + cent)
    rw [rr_sum m cent c _ _ (by split <;> omega), fs_upd _ _ _ h]
    grind
theorem lfp_sum (B : jB) (loss W : Int32) : ∀ k, lfp B loss W k = loss - fs (part B loss W) 0 k 0
  | 0 => by show loss = loss - 0; grind
  | k + 1 => by
    show lfp B loss W k - part B loss W k = _
    rw [lfp_sum B loss W k, fs_s0]; grind
theorem nm_1 : ∀ c, nm c 1 = Int32.ofNat c
  | 0 => rfl
  | c + 1 => by show nm c 1 + 1 = _; rw [nm_1 c]; exact (Int32.ofNat_add c 1).symm
theorem nm_m : ∀ c, nm c (-1) = -Int32.ofNat c
  | 0 => rfl
  | c + 1 => by
    show nm c (-1) + -1 = _
    rw [nm_m c, show Int32.ofNat (c + 1) = Int32.ofNat c + 1 from Int32.ofNat_add c 1]
    grind
/-- the shares together are the loss -/
theorem sh_sum {n : Nat} {B : jB} (I : Inv n B) (hm : 0 < (B 16 0).toInt) {loss : Int32} (hl : 1 ≤ loss.toInt ∧ loss.toInt ≤ 1000000) {W : Int32} (hW : 1 ≤ W.toInt ∧ W.toInt ≤ 72) : fs (rr (mN B) (if 0 ≤ lfp B loss W (mN B) then 1 else -1) (lfp B loss W (mN B)).toInt.natAbs 0 (Dp B loss W (mN B))) 0 (mN B) 0 = loss := by
  have h8 := Inv_m I
  have m0 : 0 < mN B := by unfold mN; omega
  have lb := lfp_bd I hl hW (mN B) (by unfold mN; omega)
  have m8 : mN B ≤ 8 := by unfold mN; omega
  have z0 : (0 : Int32).toInt = 0 := rfl
  rw [rr_sum _ _ _ _ _ m0]
  have eD : fs (Dp B loss W (mN B)) 0 (mN B) 0 = fs (part B loss W) 0 (mN B) 0 := fs_congr _ _ _ (fun k _ hk => by unfold Dp; rw [if_pos (by omega)])
  have el := lfp_sum B loss W (mN B)
  rw [eD]
  generalize lfp B loss W (mN B) = l at *
  have en : nm l.toInt.natAbs (if 0 ≤ l then 1 else -1) = l := by
    by_cases q : (0 : Int32) ≤ l
    · rw [if_pos q, nm_1]
      rw [i_le, z0] at q
      rw [i_eq, an_toInt (by omega)]; omega
    · rw [if_neg q, nm_m]
      rw [i_le, z0] at q
      have e : (Int32.ofNat l.toInt.natAbs).toInt = l.toInt.natAbs := an_toInt (by omega)
      rw [i_eq, neg_toInt (by omega), e]; omega
  rw [en, el]
  grind
theorem shareC {n : Nat} {B : jB} (I : Inv n B) (hm : 0 < (B 16 0).toInt) {loss : Int32} (hl : 1 ≤ loss.toInt ∧ loss.toInt ≤ 1000000) : r_X0_share B loss = sEnd B loss (r_X4_allWeights B) (mN B) ∧ n_X0_share B loss := by
  have h8 := Inv_m I
  have hW := W_bd I hm
  have z0 : (0 : Int32).toInt = 0 := rfl
  have hpos : (0 : Int32) < r_X4_allWeights B := by rw [i_lt, z0]; omega
  have lb := lfp_bd I hl hW (B 16 0).toInt.toNat (by omega)
  have c18 := L18_spec I hm loss (r_X4_allWeights B) rfl (by omega) (by omega) (B 16 0).toInt.toNat 8 0 (by decide) (by rw [z0]; omega) (by omega)
  rw [show lfp B loss (r_X4_allWeights B) (0 : Int32).toNatClampNeg = loss from rfl, show shF B (Dp B loss (r_X4_allWeights B) (0 : Int32).toNatClampNeg) = B from sh0 B] at c18
  refine ⟨?_, ⟨fun _ => c18.2, fun _ => trivial⟩⟩
  unfold r_X0_share
  rw [if_pos hpos]; exact c18.1
theorem sEnd_acc {n : Nat} {P : Int32} {B : jB} (I : Inv n B) (A : Acc P B) (hm : 0 < (B 16 0).toInt) {loss : Int32} (hl : 1 ≤ loss.toInt ∧ loss.toInt ≤ 1000000) {W : Int32} (hW : 1 ≤ W.toInt ∧ W.toInt ≤ 72) : Acc P (sEnd B loss W (mN B)) := by
  have hs := sh_sum I hm hl hW
  unfold sEnd
  generalize rr (mN B) (if 0 ≤ lfp B loss W (mN B) then 1 else -1) (lfp B loss W (mN B)).toInt.natAbs 0 (Dp B loss W (mN B)) = D at *
  have e16 : ∀ j, shF B D 16 j = B 16 j := fun j => rfl
  have r1 : shF B D 1 = B 1 := rfl
  have r2 : shF B D 2 = fun k => B 2 k - D k := rfl
  have r3 : shF B D 3 = fun k => B 3 k + D k := rfl
  have em : mN (up2 (up2 (shF B D) 16 3 (B 16 3 + loss)) 16 7 (B 16 7 + loss)) = mN B := by rw [mN_ne (by omega), mN_ne (by omega)]; rfl
  refine Acc_of A loss 0 0 0 loss 0 (-loss) loss 0 ?_ ?_ ?_ ?_ ?_ ?_ ?_ ?_ (add_zero32 _).symm ?_ ?_ rfl
  · rw [up2_at, if_neg (by omega), up2_at, if_pos ⟨rfl, rfl⟩]
  · rw [up2_at, if_neg (by omega), up2_at, if_neg (by omega), e16, add_zero32]
  · rw [up2_at, if_neg (by omega), up2_at, if_neg (by omega), e16, add_zero32]
  · rw [up2_at, if_neg (by omega), up2_at, if_neg (by omega), e16, add_zero32]
  · rw [up2_at, if_pos ⟨rfl, rfl⟩]
  · rw [em, sm_ne (by omega), sm_ne (by omega)]
    unfold sm; rw [r1, add_zero32]
  · rw [em, sm_ne (by omega), sm_ne (by omega)]
    unfold sm; rw [r2, fs_sub, hs]; grind
  · rw [em, sm_ne (by omega), sm_ne (by omega)]
    unfold sm; rw [r3, fs_add, hs]
  · grind
  · grind
theorem C_giveUp {n : Nat} {P : Int32} {K : Nat → jB} (h : St n P K) (hN : n ≤ 900) (i : Int32) : n_X7_giveUp K i ∧ Res n P K (r_X7_giveUp K i) := by
  obtain ⟨np, p0, ps⟩ := push_St h.2
  have hI := St_I h
  have hs := Inv_s hI
  have hms := Inv_m hI
  have z0 : (0 : Int32).toInt = 0 := rfl
  have z2 : (2 : Int32).toInt = 2 := rfl
  have z3 : (3 : Int32).toInt = 3 := rfl
  unfold n_X7_giveUp r_X7_giveUp
  rw [p0]
  rcases has3_cases hI i with g | ⟨g, h0, h1⟩
  · rw [if_pos g.1]
    exact ⟨⟨fun _ => trivial, fun q => absurd g.1 q⟩, Res_no h _ (by decide)⟩
  have gn : ¬ (r_X3_has (K 0) i = 0) := by rw [g]; exact one_ne
  rw [if_neg gn]
  have cl := cl_of hI h0 h1
  have cl6 := nat_lt (n := 6) cl.1 cl.2
  have me := mem_of hI h0 h1
  have ad := adv_of hI h0 h1
  have pd := paid_of hI h0 h1
  have am := am_of hI h0 h1
  have kI := nat_lt_i h0 h1
  have kN : i.toNatClampNeg < sN (K 0) := by unfold sN; omega
  have elz : z_X0_lose_0 (K 0) i = up2 (up2 (K 0) 11 i.toNatClampNeg 3) 5 (K 0 8 i.toNatClampNeg).toNatClampNeg (K 0 5 (K 0 8 i.toNatClampNeg).toNatClampNeg + 1) := by
    unfold z_X0_lose_0 r_X1_addLost
    rw [if_neg (show ¬ (r_X1_has (up2 (K 0) 11 i.toNatClampNeg 3) (K 0 8 i.toNatClampNeg) = 0) by rw [has1_1 _ cl.1 cl.2]; exact one_ne), up2_at _ 11 _ _ 5, if_neg (by omega)]
  have G1 : InvG (64 * ((n + 1 : Nat) : Int)) ((n + 1 : Nat) : Int) (z_X0_lose_0 (K 0) i) := by
    have G0 : InvG (64 * ((n + 1 : Nat) : Int)) ((n + 1 : Nat) : Int) (K 0) := G_of (Inv_mono hI (Nat.le_succ n))
    rw [elz]
    refine G_lup (G_iup G0 (by omega) (fun hk => ?_)) (fun _ => ?_)
    · have := Inv_i hI hk
      unfold IInv at this ⊢
      simp only [up2_at]
      simp
      omega
    · have := Inv_c hI cl6
      rw [ii_succ (by omega)]
      omega
  have I1 : Inv (n + 1) (z_X0_lose_0 (K 0) i) := G1
  have f13 : z_X0_lose_0 (K 0) i 13 i.toNatClampNeg = K 0 13 i.toNatClampNeg := by rw [elz, up2_at, if_neg (by omega), up2_at, if_neg (by omega)]
  have f12 : z_X0_lose_0 (K 0) i 12 i.toNatClampNeg = K 0 12 i.toNatClampNeg := by rw [elz, up2_at, if_neg (by omega), up2_at, if_neg (by omega)]
  have f16 : ∀ j, z_X0_lose_0 (K 0) i 16 j = K 0 16 j := fun j => by rw [elz, up2_at, if_neg (by omega), up2_at, if_neg (by omega)]
  have lo : (K 0 13 i.toNatClampNeg - K 0 12 i.toNatClampNeg).toInt = (K 0 13 i.toNatClampNeg).toInt - (K 0 12 i.toNatClampNeg).toInt := i_sub (by omega) (by omega)
  have hl : (0 : Int32) < K 0 13 i.toNatClampNeg - K 0 12 i.toNatClampNeg → 1 ≤ (K 0 13 i.toNatClampNeg - K 0 12 i.toNatClampNeg).toInt ∧ (K 0 13 i.toNatClampNeg - K 0 12 i.toNatClampNeg).toInt ≤ 1000000 := fun q => by rw [i_lt, z0] at q; omega
  have sh : (0 : Int32) < K 0 13 i.toNatClampNeg - K 0 12 i.toNatClampNeg → _ := fun q => shareC I1 (by rw [f16]; omega) (hl q)
  have e7 : r_X0_lose (K 0) i = (if (K 0 11 i.toNatClampNeg) = (1 : Int32) then (if (0 : Int32) < (K 0 13 i.toNatClampNeg - K 0 12 i.toNatClampNeg) then (K 0 13 i.toNatClampNeg - K 0 12 i.toNatClampNeg, r_X0_share (z_X0_lose_0 (K 0) i) (K 0 13 i.toNatClampNeg - K 0 12 i.toNatClampNeg)) else ((0 : Int32), (z_X0_lose_0 (K 0) i))) else ((0 : Int32), (z_X0_lose_0 (K 0) i))) := by
    unfold r_X0_lose z_X0_lose_1
    rw [if_neg gn, f13, f12]
  have n7 : n_X0_lose (K 0) i := by
    unfold n_X0_lose
    rw [f13, f12]
    exact ⟨fun _ => trivial, fun _ => ⟨fun _ => ⟨fun q => ⟨(sh q).2, trivial⟩, fun _ => trivial⟩, fun _ => trivial⟩⟩
  rw [e7]
  refine ⟨⟨fun _ => trivial, fun _ => ⟨fun _ => trivial, fun _ => ⟨np, n7, trivial⟩⟩⟩, ?_⟩
  by_cases a : r_X0_canGiveUp (K 0) i = 0
  · rw [if_pos a]; exact Res_no h _ (by decide)
  rw [if_neg a]
  have un : (K 0 11 i.toNatClampNeg).toInt ≤ 1 := by
    rcases unset_cases hI h0 h1 with b | b
    · exfalso; apply a; unfold r_X0_canGiveUp; rw [if_pos b.1]
    · exact b.2
  have st0 := st_cases hI h0 h1
  obtain ⟨-, A, V, C, R0⟩ := h.1
  have Vk := V i.toNatClampNeg kI
  generalize hk : i.toNatClampNeg = k at *
  have n2 : K 0 11 k ≠ 2 := by rw [Ne, i_eq, z2]; omega
  have n3 : K 0 11 k ≠ 3 := by rw [Ne, i_eq, z3]; omega
  have fr : ∀ r j, ¬ (r = 11 ∧ j = k) → r ≠ 5 → z_X0_lose_0 (K 0) i r j = K 0 r j := fun r j q1 q2 => by rw [elz, up2_at, if_neg (by omega), up2_at, if_neg q1]
  have row : ∀ r, r ≠ 11 → r ≠ 5 → z_X0_lose_0 (K 0) i r = K 0 r := fun r q1 q2 => funext fun j => fr r j (by omega) q2
  have A1 : Acc P (z_X0_lose_0 (K 0) i) := Acc_eq A (fun j _ _ _ => fr 16 j (by omega) (by omega)) (row 1 (by omega) (by omega)) (row 2 (by omega) (by omega)) (row 3 (by omega) (by omega))
  have e11 : z_X0_lose_0 (K 0) i 11 k = 3 := by rw [elz, up2_at, if_neg (by omega), up2_at, if_pos ⟨rfl, rfl⟩]
  have V1 : Ivs (z_X0_lose_0 (K 0) i) := by
    intro j
    rw [f16 1]
    intro hj
    rw [row 9 (by omega) (by omega), row 12 (by omega) (by omega), row 13 (by omega) (by omega)]
    by_cases ej : j = k
    · subst ej
      rw [e11]
      exact ⟨⟨fun q => absurd (Vk.1.mp q) n2, fun q => absurd q (by decide)⟩, fun q => absurd q (by decide), fun q => absurd q (by decide)⟩
    · rw [fr 11 j (by omega) (by omega)]
      exact V j hj
  have C1 : Cls (z_X0_lose_0 (K 0) i) := by
    rw [elz]
    refine Cls_of C 0 1 ?_ ?_ ?_ ?_
    · rw [sm_ne (by omega), sm_ne (by omega), add_zero32]
    · rw [sm_in _ _ cl6, sm_ne (by omega), up2_at, if_neg (by omega)]; grind
    · rw [ct_ne (by omega) (by omega), ct_11 _ kN, if_neg (by decide), if_neg n2]; rfl
    · rw [ct_ne (by omega) (by omega), ct_11 _ kN, if_pos rfl, if_neg n3]; rfl
  have R1 : Rng (n + 1) (z_X0_lose_0 (K 0) i) := Rng_eq R0 (f16 0) (f16 2) (row 1 (by omega) (by omega)) (row 14 (by omega) (by omega))
  have base : Res n P K ((0 : Int32), up1 (r_X2_push_0 K) 0 (z_X0_lose_0 (K 0) i)) := by
    exact Res_ok h.2 (by decide) ⟨I1, A1, V1, C1, R1⟩ (f16 5)
  by_cases s : K 0 11 k = 1
  · rw [if_pos s]
    by_cases q : (0 : Int32) < K 0 13 k - K 0 12 k
    · rw [if_pos q]
      have m0 : 0 < (z_X0_lose_0 (K 0) i 16 0).toInt := by rw [f16]; omega
      have hW := W_bd I1 m0
      rw [(sh q).1]
      dsimp only
      refine Res_ok h.2 (by have := hl q; omega) ⟨?_, ?_, ?_, ?_, ?_⟩ ?_
      · exact sEnd_inv G1 _ _ _
      · exact sEnd_acc I1 A1 m0 (hl q) hW
      · exact Ivs_eq V1 (sEnd_fr _ _ _ _ (by omega) (by omega) (by omega)) (funext fun j => sEnd_fr _ _ _ _ (by omega) (by omega) (by omega)) (funext fun j => sEnd_fr _ _ _ _ (by omega) (by omega) (by omega)) (funext fun j => sEnd_fr _ _ _ _ (by omega) (by omega) (by omega)) (funext fun j => sEnd_fr _ _ _ _ (by omega) (by omega) (by omega))
      · exact Cls_eq C1 (funext fun j => sEnd_fr _ _ _ _ (by omega) (by omega) (by omega)) (funext fun j => sEnd_fr _ _ _ _ (by omega) (by omega) (by omega)) (funext fun j => sEnd_fr _ _ _ _ (by omega) (by omega) (by omega)) (sEnd_fr _ _ _ _ (by omega) (by omega) (by omega))
      · refine Rng_eq R0 ?_ ?_ ?_ ?_
        · rw [sEnd_fr _ _ _ _ (by omega) (by omega) (by omega)]; exact f16 0
        · rw [sEnd_fr _ _ _ _ (by omega) (by omega) (by omega)]; exact f16 2
        · funext j; rw [sEnd_fr _ _ _ _ (by omega) (by omega) (by omega)]; exact fr 1 j (by omega) (by omega)
        · funext j; rw [sEnd_fr _ _ _ _ (by omega) (by omega) (by omega)]; exact fr 14 j (by omega) (by omega)
      · rw [sEnd_fr _ _ _ _ (by omega) (by omega) (by omega)]; exact f16 5
    · rw [if_neg q]; exact base
  · rw [if_neg s]; exact base
