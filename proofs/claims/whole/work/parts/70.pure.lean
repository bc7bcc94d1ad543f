def cA0 (B : jB) (k : Nat) (c : Int32) : jB := up2 (up2 B 12 k (B 12 k + c)) 16 5 (B 16 5 + c)
def cA2 (B : jB) (k : Nat) (c : Int32) : jB := up2 (cA0 B k c) 2 (B 7 k).toNatClampNeg (B 2 (B 7 k).toNatClampNeg + c)
def cA6 (B : jB) (k : Nat) (c : Int32) : jB := up2 (cA0 B k c) 16 3 (B 16 3 + c)
def cSet (B : jB) (k : Nat) (d : Int32) (X : jB) : jB := up2 (up2 (up2 X 11 k 2) 4 (B 8 k).toNatClampNeg (X 4 (B 8 k).toNatClampNeg + 1)) 6 (B 8 k).toNatClampNeg (X 6 (B 8 k).toNatClampNeg + d)
def cRest (B : jB) (k : Nat) : Int32 := (B 9 k - B 13 k) - FP.f2i (FP.fmul (FP.i2f (B 9 k)) (B 15 2).toUInt32)
def cPas (B : jB) (k : Nat) (X : jB) : jB := up2 (up2 (up2 X 16 3 (X 16 3 - cRest B k)) 16 6 (X 16 6 + cRest B k)) 2 (B 7 k).toNatClampNeg (X 2 (B 7 k).toNatClampNeg + cRest B k)
def cEnd (B : jB) (i : Int32) (c : Int32) : jB :=
  if B 11 i.toNatClampNeg = 1 then (if B 9 i.toNatClampNeg - (B 12 i.toNatClampNeg + c) = 0 then cSet B i.toNatClampNeg (lt0 B i 0) (if 0 < cRest B i.toNatClampNeg then cPas B i.toNatClampNeg (cA6 B i.toNatClampNeg c) else cA6 B i.toNatClampNeg c) else cA6 B i.toNatClampNeg c)
  else (if B 9 i.toNatClampNeg - (B 12 i.toNatClampNeg + c) = 0 then cSet B i.toNatClampNeg (lt0 B i 0) (cA2 B i.toNatClampNeg c) else cA2 B i.toNatClampNeg c)
theorem cA0_fr (B : jB) (k : Nat) (c : Int32) {r j : Nat} (h : ¬ (r = 12 ∧ j = k)) (h2 : ¬ (r = 16 ∧ j = 5)) : cA0 B k c r j = B r j := by
  unfold cA0; rw [up2_at, if_neg h2, up2_at, if_neg h]
theorem cA0_12 (B : jB) (k : Nat) (c : Int32) : cA0 B k c 12 k = B 12 k + c := by
  unfold cA0; rw [up2_at, if_neg (by omega), up2_at, if_pos ⟨rfl, rfl⟩]
theorem cA2_fr (B : jB) (k : Nat) (c : Int32) {r j : Nat} (h0 : r ≠ 2) (h : ¬ (r = 12 ∧ j = k)) (h2 : ¬ (r = 16 ∧ j = 5)) : cA2 B k c r j = B r j := by
  unfold cA2; rw [up2_at, if_neg (by omega), cA0_fr B k c h h2]
theorem cA6_fr (B : jB) (k : Nat) (c : Int32) {r j : Nat} (h0 : ¬ (r = 16 ∧ j = 3)) (h : ¬ (r = 12 ∧ j = k)) (h2 : ¬ (r = 16 ∧ j = 5)) : cA6 B k c r j = B r j := by
  unfold cA6; rw [up2_at, if_neg h0, cA0_fr B k c h h2]
theorem addSettled_eq {X : jB} {cl : Int32} (h0 : 0 ≤ cl.toInt) (h1 : cl.toInt < 6) (d : Int32) : r_X1_addSettled X cl d = up2 (up2 X 4 cl.toNatClampNeg (X 4 cl.toNatClampNeg + 1)) 6 cl.toNatClampNeg (X 6 cl.toNatClampNeg + d) := by
  unfold r_X1_addSettled z_X1_addSettled_0
  rw [if_neg (show ¬ (r_X1_has X cl = 0) by rw [has1_1 X h0 h1]; exact one_ne)]
theorem set_eq {B X : jB} {i : Int32} (hh : r_X3_has X i = 1) (e8 : X 8 i.toNatClampNeg = B 8 i.toNatClampNeg) (eD : X 16 2 = B 16 2) (e10 : X 10 i.toNatClampNeg = B 10 i.toNatClampNeg) (h0 : 0 ≤ (B 8 i.toNatClampNeg).toInt) (h1 : (B 8 i.toNatClampNeg).toInt < 6) :
    r_X1_addSettled (up2 X 11 i.toNatClampNeg 2) (X 8 i.toNatClampNeg) (r_X0_lateAfter (up2 X 11 i.toNatClampNeg 2) i 0) = cSet B i.toNatClampNeg (lt0 B i 0) X := by
  have hh2 : r_X3_has (up2 X 11 i.toNatClampNeg 2) i = 1 := by rw [has3_sz (show up2 X 11 i.toNatClampNeg 2 16 1 = X 16 1 by rw [up2_at, if_neg (by omega)])]; exact hh
  rw [lateA_lt0 hh2, e8, addSettled_eq h0 h1]
  have el : lt0 (up2 X 11 i.toNatClampNeg 2) i 0 = lt0 B i 0 := by
    unfold lt0
    rw [show up2 X 11 i.toNatClampNeg 2 16 2 = B 16 2 by rw [up2_at, if_neg (by omega)]; exact eD, show up2 X 11 i.toNatClampNeg 2 10 i.toNatClampNeg = B 10 i.toNatClampNeg by rw [up2_at, if_neg (by omega)]; exact e10]
  rw [el]
  unfold cSet
  rw [show up2 X 11 i.toNatClampNeg 2 4 (B 8 i.toNatClampNeg).toNatClampNeg = X 4 (B 8 i.toNatClampNeg).toNatClampNeg by rw [up2_at, if_neg (by omega)], show up2 X 11 i.toNatClampNeg 2 6 (B 8 i.toNatClampNeg).toNatClampNeg = X 6 (B 8 i.toNatClampNeg).toNatClampNeg by rw [up2_at, if_neg (by omega)]]
theorem collect_eq {n : Nat} {B : jB} (I : Inv n B) {i c : Int32} (h0 : 0 ≤ i.toInt) (h1 : i.toInt < (B 16 1).toInt) : r_X0_collect B i c = (B 9 i.toNatClampNeg - (B 12 i.toNatClampNeg + c), cEnd B i c) ∧ n_X0_collect B i c := by
  have hh := has3_1 I h0 h1
  have gn : ¬ (r_X3_has B i = 0) := by rw [hh]; exact one_ne
  have me := mem_of I h0 h1
  have hc := cl_of I h0 h1
  have hm4 := has4_1 I me.1 me.2
  have eA0 : z_X0_collect_0 B i c = cA0 B i.toNatClampNeg c := rfl
  have eip : r_X4_intoPurse (cA0 B i.toNatClampNeg c) (B 7 i.toNatClampNeg) c = cA2 B i.toNatClampNeg c := by
    unfold r_X4_intoPurse cA2
    rw [has4_sz (cA0_fr B i.toNatClampNeg c (r := 16) (j := 0) (by omega) (by omega)), if_neg (by rw [hm4]; exact one_ne), cA0_fr B i.toNatClampNeg c (by omega) (by omega)]
  have e12 : up2 B 12 i.toNatClampNeg (B 12 i.toNatClampNeg + c) 12 i.toNatClampNeg = B 12 i.toNatClampNeg + c := by rw [up2_at, if_pos ⟨rfl, rfl⟩]
  have e9' : cA2 B i.toNatClampNeg c 9 i.toNatClampNeg = B 9 i.toNatClampNeg := cA2_fr B _ c (by omega) (by omega) (by omega)
  have e12' : cA2 B i.toNatClampNeg c 12 i.toNatClampNeg = B 12 i.toNatClampNeg + c := by
    unfold cA2; rw [up2_at, if_neg (by omega), cA0_12]
  have hA2 : r_X3_has (cA2 B i.toNatClampNeg c) i = 1 := by rw [has3_sz (cA2_fr B _ c (r := 16) (j := 1) (by omega) (by omega) (by omega))]; exact hh
  have hA6 : r_X3_has (cA6 B i.toNatClampNeg c) i = 1 := by rw [has3_sz (cA6_fr B _ c (r := 16) (j := 1) (by omega) (by omega) (by omega))]; exact hh
  have st2 : cA2 B i.toNatClampNeg c 11 i.toNatClampNeg = B 11 i.toNatClampNeg := cA2_fr B _ c (by omega) (by omega) (by omega)
  have st6 : cA6 B i.toNatClampNeg c 11 i.toNatClampNeg = B 11 i.toNatClampNeg := cA6_fr B _ c (by omega) (by omega) (by omega)
  have eA6 : up2 (z_X0_collect_0 B i c) 16 3 (B 16 3 + c) = cA6 B i.toNatClampNeg c := rfl
  have rest6 : ((cA6 B i.toNatClampNeg c 9 i.toNatClampNeg - cA6 B i.toNatClampNeg c 13 i.toNatClampNeg) - FP.f2i (FP.fmul (FP.i2f (cA6 B i.toNatClampNeg c 9 i.toNatClampNeg)) (cA6 B i.toNatClampNeg c 15 2).toUInt32)) = cRest B i.toNatClampNeg := by
    rw [cA6_fr B _ c (r := 9) (by omega) (by omega) (by omega), cA6_fr B _ c (r := 13) (by omega) (by omega) (by omega), cA6_fr B _ c (r := 15) (by omega) (by omega) (by omega)]; rfl
  have epo : r_X0_passOn (cA6 B i.toNatClampNeg c) i = if 0 < cRest B i.toNatClampNeg then cPas B i.toNatClampNeg (cA6 B i.toNatClampNeg c) else cA6 B i.toNatClampNeg c := by
    unfold r_X0_passOn z_X0_passOn_2 z_X0_passOn_1 z_X0_passOn_0
    rw [if_neg (show ¬ (r_X3_has (cA6 B i.toNatClampNeg c) i = 0) by rw [hA6]; exact one_ne), show (2 : Int32).toNatClampNeg = 2 from rfl, rest6, cA6_fr B _ c (r := 7) (by omega) (by omega) (by omega)]
    unfold r_X4_intoPurse cPas
    have h16 : up2 (up2 (cA6 B i.toNatClampNeg c) 16 3 (cA6 B i.toNatClampNeg c 16 3 - cRest B i.toNatClampNeg)) 16 6 (cA6 B i.toNatClampNeg c 16 6 + cRest B i.toNatClampNeg) 16 0 = B 16 0 := by
      rw [up2_at, if_neg (by omega), up2_at, if_neg (by omega), cA6_fr B _ c (by omega) (by omega) (by omega)]
    have h2 : up2 (up2 (cA6 B i.toNatClampNeg c) 16 3 (cA6 B i.toNatClampNeg c 16 3 - cRest B i.toNatClampNeg)) 16 6 (cA6 B i.toNatClampNeg c 16 6 + cRest B i.toNatClampNeg) 2 (B 7 i.toNatClampNeg).toNatClampNeg = cA6 B i.toNatClampNeg c 2 (B 7 i.toNatClampNeg).toNatClampNeg := by
      rw [up2_at, if_neg (by omega), up2_at, if_neg (by omega)]
    have h6 : up2 (cA6 B i.toNatClampNeg c) 16 3 (cA6 B i.toNatClampNeg c 16 3 - cRest B i.toNatClampNeg) 16 6 = cA6 B i.toNatClampNeg c 16 6 := by
      rw [up2_at, if_neg (by omega)]
    rw [has4_sz h16, if_neg (show ¬ (r_X4_has B (B 7 i.toNatClampNeg) = 0) by rw [hm4]; exact one_ne), h2]
  have nset6 : n_X0_settle (cA6 B i.toNatClampNeg c) i := by
    refine ⟨fun _ => trivial, fun _ => ⟨fun _ => ⟨⟨fun _ => trivial, fun _ => ⟨?_, fun _ => trivial, fun _ => trivial⟩⟩, trivial⟩, fun _ => trivial⟩⟩
    rw [show (2 : Int32).toNatClampNeg = 2 from rfl, cA6_fr B _ c (r := 15) (by omega) (by omega) (by omega)]
    exact fee_n32 (rate_b2 I) _
  have nset2 : n_X0_settle (cA2 B i.toNatClampNeg c) i := by
    refine ⟨fun _ => trivial, fun _ => ⟨fun _ => ⟨⟨fun _ => trivial, fun _ => ⟨?_, fun _ => trivial, fun _ => trivial⟩⟩, trivial⟩, fun _ => trivial⟩⟩
    rw [show (2 : Int32).toNatClampNeg = 2 from rfl, cA2_fr B _ c (r := 15) (by omega) (by omega) (by omega)]
    exact fee_n32 (rate_b2 I) _
  refine ⟨?_, ⟨fun _ => trivial, fun _ => ⟨fun _ => ⟨fun _ => ⟨by rw [eA6]; exact nset6, trivial⟩, fun _ => trivial⟩, fun _ => ⟨fun _ => ⟨by rw [eA0, eip]; exact nset2, trivial⟩, fun _ => trivial⟩⟩⟩⟩
  unfold r_X0_collect z_X0_collect_1 cEnd
  rw [if_neg gn, e12, eA0, eip, e9', e12']
  rw [show up2 (cA0 B i.toNatClampNeg c) 16 3 (B 16 3 + c) = cA6 B i.toNatClampNeg c from rfl]
  by_cases s : B 11 i.toNatClampNeg = 1
  · rw [if_pos s, if_pos s]
    by_cases l : B 9 i.toNatClampNeg - (B 12 i.toNatClampNeg + c) = 0
    · rw [if_pos l, if_pos l]
      refine congrArg _ ?_
      unfold r_X0_settle z_X0_settle_1
      rw [if_neg (show ¬ (r_X3_has (cA6 B i.toNatClampNeg c) i = 0) by rw [hA6]; exact one_ne), st6, if_pos s, epo]
      have fr : ∀ r j, r ≠ 2 → ¬ (r = 16 ∧ (j = 3 ∨ j = 6)) → (if 0 < cRest B i.toNatClampNeg then cPas B i.toNatClampNeg (cA6 B i.toNatClampNeg c) else cA6 B i.toNatClampNeg c) r j = cA6 B i.toNatClampNeg c r j := by
        intro r j h1 h2
        split
        · unfold cPas
          rw [up2_at, if_neg (by omega), up2_at, if_neg (by omega), up2_at, if_neg (by omega)]
        · rfl
      refine set_eq ?_ ?_ ?_ ?_ hc.1 hc.2
      · rw [has3_sz ((fr 16 1 (by omega) (by omega)).trans (cA6_fr B _ c (by omega) (by omega) (by omega)))]; exact hh
      · rw [fr 8 _ (by omega) (by omega), cA6_fr B _ c (by omega) (by omega) (by omega)]
      · rw [fr 16 2 (by omega) (by omega), cA6_fr B _ c (by omega) (by omega) (by omega)]
      · rw [fr 10 _ (by omega) (by omega), cA6_fr B _ c (by omega) (by omega) (by omega)]
    · rw [if_neg l, if_neg l]
  · rw [if_neg s, if_neg s]
    by_cases l : B 9 i.toNatClampNeg - (B 12 i.toNatClampNeg + c) = 0
    · rw [if_pos l, if_pos l]
      refine congrArg _ ?_
      unfold r_X0_settle z_X0_settle_0
      rw [if_neg (show ¬ (r_X3_has (cA2 B i.toNatClampNeg c) i = 0) by rw [hA2]; exact one_ne), st2, if_neg s]
      refine set_eq hA2 ?_ ?_ ?_ hc.1 hc.2
      · rw [cA2_fr B _ c (by omega) (by omega) (by omega)]
      · rw [cA2_fr B _ c (by omega) (by omega) (by omega)]
      · rw [cA2_fr B _ c (by omega) (by omega) (by omega)]
    · rw [if_neg l, if_neg l]
