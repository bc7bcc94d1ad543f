theorem rIg {M B : jB} (h : LB (M 0) B) {i w : Int32} (h0 : 0 ≤ i.toInt) (h1 : i.toInt < 20) (w0 : 0 ≤ w.toInt) (w1 : w.toInt ≤ 6) : M 0 (r_X8_of i w).toNatClampNeg = B (7 + w.toNatClampNeg) i.toNatClampNeg := by
  have a := nat_lt (n := 20) h0 h1
  have b : w.toNatClampNeg ≤ 6 := by rw [i_nat]; omega
  have e : (r_X8_of i w).toNatClampNeg = posOf (7 + w.toNatClampNeg) i.toNatClampNeg := by
    rw [of_pos h0 h1 w0 w1]; unfold posOf
    rw [if_neg (by omega), if_neg (by omega), if_pos (by omega)]; omega
  rw [e]
  exact LB_rd h (by unfold vld; omega)
theorem rMg {M B : jB} (h : LB (M 0) B) {i w : Int32} (h0 : 0 ≤ i.toInt) (h1 : i.toInt < 8) (w0 : 0 ≤ w.toInt) (w1 : w.toInt ≤ 3) : M 0 (r_X8_ofMember i w).toNatClampNeg = B w.toNatClampNeg i.toNatClampNeg := by
  have a := nat_lt (n := 8) h0 h1
  have b : w.toNatClampNeg ≤ 3 := by rw [i_nat]; omega
  have e : (r_X8_ofMember i w).toNatClampNeg = posOf w.toNatClampNeg i.toNatClampNeg := by
    rw [ofM_pos h0 h1 w0 w1]; unfold posOf
    rw [if_pos (by omega)]
  rw [e]
  exact LB_rd h (by unfold vld; omega)
theorem rCg {M B : jB} (h : LB (M 0) B) {i w : Int32} (h0 : 0 ≤ i.toInt) (h1 : i.toInt < 6) (w0 : 0 ≤ w.toInt) (w1 : w.toInt ≤ 2) : M 0 (r_X8_ofClient i w).toNatClampNeg = B (4 + w.toNatClampNeg) i.toNatClampNeg := by
  have a := nat_lt (n := 6) h0 h1
  have b : w.toNatClampNeg ≤ 2 := by rw [i_nat]; omega
  have e : (r_X8_ofClient i w).toNatClampNeg = posOf (4 + w.toNatClampNeg) i.toNatClampNeg := by
    rw [ofC_pos h0 h1 w0 w1]; unfold posOf
    rw [if_neg (by omega), if_pos (by omega)]; omega
  rw [e]
  exact LB_rd h (by unfold vld; omega)
/-- whether invoice k counts -/
def gI (B : jB) (by_ who lo hi : Int32) (k : Nat) : Int32 := if (by_ < 0 ∨ B (7 + by_.toNatClampNeg) k = who) ∧ lo.toInt ≤ (B 11 k).toInt ∧ (B 11 k).toInt ≤ hi.toInt then 1 else 0
theorem add_zero32 (a : Int32) : a + 0 = a := by grind
theorem e_invoices8 {n : Nat} {M B : jB} (h : LB (M 0) B) (I : Inv n B) (by_ who lo hi : Int32) (hb : by_ < 0 ∨ (0 ≤ by_.toInt ∧ by_.toInt ≤ 6)) : r_X8_invoices M by_ who lo hi = fs (gI B by_ who lo hi) 0 (B 16 1).toInt.toNat 0 := by
  have hs := Inv_s I
  unfold r_X8_invoices
  rw [rN9 h]
  have z : (0 : Int32).toInt = 0 := rfl
  refine loopA (L := L_X8_invoices_6 M by_ who lo hi) (g := gI B by_ who lo hi) (fin := fun a => a) (sz := B 16 1) (by omega) ?_ ?_ _ _ 0 0 (by decide) (sz_toNat hs.1 hs.2) (by omega)
  · intro n a x hx; rw [L_X8_invoices_6, rS9 h, if_pos hx]
  · intro n a x h0 h1
    rw [L_X8_invoices_6, rS9 h, if_neg (by rw [i_le]; omega), rI4 h h0 (by omega)]
    unfold gI
    by_cases hlt : by_ < 0
    · rw [if_pos hlt]
      rcases in_cases (B 11 x.toNatClampNeg) lo hi with c | c
      · rw [if_pos c.1, if_neg (fun q => c.2 q.2)]
      · rw [if_neg (show ¬ (r_X8_in (B 11 x.toNatClampNeg) lo hi = 0) by rw [c.1]; exact one_ne), if_pos ⟨Or.inl hlt, c.2⟩]
    · rw [if_neg hlt]
      obtain ⟨w0, w1⟩ := hb.resolve_left hlt
      rw [rIg h h0 (by omega) w0 w1]
      by_cases hw : B (7 + by_.toNatClampNeg) x.toNatClampNeg = who
      · rw [if_pos hw]
        rcases in_cases (B 11 x.toNatClampNeg) lo hi with c | c
        · rw [if_pos c.1, if_neg (fun q => c.2 q.2)]
        · rw [if_neg (show ¬ (r_X8_in (B 11 x.toNatClampNeg) lo hi = 0) by rw [c.1]; exact one_ne), if_pos ⟨Or.inr hw, c.2⟩]
      · rw [if_neg hw, if_neg (fun q => hw (q.1.resolve_left hlt))]
theorem st_k {n : Nat} {B : jB} (I : Inv n B) {k : Nat} (hk : k < (B 16 1).toInt.toNat) : 0 ≤ (B 11 k).toInt ∧ (B 11 k).toInt ≤ 3 := (Inv_i I (k := k) (by omega)).2.2.2.1
theorem e_countOfMember {n : Nat} {M B : jB} (h : LB (M 0) B) (I : Inv n B) (i : Int32) : r_X8_invoices M 0 i 0 3 = r_X3_countOfMember B i := by
  have hs := Inv_s I
  rw [e_invoices8 h I 0 i 0 3 (Or.inr ⟨by decide, by decide⟩)]
  unfold r_X3_countOfMember
  have z : (20 : Int32).toInt = 20 := rfl
  have z0 : (0 : Int32).toInt = 0 := rfl
  have z3 : (3 : Int32).toInt = 3 := rfl
  symm
  refine (loopB (L := L_X3_countOfMember_4 B i) (g := fun k => if B 7 k = i then 1 else 0) (fin := fun a => a) (sz := B 16 1) (top := 20) (by decide) (by omega) ?_ ?_ ?_ _ 20 0 0 (by decide) (sz_toNat hs.1 hs.2) (by decide)).trans (fs_congr _ _ _ ?_)
  · intro n a x hx; rw [L_X3_countOfMember_4, if_pos hx]
  · intro n a x h0 h1 h2
    rw [L_X3_countOfMember_4, if_neg (by rw [i_le]; omega), if_pos (has3_0 I h1)]
  · intro n a x h0 h1
    rw [L_X3_countOfMember_4, if_neg (by rw [i_le]; omega), if_neg (by rw [has3_1 I h0 h1]; exact one_ne)]
    by_cases e : B 7 x.toNatClampNeg = i
    · rw [if_pos e, if_pos e]
    · rw [if_neg e, if_neg e, add_zero32]
  · intro j _ hj
    have := st_k I (k := j) (by rw [tn0] at hj; omega)
    unfold gI
    rw [tn0, z0, z3]
    by_cases e : B 7 j = i
    · rw [if_pos e, if_pos ⟨Or.inr e, this⟩]
    · rw [if_neg e, if_neg (fun q => e (q.1.resolve_left (by decide)))]
theorem e_countOfMemberAhead {n : Nat} {M B : jB} (h : LB (M 0) B) (I : Inv n B) (i : Int32) : r_X8_invoices M 0 i 1 1 = r_X3_countOfMemberAhead B i := by
  have hs := Inv_s I
  rw [e_invoices8 h I 0 i 1 1 (Or.inr ⟨by decide, by decide⟩)]
  unfold r_X3_countOfMemberAhead
  have z : (20 : Int32).toInt = 20 := rfl
  have z1 : (1 : Int32).toInt = 1 := rfl
  symm
  refine (loopB (L := L_X3_countOfMemberAhead_4 B i) (g := fun k => if B 7 k = i then (if B 11 k = 1 then 1 else 0) else 0) (fin := fun a => a) (sz := B 16 1) (top := 20) (by decide) (by omega) ?_ ?_ ?_ _ 20 0 0 (by decide) (sz_toNat hs.1 hs.2) (by decide)).trans (fs_congr _ _ _ ?_)
  · intro n a x hx; rw [L_X3_countOfMemberAhead_4, if_pos hx]
  · intro n a x h0 h1 h2
    rw [L_X3_countOfMemberAhead_4, if_neg (by rw [i_le]; omega), if_pos (has3_0 I h1)]
  · intro n a x h0 h1
    rw [L_X3_countOfMemberAhead_4, if_neg (by rw [i_le]; omega), if_neg (by rw [has3_1 I h0 h1]; exact one_ne)]
    by_cases e : B 7 x.toNatClampNeg = i
    · rw [if_pos e, if_pos e]
      by_cases f : B 11 x.toNatClampNeg = 1
      · rw [if_pos f, if_pos f]
      · rw [if_neg f, if_neg f, add_zero32]
    · rw [if_neg e, if_neg e, add_zero32]
  · intro j _ hj
    unfold gI
    rw [tn0, z1]
    by_cases e : B 7 j = i
    · rw [if_pos e]
      by_cases f : B 11 j = 1
      · rw [if_pos f, if_pos ⟨Or.inr e, by rw [f]; decide⟩]
      · rw [if_neg f, if_neg (fun q => f (by rw [i_eq, z1]; omega))]
    · rw [if_neg e, if_neg (fun q => e (q.1.resolve_left (by decide)))]
theorem e_countOfClientUnsettled {n : Nat} {M B : jB} (h : LB (M 0) B) (I : Inv n B) (i : Int32) : r_X8_invoices M 1 i 0 1 = r_X3_countOfClientUnsettled B i := by
  have hs := Inv_s I
  rw [e_invoices8 h I 1 i 0 1 (Or.inr ⟨by decide, by decide⟩)]
  unfold r_X3_countOfClientUnsettled
  have z : (20 : Int32).toInt = 20 := rfl
  have z0 : (0 : Int32).toInt = 0 := rfl
  have z1 : (1 : Int32).toInt = 1 := rfl
  symm
  refine (loopB (L := L_X3_countOfClientUnsettled_4 B i) (g := fun k => if (B 11 k).toInt ≤ 1 then (if B 8 k = i then 1 else 0) else 0) (fin := fun a => a) (sz := B 16 1) (top := 20) (by decide) (by omega) ?_ ?_ ?_ _ 20 0 0 (by decide) (sz_toNat hs.1 hs.2) (by decide)).trans (fs_congr _ _ _ ?_)
  · intro n a x hx; rw [L_X3_countOfClientUnsettled_4, if_pos hx]
  · intro n a x h0 h1 h2
    have : r_X3_isUnsettled B x = 0 := by unfold r_X3_isUnsettled; rw [if_pos (has3_0 I h1)]
    rw [L_X3_countOfClientUnsettled_4, if_neg (by rw [i_le]; omega), if_pos this]
  · intro n a x h0 h1
    rw [L_X3_countOfClientUnsettled_4, if_neg (by rw [i_le]; omega)]
    rcases unset_cases I h0 h1 with q | q
    · rw [if_pos q.1, if_neg (by omega), add_zero32]
    · rw [if_neg (show ¬ (r_X3_isUnsettled B x = 0) by rw [q.1]; exact one_ne), if_pos q.2]
      by_cases e : B 8 x.toNatClampNeg = i
      · rw [if_pos e, if_pos e]
      · rw [if_neg e, if_neg e, add_zero32]
  · intro j _ hj
    have := st_k I (k := j) (by rw [tn0] at hj; omega)
    unfold gI
    rw [tn1, z0, z1]
    by_cases e : (B 11 j).toInt ≤ 1
    · rw [if_pos e]
      by_cases f : B 8 j = i
      · rw [if_pos f, if_pos ⟨Or.inr f, this.1, e⟩]
      · rw [if_neg f, if_neg (fun q => f (q.1.resolve_left (by decide)))]
    · rw [if_neg e, if_neg (fun q => e q.2.2)]
theorem e_countOfState {n : Nat} {M B : jB} (h : LB (M 0) B) (I : Inv n B) (a : Int32) : r_X8_invoices M (-1) 0 a a = r_X3_countOfState B a := by
  have hs := Inv_s I
  rw [e_invoices8 h I (-1) 0 a a (Or.inl (by decide))]
  unfold r_X3_countOfState
  have z : (20 : Int32).toInt = 20 := rfl
  symm
  refine (loopB (L := L_X3_countOfState_4 B a) (g := fun k => if B 11 k = a then 1 else 0) (fin := fun a => a) (sz := B 16 1) (top := 20) (by decide) (by omega) ?_ ?_ ?_ _ 20 0 0 (by decide) (sz_toNat hs.1 hs.2) (by decide)).trans (fs_congr _ _ _ ?_)
  · intro n b x hx; rw [L_X3_countOfState_4, if_pos hx]
  · intro n b x h0 h1 h2
    rw [L_X3_countOfState_4, if_neg (by rw [i_le]; omega), if_pos (has3_0 I h1)]
  · intro n b x h0 h1
    rw [L_X3_countOfState_4, if_neg (by rw [i_le]; omega), if_neg (by rw [has3_1 I h0 h1]; exact one_ne)]
    by_cases e : B 11 x.toNatClampNeg = a
    · rw [if_pos e, if_pos e]
    · rw [if_neg e, if_neg e, add_zero32]
  · intro j _ hj
    unfold gI
    by_cases e : B 11 j = a
    · rw [if_pos e, if_pos ⟨Or.inl (by decide), by rw [e]; omega⟩]
    · rw [if_neg e, if_neg (fun q => e (by rw [i_eq]; omega))]
theorem e_exposure {n : Nat} {M B : jB} (h : LB (M 0) B) (I : Inv n B) : r_X8_exposure M = (if r_X4_allDues B = 0 then r_X7_noNumber else FP.fdiv (FP.i2f (r_X3_advancesOut B)) (FP.i2f (r_X4_allDues B))) := by
  have hs := Inv_s I
  have z : (20 : Int32).toInt = 20 := rfl
  have z0 : (0 : Int32).toInt = 0 := rfl
  have ea : r_X3_advancesOut B = fs (fun k => if B 11 k = 1 then B 13 k else 0) 0 (B 16 1).toInt.toNat 0 := by
    unfold r_X3_advancesOut
    refine (loopB (L := L_X3_advancesOut_4 B) (g := fun k => if B 11 k = 1 then B 13 k else 0) (fin := fun a => a) (sz := B 16 1) (top := 20) (by decide) (by omega) ?_ ?_ ?_ _ 20 0 0 (by decide) (sz_toNat hs.1 hs.2) (by decide))
    · intro n b x hx; rw [L_X3_advancesOut_4, if_pos hx]
    · intro n b x h0 h1 h2
      rw [L_X3_advancesOut_4, if_neg (by rw [i_le]; omega), if_pos (has3_0 I h1)]
    · intro n b x h0 h1
      rw [L_X3_advancesOut_4, if_neg (by rw [i_le]; omega), if_neg (by rw [has3_1 I h0 h1]; exact one_ne)]
      by_cases e : B 11 x.toNatClampNeg = 1
      · rw [if_pos e, if_pos e]
      · rw [if_neg e, if_neg e, add_zero32]
  rw [ea]
  unfold r_X8_exposure
  rw [rN9 h]
  refine loopA (L := L_X8_exposure_4 M) (g := fun k => if B 11 k = 1 then B 13 k else 0) (fin := fun a => if r_X4_allDues B = 0 then r_X7_noNumber else FP.fdiv (FP.i2f a) (FP.i2f (r_X4_allDues B))) (sz := B 16 1) (by omega) ?_ ?_ _ _ 0 0 (by decide) (sz_toNat hs.1 hs.2) (by omega)
  · intro n a x hx; rw [L_X8_exposure_4, rS9 h, if_pos hx, e_allDues h I]; rfl
  · intro n a x h0 h1
    rw [L_X8_exposure_4, rS9 h, if_neg (by rw [i_le]; omega), rI4 h h0 (by omega), rI6 h h0 (by omega)]
    by_cases e : B 11 x.toNatClampNeg = 1
    · rw [if_pos e, if_pos e]
    · rw [if_neg e, if_neg e]
