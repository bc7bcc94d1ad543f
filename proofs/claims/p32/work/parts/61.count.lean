theorem e_dues {n : Nat} {B : jB} (I : Inv n B) : r_X4_allDues B = sm B 1 (mN B) := e_allDues4 I
theorem e_ctState {n : Nat} {B : jB} (I : Inv n B) (a : Int32) : r_X3_countOfState B a = ct B a := by
  have hs := Inv_s I
  unfold r_X3_countOfState
  have z : (20 : Int32).toInt = 20 := rfl
  refine (loopB (L := L_X3_countOfState_4 B a) (g := fun k => if B 11 k = a then 1 else 0) (fin := fun a => a) (sz := B 16 1) (top := 20) (by decide) (by omega) ?_ ?_ ?_ _ 20 0 0 (by decide) (sz_toNat hs.1 hs.2) (by decide))
  · intro n b x hx; rw [L_X3_countOfState_4, if_pos hx]
  · intro n b x h0 h1 h2
    rw [L_X3_countOfState_4, if_neg (by rw [i_le]; omega), if_pos (has3_0 I h1)]
  · intro n b x h0 h1
    rw [L_X3_countOfState_4, if_neg (by rw [i_le]; omega), if_neg (by rw [has3_1 I h0 h1]; exact one_ne)]
    by_cases e : B 11 x.toNatClampNeg = a
    · rw [if_pos e, if_pos e]
    · rw [if_neg e, if_neg e, add_zero32]
theorem e_ctAhead {n : Nat} {B : jB} (I : Inv n B) (i : Int32) : r_X3_countOfMemberAhead B i = fs (fun k => if B 7 k = i then (if B 11 k = 1 then 1 else 0) else 0) 0 (sN B) 0 := by
  have hs := Inv_s I
  unfold r_X3_countOfMemberAhead
  have z : (20 : Int32).toInt = 20 := rfl
  refine (loopB (L := L_X3_countOfMemberAhead_4 B i) (g := fun k => if B 7 k = i then (if B 11 k = 1 then 1 else 0) else 0) (fin := fun a => a) (sz := B 16 1) (top := 20) (by decide) (by omega) ?_ ?_ ?_ _ 20 0 0 (by decide) (sz_toNat hs.1 hs.2) (by decide))
  · intro n a x hx; rw [L_X3_countOfMemberAhead_4, if_pos hx]
  · intro n a x h0 h1 h2
    rw [L_X3_countOfMemberAhead_4, if_neg (by rw [i_le]; omega), if_pos (has3_0 I h1)]
  · intro n a x h0 h1
    rw [L_X3_countOfMemberAhead_4, if_neg (by rw [i_le]; omega), if_neg (by rw [has3_1 I h0 h1]; exact one_ne)]
    by_cases e : B 7 x.toNatClampNeg = i
    · rw [if_pos e, if_pos e]
      by_cases f : B 11 x.toNatClampNeg = 1
      · rw [if_pos f, if_pos f]
      · rw [if_neg f, if_neg f, add_zero32]
    · rw [if_neg e, if_neg e, add_zero32]
theorem sum_ahead {n : Nat} {B : jB} (I : Inv n B) : fs (fun j => r_X3_countOfMemberAhead B (Int32.ofNat j)) 0 (mN B) 0 = ct B 1 := by
  have hm := Inv_m I
  have hmN : mN B ≤ 8 := by unfold mN; omega
  have e1 : fs (fun j => r_X3_countOfMemberAhead B (Int32.ofNat j)) 0 (mN B) 0 = fs (fun j => fs (fun k => if B 7 k = Int32.ofNat j then (if B 11 k = 1 then 1 else 0) else 0) 0 (sN B) 0) 0 (mN B) 0 := fs_congr _ _ _ (fun j _ _ => e_ctAhead I _)
  rw [e1, fs_swap]
  unfold ct
  refine fs_congr _ _ _ (fun k _ hk => ?_)
  have hk' : (k : Int) < (B 16 1).toInt := by unfold sN at hk; omega
  have ii := (Inv_i I hk').1
  have hq : (B 7 k).toInt.toNat < mN B := by unfold mN; omega
  refine Eq.trans (fs_congr _ _ _ (fun j _ hj => ?_)) (fs_one (q := (B 7 k).toInt.toNat) (if B 11 k = 1 then (1 : Int32) else 0) (mN B) hq)
  have ej : (Int32.ofNat j).toInt = j := an_toInt (by omega)
  by_cases e : j = (B 7 k).toInt.toNat
  · rw [if_pos e, if_pos (by rw [i_eq, ej]; omega)]
  · rw [if_neg e, if_neg (fun q => e (by rw [i_eq, ej] at q; omega))]
theorem fs_ones : ∀ c, fs (fun _ => 1) 0 c 0 = Int32.ofNat c
  | 0 => rfl
  | c + 1 => by rw [fs_s0, fs_ones c]; exact (Int32.ofNat_add c 1).symm
theorem sum_states {n : Nat} {B : jB} (I : Inv n B) : ct B 0 + ct B 1 + ct B 2 + ct B 3 = B 16 1 := by
  have hs := Inv_s I
  unfold ct
  rw [← fs_add, ← fs_add, ← fs_add]
  have e : fs (fun k => (if B 11 k = 0 then (1 : Int32) else 0) + (if B 11 k = 1 then 1 else 0) + (if B 11 k = 2 then 1 else 0) + (if B 11 k = 3 then 1 else 0)) 0 (sN B) 0 = fs (fun _ => 1) 0 (sN B) 0 := by
    refine fs_congr _ _ _ (fun k _ hk => ?_)
    have hk' : (k : Int) < (B 16 1).toInt := by unfold sN at hk; omega
    have ii := (Inv_i I hk').2.2.2.1
    rcases w4 ii.1 ii.2 with q | q | q | q <;> rw [q] <;> decide
  rw [e, fs_ones]
  unfold sN
  exact (an_of hs.1).symm
