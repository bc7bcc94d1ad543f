/-- jrep in one pass, where the places rise -/
def jmg : Nat → va_W → List Nat → va_W → va_W
  | k, c :: ws, i :: is, q :: w => cond (Nat.beq k i) (q :: jmg (k + 1) ws is w) (c :: jmg (k + 1) ws (i :: is) (q :: w))
  | _, ws, _, _ => ws
theorem jrep_nil : ∀ (is : List Nat) (w : va_W), jrep [] is w = []
  | [], w => by unfold jrep; rfl
  | i :: is, [] => by unfold jrep; rfl
  | i :: is, q :: w => by unfold jrep; exact jrep_nil is w
theorem jrep_cons (c : Nat × va_E) : ∀ (is : List Nat) (ws w : va_W), (∀ i ∈ is, 1 ≤ i) → jrep (c :: ws) is w = c :: jrep ws (is.map (fun i => i - 1)) w
  | [], ws, w, _ => by unfold jrep; rfl
  | i :: is, ws, [], _ => by unfold jrep; rfl
  | i :: is, ws, q :: w, h => by
    have h1 : 1 ≤ i := h i List.mem_cons_self
    obtain ⟨j, rfl⟩ : ∃ j, i = j + 1 := ⟨i - 1, by omega⟩
    show jrep ((c :: ws).set (j + 1) q) is w = c :: jrep (ws.set (j + 1 - 1) q) (is.map (fun i => i - 1)) w
    rw [List.set_cons_succ, Nat.add_sub_cancel]
    exact jrep_cons c is (ws.set j q) w (fun i hi => h i (List.mem_cons_of_mem _ hi))
theorem jmg_eq : ∀ (ws : va_W) (k : Nat) (is : List Nat) (w : va_W), (∀ i ∈ is, k ≤ i) → is.Pairwise (· < ·) → jmg k ws is w = jrep ws (is.map (fun i => i - k)) w
  | [], k, is, w, _, _ => by
    rw [jrep_nil]
    unfold jmg
    rfl
  | c :: ws, k, [], w, _, _ => by unfold jmg jrep; rfl
  | c :: ws, k, i :: is, [], _, _ => by unfold jmg jrep; rfl
  | c :: ws, k, i :: is, q :: w, h, hp => by
    have hp1 := List.pairwise_cons.mp hp
    have hi : k ≤ i := h i List.mem_cons_self
    unfold jmg
    cases hb : Nat.beq k i with
    | true =>
      have e : k = i := Nat.eq_of_beq_eq_true hb
      subst e
      rw [cond_true, jmg_eq ws (k + 1) is w (fun j hj => hp1.1 j hj) hp1.2]
      show _ = jrep ((c :: ws).set (k - k) q) (is.map (fun i => i - k)) w
      rw [Nat.sub_self, List.set_cons_zero, jrep_cons q _ ws w (fun j hj => by
        obtain ⟨a, ha, rfl⟩ := List.mem_map.mp hj
        have := hp1.1 a ha
        omega), List.map_map]
      rfl
    | false =>
      have e : k ≠ i := fun z => by rw [z, Nat.beq_refl] at hb; cases hb
      rw [cond_false, jmg_eq ws (k + 1) (i :: is) (q :: w) (fun j hj => by
        rcases List.mem_cons.mp hj with rfl | z
        · omega
        · have := hp1.1 j z; omega) hp, jrep_cons c ((i :: is).map (fun i => i - k)) ws (q :: w) (fun j hj => by
        obtain ⟨a, ha, rfl⟩ := List.mem_map.mp hj
        rcases List.mem_cons.mp ha with rfl | z
        · omega
        · have := hp1.1 a z; omega), List.map_map]
      rfl
theorem jrep_mg {ws w r : va_W} {is : List Nat} (hp : is.Pairwise (· < ·)) (h : jmg 0 ws is w = r) : jrep ws is w = r := by
  rw [← h, jmg_eq ws 0 is w (fun _ _ => Nat.zero_le _) hp]
  congr 1
  exact (List.map_id' is).symm
theorem vin_c {i : Int32} {n : Nat} (h : decide (¬ (i < 0 ∨ n ≤ i.toNatClampNeg)) = true) : vp_in i n := by
  unfold vp_in
  exact of_decide_eq_true h
theorem iinc_1 (x : Int32) : x + Int32.ofInt 1 = x + (1 : Int32) := rfl
theorem tab_ne {x c : Int32} (h : ¬ x = c) (v : Int) (hv : c.toInt = v) : x.toInt ≠ v := fun z => h (Int32.toInt_inj.mp (z.trans hv.symm))
theorem jms {N i : Int32} {n : Nat} (h : ¬ N ≤ i) (hm : (N.toInt - i.toInt).toNat < n + 1) : (N.toInt - (i + 1).toInt).toNat < n := by
  have h1 : i < N := Int32.not_le.mp h
  have h2 : i.toInt < N.toInt := Int32.lt_iff_toInt_lt.mp h1
  have h3 : N.toInt ≤ 2147483647 := Int32.toInt_le N
  have h4 : -2147483648 ≤ i.toInt := Int32.le_toInt i
  have h5 : (i + 1).toInt = i.toInt + 1 := by
    rw [Int32.toInt_add]
    rw [show (1 : Int32).toInt = 1 from rfl]
    rw [Int.bmod_eq_of_le] <;> omega
  omega
theorem jms' {N i : Int32} {n : Nat} (h : i < N) (hm : (N.toInt - i.toInt).toNat < n + 1) : (N.toInt - (i + 1).toInt).toNat < n := jms (Int32.not_le.mpr h) hm
theorem i_succ {N i : Int32} (h : i < N) : (i + 1).toInt = i.toInt + 1 := by
  have h2 : i.toInt < N.toInt := Int32.lt_iff_toInt_lt.mp h
  have h3 : N.toInt ≤ 2147483647 := Int32.toInt_le N
  have h4 : -2147483648 ≤ i.toInt := Int32.le_toInt i
  rw [Int32.toInt_add]
  rw [show (1 : Int32).toInt = 1 from rfl]
  rw [Int.bmod_eq_of_le] <;> omega
/-- a counter stays at or above 0 -/
theorem i_pos {N i : Int32} (h : i < N) (h0 : 0 ≤ i) : 0 ≤ i + 1 := by
  have h1 := i_succ h
  have h2 : (0 : Int32).toInt ≤ i.toInt := Int32.le_iff_toInt_le.mp h0
  refine Int32.le_iff_toInt_le.mpr ?_
  rw [h1]
  have : (0 : Int32).toInt = 0 := rfl
  omega
theorem vin_lt {i : Int32} {n : Nat} (N : Int32) (hN : N.toInt = n) (h0 : 0 ≤ i) (h1 : i < N) : vp_in i n := by
  refine vp_in_iff.mpr ⟨?_, ?_⟩
  · have := Int32.le_iff_toInt_le.mp h0
    have e : (0 : Int32).toInt = 0 := rfl
    omega
  · have := Int32.lt_iff_toInt_lt.mp h1
    omega
theorem vf_row (B : jB) (r k j : Nat) (v : UInt32) : (vf_upd (fun k => (B r k).toUInt32) k v) j = (up2 B r k v.toInt32 r j).toUInt32 := by
  show _ = ((cond (Nat.beq r r) (upd (B r) k v.toInt32) (B r)) j).toUInt32
  rw [Nat.beq_refl]
  show (if j = k then v else (B r j).toUInt32) = (if j = k then v.toInt32 else B r j).toUInt32
  by_cases h : j = k
  · rw [if_pos h, if_pos h]
    rfl
  · rw [if_neg h, if_neg h]
theorem vf_row3 (K : Nat → jB) (b r k j : Nat) (v : UInt32) : (vf_upd (fun k => (K b r k).toUInt32) k v) j = (up3 K b r k v.toInt32 b r j).toUInt32 := by
  show _ = ((cond (Nat.beq b b) (up2 (K b) r k v.toInt32) (K b)) r j).toUInt32
  rw [Nat.beq_refl]
  exact vf_row (K b) r k j v
theorem jD_i {r : Int32 × jB} {a : Int32} {b : jB} (e : r = (a, b)) (W : jB → va_W) : jD (some (.int r.1)) (W r.2) (some (.int a)) (W b) := by
  subst e
  exact ⟨rfl, rfl⟩
theorem jD_k {r : Int32 × (Nat → jB)} {a : Int32} {b : Nat → jB} (e : r = (a, b)) (W : (Nat → jB) → va_W) : jD (some (.int r.1)) (W r.2) (some (.int a)) (W b) := by
  subst e
  exact ⟨rfl, rfl⟩
theorem j_sti {l : Launch} {R : Room} {D : va_G} {nL : Nat} {X : jX} {k n pc : Nat} {ws : va_W} {lv : jLv} {st : List Value} {x y : Int32} (h : x = y) (h1 : J l R D nL X k n ws lv (.int y :: st) pc) : J l R D nL X k n ws lv (.int x :: st) pc := h ▸ h1
theorem j_stf {l : Launch} {R : Room} {D : va_G} {nL : Nat} {X : jX} {k n pc : Nat} {ws : va_W} {lv : jLv} {st : List Value} {x y : Int32} (h : x = y) (h1 : J l R D nL X k n ws lv (.float y.toUInt32 :: st) pc) : J l R D nL X k n ws lv (.float x.toUInt32 :: st) pc := h ▸ h1
theorem hcl_X0 : ∀ r, vwCl[0]? = some r → r.1 = RX0 := fun r h => by cases h; rfl
theorem hcl_X1 : ∀ r, vwCl[1]? = some r → r.1 = RX1 := fun r h => by cases h; rfl
theorem hcl_X2 : ∀ r, vwCl[2]? = some r → r.1 = RX2 := fun r h => by cases h; rfl
theorem hcl_X3 : ∀ r, vwCl[3]? = some r → r.1 = RX3 := fun r h => by cases h; rfl
theorem hcl_X4 : ∀ r, vwCl[4]? = some r → r.1 = RX4 := fun r h => by cases h; rfl
theorem hcl_X5 : ∀ r, vwCl[5]? = some r → r.1 = RX5 := fun r h => by cases h; rfl
theorem hcl_X6 : ∀ r, vwCl[6]? = some r → r.1 = RX6 := fun r h => by cases h; rfl
theorem hcl_X7 : ∀ r, vwCl[7]? = some r → r.1 = RX7 := fun r h => by cases h; rfl
section TB
variable {l : Launch} {R : Room} {D : va_G} {ca : Nat → ClassId} {nL : Nat} {X : jX} {cc : ByteArray} {y0 : MethodName} {ret0 : Option FieldType} {k n pc : Nat} {ws w0 : va_W} {lv : jLv} {st As rest : List Value} {idx na fr loc maxL b : Nat} {y : MethodName} {cb : ByteArray} {ret : Option FieldType}
theorem j_tabEq (C : jK l R D ca nL X cc y0 ret0) {x c : Int32} {dflt lo hi : Int} {offs : Array Int} {len : Nat} {tgt : Nat} (hx : x = c) (hd : decode cc pc = .ok (.tableswitch dflt lo hi offs, len)) (h1 : ¬ c.toInt < lo) (h2 : ¬ hi < c.toInt) {off : Int} (ho : offs[(c.toInt - lo).toNat]? = some off) (ht : (pc : Int) + off = (tgt : Int)) (h : J l R D nL X k n ws lv st tgt) : J l R D nL X k n ws lv (.int x :: st) pc := by
  subst hx
  exact j_tabIn C hd h1 h2 ho ht h
theorem j_all : ∀ (ws : va_W), (List.range ws.length).map (fun i => ws[i]?) = ws.map some := by
  intro ws
  apply List.ext_getElem?
  intro i
  rw [List.getElem?_map, List.getElem?_map]
  by_cases h : i < ws.length
  · rw [List.getElem?_range h]
    simp [h]
  · rw [List.getElem?_eq_none (by simpa using h), List.getElem?_eq_none (by simpa using h)]
    rfl
theorem va_nd_range (n : Nat) : va_nd (List.range n) = true := by
  have key : ∀ l : List Nat, l.Nodup → va_nd l = true := by
    intro l h
    induction h with
    | nil => rfl
    | cons h1 _ ih =>
      unfold va_nd
      rw [ih, Bool.and_true, decide_eq_true_eq]
      exact fun z => h1 _ z rfl
  exact key _ List.nodup_range
theorem jrep_all {ws w1 : va_W} (h : w1.length = ws.length) : jrep ws (List.range ws.length) w1 = w1 := by
  apply List.ext_getElem?
  intro i
  cases hq : (jrep ws (List.range ws.length) w1)[i]? with
  | none =>
    have h1 := List.getElem?_eq_none_iff.mp hq
    rw [jrep_len] at h1
    exact (List.getElem?_eq_none (by omega)).symm
  | some q =>
    rcases jrep_get _ ws w1 (by simp [h]) (va_nd_range _) i q hq with ⟨j, h1, h2⟩ | ⟨h1, h2⟩
    · have hj := (List.getElem?_eq_some_iff.mp h1)
      obtain ⟨a, b⟩ := hj
      rw [List.getElem_range] at b
      subst b
      exact h2.symm
    · have hl := (List.getElem?_eq_some_iff.mp h2).1
      exact absurd (List.mem_range.mpr hl) h1
theorem j_callViW (C : jK l R D ca nL X cc y0 ret0) {r : Int32} {w1 : va_W} (G : jGV y0.cls idx y cb maxL ret na) (hM : jM l D ca y cb maxL ret fr loc 0 0 (.ref b :: As) ws (jD (some (.int r)) w1)) (q0 : Nat) {ci : Nat} {fs : List Value} (hq : ws[q0]? = some (b, .inr (ci, fs))) (hcl : ∀ r, vwCl[ci]? = some r → r.1 = y.cls) (hR : fr + 1 ≤ R.frames ∧ 8 + (maxL + 11) + loc ≤ R.locals) (hkn : k ≤ R.cells ∧ n ≤ R.slots) (hAs : As.length = na) (hst : st = As.reverse ++ .ref b :: rest) (hcat : (rest.map fun v => v.category).sum ≤ 8) (hd : decode cc pc = .ok (.invokevirtual idx, 3)) (hw : w1.map Prod.fst = ws.map Prod.fst) (kk : J l R D nL X k n w1 lv (.int r :: rest) (pc + 3)) : J l R D nL X k n ws lv st pc := by
  refine j_callVi C G hM q0 hq hcl hR hkn (List.range ws.length) (j_all ws) (va_nd_range _) hAs hst hcat hd hw ?_
  rw [jrep_all (by have h9 := congrArg List.length hw; simpa using h9)]
  exact kk
theorem j_callViRW (C : jK l R D ca nL X cc y0 ret0) {r : Int32} (G : jGV y0.cls idx y cb maxL ret na) (hM : jM l D ca y cb maxL ret fr loc 0 0 (.ref b :: As) ws (jD (some (.int r)) ws)) (q0 : Nat) {ci : Nat} {fs : List Value} (hq : ws[q0]? = some (b, .inr (ci, fs))) (hcl : ∀ r, vwCl[ci]? = some r → r.1 = y.cls) (hR : fr + 1 ≤ R.frames ∧ 8 + (maxL + 11) + loc ≤ R.locals) (hkn : k ≤ R.cells ∧ n ≤ R.slots) (hAs : As.length = na) (hst : st = As.reverse ++ .ref b :: rest) (hcat : (rest.map fun v => v.category).sum ≤ 8) (hd : decode cc pc = .ok (.invokevirtual idx, 3)) (kk : J l R D nL X k n ws lv (.int r :: rest) (pc + 3)) : J l R D nL X k n ws lv st pc := by
  exact j_callViR C G hM q0 hq hcl hR hkn (List.range ws.length) (j_all ws) (va_nd_range _) hAs hst hcat hd kk
theorem j_callVfW (C : jK l R D ca nL X cc y0 ret0) {r : UInt32} {w1 : va_W} (G : jGV y0.cls idx y cb maxL ret na) (hM : jM l D ca y cb maxL ret fr loc 0 0 (.ref b :: As) ws (jD (some (.float r)) w1)) (q0 : Nat) {ci : Nat} {fs : List Value} (hq : ws[q0]? = some (b, .inr (ci, fs))) (hcl : ∀ r, vwCl[ci]? = some r → r.1 = y.cls) (hR : fr + 1 ≤ R.frames ∧ 8 + (maxL + 11) + loc ≤ R.locals) (hkn : k ≤ R.cells ∧ n ≤ R.slots) (hAs : As.length = na) (hst : st = As.reverse ++ .ref b :: rest) (hcat : (rest.map fun v => v.category).sum ≤ 8) (hd : decode cc pc = .ok (.invokevirtual idx, 3)) (hw : w1.map Prod.fst = ws.map Prod.fst) (kk : J l R D nL X k n w1 lv (.float r :: rest) (pc + 3)) : J l R D nL X k n ws lv st pc := by
  refine j_callVf C G hM q0 hq hcl hR hkn (List.range ws.length) (j_all ws) (va_nd_range _) hAs hst hcat hd hw ?_
  rw [jrep_all (by have h9 := congrArg List.length hw; simpa using h9)]
  exact kk
theorem j_callVfRW (C : jK l R D ca nL X cc y0 ret0) {r : UInt32} (G : jGV y0.cls idx y cb maxL ret na) (hM : jM l D ca y cb maxL ret fr loc 0 0 (.ref b :: As) ws (jD (some (.float r)) ws)) (q0 : Nat) {ci : Nat} {fs : List Value} (hq : ws[q0]? = some (b, .inr (ci, fs))) (hcl : ∀ r, vwCl[ci]? = some r → r.1 = y.cls) (hR : fr + 1 ≤ R.frames ∧ 8 + (maxL + 11) + loc ≤ R.locals) (hkn : k ≤ R.cells ∧ n ≤ R.slots) (hAs : As.length = na) (hst : st = As.reverse ++ .ref b :: rest) (hcat : (rest.map fun v => v.category).sum ≤ 8) (hd : decode cc pc = .ok (.invokevirtual idx, 3)) (kk : J l R D nL X k n ws lv (.float r :: rest) (pc + 3)) : J l R D nL X k n ws lv st pc := by
  exact j_callVfR C G hM q0 hq hcl hR hkn (List.range ws.length) (j_all ws) (va_nd_range _) hAs hst hcat hd kk
theorem j_callVvW (C : jK l R D ca nL X cc y0 ret0)  {w1 : va_W} (G : jGV y0.cls idx y cb maxL ret na) (hM : jM l D ca y cb maxL ret fr loc 0 0 (.ref b :: As) ws (jD none w1)) (q0 : Nat) {ci : Nat} {fs : List Value} (hq : ws[q0]? = some (b, .inr (ci, fs))) (hcl : ∀ r, vwCl[ci]? = some r → r.1 = y.cls) (hR : fr + 1 ≤ R.frames ∧ 8 + (maxL + 11) + loc ≤ R.locals) (hkn : k ≤ R.cells ∧ n ≤ R.slots) (hAs : As.length = na) (hst : st = As.reverse ++ .ref b :: rest) (hcat : (rest.map fun v => v.category).sum ≤ 8) (hd : decode cc pc = .ok (.invokevirtual idx, 3)) (hw : w1.map Prod.fst = ws.map Prod.fst) (kk : J l R D nL X k n w1 lv (rest) (pc + 3)) : J l R D nL X k n ws lv st pc := by
  refine j_callVv C G hM q0 hq hcl hR hkn (List.range ws.length) (j_all ws) (va_nd_range _) hAs hst hcat hd hw ?_
  rw [jrep_all (by have h9 := congrArg List.length hw; simpa using h9)]
  exact kk
theorem j_callVvRW (C : jK l R D ca nL X cc y0 ret0)  (G : jGV y0.cls idx y cb maxL ret na) (hM : jM l D ca y cb maxL ret fr loc 0 0 (.ref b :: As) ws (jD none ws)) (q0 : Nat) {ci : Nat} {fs : List Value} (hq : ws[q0]? = some (b, .inr (ci, fs))) (hcl : ∀ r, vwCl[ci]? = some r → r.1 = y.cls) (hR : fr + 1 ≤ R.frames ∧ 8 + (maxL + 11) + loc ≤ R.locals) (hkn : k ≤ R.cells ∧ n ≤ R.slots) (hAs : As.length = na) (hst : st = As.reverse ++ .ref b :: rest) (hcat : (rest.map fun v => v.category).sum ≤ 8) (hd : decode cc pc = .ok (.invokevirtual idx, 3)) (kk : J l R D nL X k n ws lv (rest) (pc + 3)) : J l R D nL X k n ws lv st pc := by
  exact j_callVvR C G hM q0 hq hcl hR hkn (List.range ws.length) (j_all ws) (va_nd_range _) hAs hst hcat hd kk
theorem j_callVaW (C : jK l R D ca nL X cc y0 ret0) {r : Value} {w1 : va_W} (G : jGV y0.cls idx y cb maxL ret na) (hM : jM l D ca y cb maxL ret fr loc 0 0 (.ref b :: As) ws (jD (some r) w1)) (q0 : Nat) {ci : Nat} {fs : List Value} (hq : ws[q0]? = some (b, .inr (ci, fs))) (hcl : ∀ r, vwCl[ci]? = some r → r.1 = y.cls) (hR : fr + 1 ≤ R.frames ∧ 8 + (maxL + 11) + loc ≤ R.locals) (hkn : k ≤ R.cells ∧ n ≤ R.slots) (hAs : As.length = na) (hst : st = As.reverse ++ .ref b :: rest) (hcat : (rest.map fun v => v.category).sum ≤ 8) (hd : decode cc pc = .ok (.invokevirtual idx, 3)) (hw : w1.map Prod.fst = ws.map Prod.fst) (kk : J l R D nL X k n w1 lv (r :: rest) (pc + 3)) : J l R D nL X k n ws lv st pc := by
  refine j_callVa C G hM q0 hq hcl hR hkn (List.range ws.length) (j_all ws) (va_nd_range _) hAs hst hcat hd hw ?_
  rw [jrep_all (by have h9 := congrArg List.length hw; simpa using h9)]
  exact kk
theorem j_callVaRW (C : jK l R D ca nL X cc y0 ret0) {r : Value} (G : jGV y0.cls idx y cb maxL ret na) (hM : jM l D ca y cb maxL ret fr loc 0 0 (.ref b :: As) ws (jD (some r) ws)) (q0 : Nat) {ci : Nat} {fs : List Value} (hq : ws[q0]? = some (b, .inr (ci, fs))) (hcl : ∀ r, vwCl[ci]? = some r → r.1 = y.cls) (hR : fr + 1 ≤ R.frames ∧ 8 + (maxL + 11) + loc ≤ R.locals) (hkn : k ≤ R.cells ∧ n ≤ R.slots) (hAs : As.length = na) (hst : st = As.reverse ++ .ref b :: rest) (hcat : (rest.map fun v => v.category).sum ≤ 8) (hd : decode cc pc = .ok (.invokevirtual idx, 3)) (kk : J l R D nL X k n ws lv (r :: rest) (pc + 3)) : J l R D nL X k n ws lv st pc := by
  exact j_callVaR C G hM q0 hq hcl hR hkn (List.range ws.length) (j_all ws) (va_nd_range _) hAs hst hcat hd kk
theorem j_callSiW (C : jK l R D ca nL X cc y0 ret0) {r : Int32} {w1 : va_W} (G : jGS y0.cls idx y cb maxL ret na) (hM : jM l D ca y cb maxL ret fr loc 0 0 As ws (jD (some (.int r)) w1)) (hR : fr + 1 ≤ R.frames ∧ 8 + (maxL + 11) + loc ≤ R.locals) (hkn : k ≤ R.cells ∧ n ≤ R.slots) (hAs : As.length = na) (hst : st = As.reverse ++ rest) (hcat : (rest.map fun v => v.category).sum ≤ 8) (hd : decode cc pc = .ok (.invokestatic idx, 3)) (hw : w1.map Prod.fst = ws.map Prod.fst) (kk : J l R D nL X k n w1 lv (.int r :: rest) (pc + 3)) : J l R D nL X k n ws lv st pc := by
  refine j_callSi C G hM hR hkn (List.range ws.length) (j_all ws) (va_nd_range _) hAs hst hcat hd hw ?_
  rw [jrep_all (by have h9 := congrArg List.length hw; simpa using h9)]
  exact kk
theorem j_callSiRW (C : jK l R D ca nL X cc y0 ret0) {r : Int32} (G : jGS y0.cls idx y cb maxL ret na) (hM : jM l D ca y cb maxL ret fr loc 0 0 As ws (jD (some (.int r)) ws)) (hR : fr + 1 ≤ R.frames ∧ 8 + (maxL + 11) + loc ≤ R.locals) (hkn : k ≤ R.cells ∧ n ≤ R.slots) (hAs : As.length = na) (hst : st = As.reverse ++ rest) (hcat : (rest.map fun v => v.category).sum ≤ 8) (hd : decode cc pc = .ok (.invokestatic idx, 3)) (kk : J l R D nL X k n ws lv (.int r :: rest) (pc + 3)) : J l R D nL X k n ws lv st pc := by
  exact j_callSiR C G hM hR hkn (List.range ws.length) (j_all ws) (va_nd_range _) hAs hst hcat hd kk
theorem j_callSfW (C : jK l R D ca nL X cc y0 ret0) {r : UInt32} {w1 : va_W} (G : jGS y0.cls idx y cb maxL ret na) (hM : jM l D ca y cb maxL ret fr loc 0 0 As ws (jD (some (.float r)) w1)) (hR : fr + 1 ≤ R.frames ∧ 8 + (maxL + 11) + loc ≤ R.locals) (hkn : k ≤ R.cells ∧ n ≤ R.slots) (hAs : As.length = na) (hst : st = As.reverse ++ rest) (hcat : (rest.map fun v => v.category).sum ≤ 8) (hd : decode cc pc = .ok (.invokestatic idx, 3)) (hw : w1.map Prod.fst = ws.map Prod.fst) (kk : J l R D nL X k n w1 lv (.float r :: rest) (pc + 3)) : J l R D nL X k n ws lv st pc := by
  refine j_callSf C G hM hR hkn (List.range ws.length) (j_all ws) (va_nd_range _) hAs hst hcat hd hw ?_
  rw [jrep_all (by have h9 := congrArg List.length hw; simpa using h9)]
  exact kk
theorem j_callSfRW (C : jK l R D ca nL X cc y0 ret0) {r : UInt32} (G : jGS y0.cls idx y cb maxL ret na) (hM : jM l D ca y cb maxL ret fr loc 0 0 As ws (jD (some (.float r)) ws)) (hR : fr + 1 ≤ R.frames ∧ 8 + (maxL + 11) + loc ≤ R.locals) (hkn : k ≤ R.cells ∧ n ≤ R.slots) (hAs : As.length = na) (hst : st = As.reverse ++ rest) (hcat : (rest.map fun v => v.category).sum ≤ 8) (hd : decode cc pc = .ok (.invokestatic idx, 3)) (kk : J l R D nL X k n ws lv (.float r :: rest) (pc + 3)) : J l R D nL X k n ws lv st pc := by
  exact j_callSfR C G hM hR hkn (List.range ws.length) (j_all ws) (va_nd_range _) hAs hst hcat hd kk
theorem j_callSvW (C : jK l R D ca nL X cc y0 ret0)  {w1 : va_W} (G : jGS y0.cls idx y cb maxL ret na) (hM : jM l D ca y cb maxL ret fr loc 0 0 As ws (jD none w1)) (hR : fr + 1 ≤ R.frames ∧ 8 + (maxL + 11) + loc ≤ R.locals) (hkn : k ≤ R.cells ∧ n ≤ R.slots) (hAs : As.length = na) (hst : st = As.reverse ++ rest) (hcat : (rest.map fun v => v.category).sum ≤ 8) (hd : decode cc pc = .ok (.invokestatic idx, 3)) (hw : w1.map Prod.fst = ws.map Prod.fst) (kk : J l R D nL X k n w1 lv (rest) (pc + 3)) : J l R D nL X k n ws lv st pc := by
  refine j_callSv C G hM hR hkn (List.range ws.length) (j_all ws) (va_nd_range _) hAs hst hcat hd hw ?_
  rw [jrep_all (by have h9 := congrArg List.length hw; simpa using h9)]
  exact kk
theorem j_callSvRW (C : jK l R D ca nL X cc y0 ret0)  (G : jGS y0.cls idx y cb maxL ret na) (hM : jM l D ca y cb maxL ret fr loc 0 0 As ws (jD none ws)) (hR : fr + 1 ≤ R.frames ∧ 8 + (maxL + 11) + loc ≤ R.locals) (hkn : k ≤ R.cells ∧ n ≤ R.slots) (hAs : As.length = na) (hst : st = As.reverse ++ rest) (hcat : (rest.map fun v => v.category).sum ≤ 8) (hd : decode cc pc = .ok (.invokestatic idx, 3)) (kk : J l R D nL X k n ws lv (rest) (pc + 3)) : J l R D nL X k n ws lv st pc := by
  exact j_callSvR C G hM hR hkn (List.range ws.length) (j_all ws) (va_nd_range _) hAs hst hcat hd kk
theorem j_callSNiW (C : jK l R D ca nL X cc y0 ret0) {r : Int32} {w1 : va_W} {host : String} (G : jGSN y0.cls idx y host cb maxL ret na) (hM : jM l D ca y cb maxL ret fr loc 0 0 As ws (jD (some (.int r)) w1)) (hR : fr + 1 ≤ R.frames ∧ 8 + (maxL + 11) + loc ≤ R.locals) (hkn : k ≤ R.cells ∧ n ≤ R.slots) (hAs : As.length = na) (hst : st = As.reverse ++ rest) (hcat : (rest.map fun v => v.category).sum ≤ 8) (hd : decode cc pc = .ok (.invokestatic idx, 3)) (hw : w1.map Prod.fst = ws.map Prod.fst) (kk : J l R D nL X k n w1 lv (.int r :: rest) (pc + 3)) : J l R D nL X k n ws lv st pc := by
  refine j_callSNi C G hM hR hkn (List.range ws.length) (j_all ws) (va_nd_range _) hAs hst hcat hd hw ?_
  rw [jrep_all (by have h9 := congrArg List.length hw; simpa using h9)]
  exact kk
theorem j_callSNiRW (C : jK l R D ca nL X cc y0 ret0) {r : Int32} {host : String} (G : jGSN y0.cls idx y host cb maxL ret na) (hM : jM l D ca y cb maxL ret fr loc 0 0 As ws (jD (some (.int r)) ws)) (hR : fr + 1 ≤ R.frames ∧ 8 + (maxL + 11) + loc ≤ R.locals) (hkn : k ≤ R.cells ∧ n ≤ R.slots) (hAs : As.length = na) (hst : st = As.reverse ++ rest) (hcat : (rest.map fun v => v.category).sum ≤ 8) (hd : decode cc pc = .ok (.invokestatic idx, 3)) (kk : J l R D nL X k n ws lv (.int r :: rest) (pc + 3)) : J l R D nL X k n ws lv st pc := by
  exact j_callSNiR C G hM hR hkn (List.range ws.length) (j_all ws) (va_nd_range _) hAs hst hcat hd kk
theorem j_callSNfW (C : jK l R D ca nL X cc y0 ret0) {r : UInt32} {w1 : va_W} {host : String} (G : jGSN y0.cls idx y host cb maxL ret na) (hM : jM l D ca y cb maxL ret fr loc 0 0 As ws (jD (some (.float r)) w1)) (hR : fr + 1 ≤ R.frames ∧ 8 + (maxL + 11) + loc ≤ R.locals) (hkn : k ≤ R.cells ∧ n ≤ R.slots) (hAs : As.length = na) (hst : st = As.reverse ++ rest) (hcat : (rest.map fun v => v.category).sum ≤ 8) (hd : decode cc pc = .ok (.invokestatic idx, 3)) (hw : w1.map Prod.fst = ws.map Prod.fst) (kk : J l R D nL X k n w1 lv (.float r :: rest) (pc + 3)) : J l R D nL X k n ws lv st pc := by
  refine j_callSNf C G hM hR hkn (List.range ws.length) (j_all ws) (va_nd_range _) hAs hst hcat hd hw ?_
  rw [jrep_all (by have h9 := congrArg List.length hw; simpa using h9)]
  exact kk
theorem j_callSNfRW (C : jK l R D ca nL X cc y0 ret0) {r : UInt32} {host : String} (G : jGSN y0.cls idx y host cb maxL ret na) (hM : jM l D ca y cb maxL ret fr loc 0 0 As ws (jD (some (.float r)) ws)) (hR : fr + 1 ≤ R.frames ∧ 8 + (maxL + 11) + loc ≤ R.locals) (hkn : k ≤ R.cells ∧ n ≤ R.slots) (hAs : As.length = na) (hst : st = As.reverse ++ rest) (hcat : (rest.map fun v => v.category).sum ≤ 8) (hd : decode cc pc = .ok (.invokestatic idx, 3)) (kk : J l R D nL X k n ws lv (.float r :: rest) (pc + 3)) : J l R D nL X k n ws lv st pc := by
  exact j_callSNfR C G hM hR hkn (List.range ws.length) (j_all ws) (va_nd_range _) hAs hst hcat hd kk
theorem j_callSNvW (C : jK l R D ca nL X cc y0 ret0)  {w1 : va_W} {host : String} (G : jGSN y0.cls idx y host cb maxL ret na) (hM : jM l D ca y cb maxL ret fr loc 0 0 As ws (jD none w1)) (hR : fr + 1 ≤ R.frames ∧ 8 + (maxL + 11) + loc ≤ R.locals) (hkn : k ≤ R.cells ∧ n ≤ R.slots) (hAs : As.length = na) (hst : st = As.reverse ++ rest) (hcat : (rest.map fun v => v.category).sum ≤ 8) (hd : decode cc pc = .ok (.invokestatic idx, 3)) (hw : w1.map Prod.fst = ws.map Prod.fst) (kk : J l R D nL X k n w1 lv (rest) (pc + 3)) : J l R D nL X k n ws lv st pc := by
  refine j_callSNv C G hM hR hkn (List.range ws.length) (j_all ws) (va_nd_range _) hAs hst hcat hd hw ?_
  rw [jrep_all (by have h9 := congrArg List.length hw; simpa using h9)]
  exact kk
theorem j_callSNvRW (C : jK l R D ca nL X cc y0 ret0)  {host : String} (G : jGSN y0.cls idx y host cb maxL ret na) (hM : jM l D ca y cb maxL ret fr loc 0 0 As ws (jD none ws)) (hR : fr + 1 ≤ R.frames ∧ 8 + (maxL + 11) + loc ≤ R.locals) (hkn : k ≤ R.cells ∧ n ≤ R.slots) (hAs : As.length = na) (hst : st = As.reverse ++ rest) (hcat : (rest.map fun v => v.category).sum ≤ 8) (hd : decode cc pc = .ok (.invokestatic idx, 3)) (kk : J l R D nL X k n ws lv (rest) (pc + 3)) : J l R D nL X k n ws lv st pc := by
  exact j_callSNvR C G hM hR hkn (List.range ws.length) (j_all ws) (va_nd_range _) hAs hst hcat hd kk
end TB
