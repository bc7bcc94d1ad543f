/-- a contract with one answer and one world behind it -/
abbrev jD (v : Option Value) (w : va_W) : Option Value → va_W → Prop := fun v' w' => v' = v ∧ w' = w
section JC
variable {l : Launch} {R : Room} {D : va_G} {ca : Nat → ClassId} {nL : Nat} {X : jX} {cc : ByteArray} {y0 : MethodName} {ret0 : Option FieldType} {k n pc : Nat} {ws w0 : va_W} {lv : jLv} {st As rest : List Value} {idx na fr loc maxL b : Nat} {y : MethodName} {cb : ByteArray} {ret : Option FieldType} {post : Option Value → va_W → Prop}
theorem j_fm {ws w0 : va_W} {is : List Nat} (hC : is.map (fun i => ws[i]?) = w0.map some) : is.filterMap (fun i => ws[i]?) = w0 := by
  have h : (is.map (fun i => ws[i]?)).filterMap id = (w0.map some).filterMap id := congrArg _ hC
  rw [List.filterMap_map, List.filterMap_map] at h
  simpa [Function.comp_def] using h
theorem j_callV (C : jK l R D ca nL X cc y0 ret0) (G : jGV y0.cls idx y cb maxL ret na) (hM : jM l D ca y cb maxL ret fr loc 0 0 (.ref b :: As) w0 post) (q0 : Nat) {ci : Nat} {fs : List Value} (hq : ws[q0]? = some (b, .inr (ci, fs))) (hcl : ∀ r, vwCl[ci]? = some r → r.1 = y.cls) (hR : fr + 1 ≤ R.frames ∧ 8 + (maxL + 11) + loc ≤ R.locals) (hkn : k ≤ R.cells ∧ n ≤ R.slots) (is : List Nat) (hC : is.map (fun i => ws[i]?) = w0.map some) (hn : va_nd is = true) (hAs : As.length = na) (hst : st = As.reverse ++ .ref b :: rest) (hcat : (rest.map fun v => v.category).sum ≤ 8) (hd : decode cc pc = .ok (.invokevirtual idx, 3)) (hw : ∀ (v : Option Value) (w1 : va_W), post v w1 → w1.map Prod.fst = w0.map Prod.fst) (kk : ∀ (v : Option Value) (w1 : va_W), post v w1 → J l R D nL X k n (jrep ws is w1) lv (v.toList ++ rest) (pc + 3)) : J l R D nL X k n ws lv st pc := by
  obtain ⟨p, e, s, m, args, below, meth, c, A, H0, Q⟩ := X
  obtain ⟨hx, hb, hml, hown, hts, hK, hlk, hA, hr, hnm0, hjn⟩ := C
  intro H locs ls hP hD hS hl
  subst hst
  have hK0 : va_K D vwCl (jT ca) s := hK
  obtain ⟨g1, g2, g3, g4⟩ := G
  have hci : ∃ r, vwCl[ci]? = some r := by
    obtain ⟨r, h1, -⟩ := hP q0 _ hq
    exact ⟨r, h1⟩
  obtain ⟨r, hr0⟩ := hci
  have hrec := va_recv hK0 hP (ci := ci) (q0 := q0) hr0 hq
  rw [hcl r hr0] at hrec
  refine j_back (va_runV (As := As) (rest := rest) (C := y.cls) ⟨hx, hb, hml, hown, hts⟩ (hM H.size) (cwV na hts g1 rfl rfl rfl ⟨rfl, g2, g3, g4⟩ hR) ⟨jP_blind, hrec, fun U hU hW => ⟨rfl, by rw [hU], by rw [hU]; exact hP.sub is (by rw [show (fun i => ws[i]?) = (fun i => ws[i]?) from rfl]; exact j_fm hC), va_K.moved hW.alike hK0, (hD.sub is hn hC).weaken (fun _ _ _ _ => trivial), jN_warm hW hjn⟩⟩ rfl hAs hl.1 rfl (lv_room hcat) hd ⟨hkn.1, hkn.2⟩) hD hS hl hA is hC (fun w1 => jrep ws is w1) (fun v w1 H1 h1 h2 _ h3 _ => j_repl hP hD hC hn (hw v w1 h1) h2 h3) kk
theorem j_callS (C : jK l R D ca nL X cc y0 ret0) (G : jGS y0.cls idx y cb maxL ret na) (hM : jM l D ca y cb maxL ret fr loc 0 0 As w0 post) (hR : fr + 1 ≤ R.frames ∧ 8 + (maxL + 11) + loc ≤ R.locals) (hkn : k ≤ R.cells ∧ n ≤ R.slots) (is : List Nat) (hC : is.map (fun i => ws[i]?) = w0.map some) (hn : va_nd is = true) (hAs : As.length = na) (hst : st = As.reverse ++ rest) (hcat : (rest.map fun v => v.category).sum ≤ 8) (hd : decode cc pc = .ok (.invokestatic idx, 3)) (hw : ∀ (v : Option Value) (w1 : va_W), post v w1 → w1.map Prod.fst = w0.map Prod.fst) (kk : ∀ (v : Option Value) (w1 : va_W), post v w1 → J l R D nL X k n (jrep ws is w1) lv (v.toList ++ rest) (pc + 3)) : J l R D nL X k n ws lv st pc := by
  obtain ⟨p, e, s, m, args, below, meth, c, A, H0, Q⟩ := X
  obtain ⟨hx, hb, hml, hown, hts, hK, hlk, hA, hr, hnm0, hjn⟩ := C
  intro H locs ls hP hD hS hl
  subst hst
  have hK0 : va_K D vwCl (jT ca) s := hK
  obtain ⟨g0, g1, g2, g3, g4⟩ := G
  refine j_back (va_runS (As := As) (rest := rest) ⟨hx, hb, hml, hown, hts⟩ (hM H.size) (cwS na hts g1 rfl rfl rfl ⟨g0, g2, g3, g4⟩ hR) ⟨jP_blind, fun U hU hW => ⟨rfl, by rw [hU], by rw [hU]; exact hP.sub is (by rw [show (fun i => ws[i]?) = (fun i => ws[i]?) from rfl]; exact j_fm hC), va_K.moved hW.alike hK0, (hD.sub is hn hC).weaken (fun _ _ _ _ => trivial), jN_warm hW hjn⟩⟩ rfl hAs hl.1 rfl (lv_room hcat) hd ⟨hkn.1, hkn.2⟩) hD hS hl hA is hC (fun w1 => jrep ws is w1) (fun v w1 H1 h1 h2 _ h3 _ => j_repl hP hD hC hn (hw v w1 h1) h2 h3) kk
theorem j_callSN (C : jK l R D ca nL X cc y0 ret0) {host : String} (G : jGSN y0.cls idx y host cb maxL ret na) (hM : jM l D ca y cb maxL ret fr loc 0 0 As w0 post) (hR : fr + 1 ≤ R.frames ∧ 8 + (maxL + 11) + loc ≤ R.locals) (hkn : k ≤ R.cells ∧ n ≤ R.slots) (is : List Nat) (hC : is.map (fun i => ws[i]?) = w0.map some) (hn : va_nd is = true) (hAs : As.length = na) (hst : st = As.reverse ++ rest) (hcat : (rest.map fun v => v.category).sum ≤ 8) (hd : decode cc pc = .ok (.invokestatic idx, 3)) (hw : ∀ (v : Option Value) (w1 : va_W), post v w1 → w1.map Prod.fst = w0.map Prod.fst) (kk : ∀ (v : Option Value) (w1 : va_W), post v w1 → J l R D nL X k n (jrep ws is w1) lv (v.toList ++ rest) (pc + 3)) : J l R D nL X k n ws lv st pc := by
  obtain ⟨p, e, s, m, args, below, meth, c, A, H0, Q⟩ := X
  obtain ⟨hx, hb, hml, hown, hts, hK, hlk, hA, hr, hnm0, hjn⟩ := C
  intro H locs ls hP hD hS hl
  subst hst
  have hK0 : va_K D vwCl (jT ca) s := hK
  obtain ⟨g0, g5, g6, g1, g2, g3, g4⟩ := G
  refine j_back (va_runSN (As := As) (rest := rest) ⟨hx, hb, hml, hown, hts⟩ (hM H.size) ⟨va_cnB na hts g1 rfl rfl rfl (hjn.1 _ g0) (hts _ g6) ⟨g2, g3, g4⟩ hR, hts _ g5, trivial⟩ ⟨jP_blind, fun U hU hW => ⟨rfl, by rw [hU], by rw [hU]; exact hP.sub is (by rw [show (fun i => ws[i]?) = (fun i => ws[i]?) from rfl]; exact j_fm hC), va_K.moved hW.alike hK0, (hD.sub is hn hC).weaken (fun _ _ _ _ => trivial), jN_warm hW hjn⟩⟩ rfl hAs hl.1 rfl (lv_room hcat) hd ⟨hkn.1, hkn.2⟩) hD hS hl hA is hC (fun w1 => jrep ws is w1) (fun v w1 H1 h1 h2 _ h3 _ => j_repl hP hD hC hn (hw v w1 h1) h2 h3) kk
theorem j_callVi (C : jK l R D ca nL X cc y0 ret0) {r : Int32} {w1 : va_W} (G : jGV y0.cls idx y cb maxL ret na) (hM : jM l D ca y cb maxL ret fr loc 0 0 (.ref b :: As) w0 (jD (some (.int r)) w1)) (q0 : Nat) {ci : Nat} {fs : List Value} (hq : ws[q0]? = some (b, .inr (ci, fs))) (hcl : ∀ r, vwCl[ci]? = some r → r.1 = y.cls) (hR : fr + 1 ≤ R.frames ∧ 8 + (maxL + 11) + loc ≤ R.locals) (hkn : k ≤ R.cells ∧ n ≤ R.slots) (is : List Nat) (hC : is.map (fun i => ws[i]?) = w0.map some) (hn : va_nd is = true) (hAs : As.length = na) (hst : st = As.reverse ++ .ref b :: rest) (hcat : (rest.map fun v => v.category).sum ≤ 8) (hd : decode cc pc = .ok (.invokevirtual idx, 3)) (hw : w1.map Prod.fst = w0.map Prod.fst) (kk : J l R D nL X k n (jrep ws is w1) lv (.int r :: rest) (pc + 3)) : J l R D nL X k n ws lv st pc := by
  refine j_callV C G hM q0 hq hcl hR hkn is hC hn hAs hst hcat hd (fun v2 w2 h => by rw [h.2, hw]) (fun v2 w2 h => ?_)
  obtain ⟨rfl, rfl⟩ := h
  skip
  exact kk
theorem j_callViR (C : jK l R D ca nL X cc y0 ret0) {r : Int32} (G : jGV y0.cls idx y cb maxL ret na) (hM : jM l D ca y cb maxL ret fr loc 0 0 (.ref b :: As) w0 (jD (some (.int r)) w0)) (q0 : Nat) {ci : Nat} {fs : List Value} (hq : ws[q0]? = some (b, .inr (ci, fs))) (hcl : ∀ r, vwCl[ci]? = some r → r.1 = y.cls) (hR : fr + 1 ≤ R.frames ∧ 8 + (maxL + 11) + loc ≤ R.locals) (hkn : k ≤ R.cells ∧ n ≤ R.slots) (is : List Nat) (hC : is.map (fun i => ws[i]?) = w0.map some) (hn : va_nd is = true) (hAs : As.length = na) (hst : st = As.reverse ++ .ref b :: rest) (hcat : (rest.map fun v => v.category).sum ≤ 8) (hd : decode cc pc = .ok (.invokevirtual idx, 3)) (kk : J l R D nL X k n ws lv (.int r :: rest) (pc + 3)) : J l R D nL X k n ws lv st pc := by
  refine j_callV C G hM q0 hq hcl hR hkn is hC hn hAs hst hcat hd (fun v2 w2 h => by rw [h.2]) (fun v2 w2 h => ?_)
  obtain ⟨rfl, rfl⟩ := h
  rw [jrep_self is ws _ hC]
  exact kk
theorem j_callVf (C : jK l R D ca nL X cc y0 ret0) {r : UInt32} {w1 : va_W} (G : jGV y0.cls idx y cb maxL ret na) (hM : jM l D ca y cb maxL ret fr loc 0 0 (.ref b :: As) w0 (jD (some (.float r)) w1)) (q0 : Nat) {ci : Nat} {fs : List Value} (hq : ws[q0]? = some (b, .inr (ci, fs))) (hcl : ∀ r, vwCl[ci]? = some r → r.1 = y.cls) (hR : fr + 1 ≤ R.frames ∧ 8 + (maxL + 11) + loc ≤ R.locals) (hkn : k ≤ R.cells ∧ n ≤ R.slots) (is : List Nat) (hC : is.map (fun i => ws[i]?) = w0.map some) (hn : va_nd is = true) (hAs : As.length = na) (hst : st = As.reverse ++ .ref b :: rest) (hcat : (rest.map fun v => v.category).sum ≤ 8) (hd : decode cc pc = .ok (.invokevirtual idx, 3)) (hw : w1.map Prod.fst = w0.map Prod.fst) (kk : J l R D nL X k n (jrep ws is w1) lv (.float r :: rest) (pc + 3)) : J l R D nL X k n ws lv st pc := by
  refine j_callV C G hM q0 hq hcl hR hkn is hC hn hAs hst hcat hd (fun v2 w2 h => by rw [h.2, hw]) (fun v2 w2 h => ?_)
  obtain ⟨rfl, rfl⟩ := h
  skip
  exact kk
theorem j_callVfR (C : jK l R D ca nL X cc y0 ret0) {r : UInt32} (G : jGV y0.cls idx y cb maxL ret na) (hM : jM l D ca y cb maxL ret fr loc 0 0 (.ref b :: As) w0 (jD (some (.float r)) w0)) (q0 : Nat) {ci : Nat} {fs : List Value} (hq : ws[q0]? = some (b, .inr (ci, fs))) (hcl : ∀ r, vwCl[ci]? = some r → r.1 = y.cls) (hR : fr + 1 ≤ R.frames ∧ 8 + (maxL + 11) + loc ≤ R.locals) (hkn : k ≤ R.cells ∧ n ≤ R.slots) (is : List Nat) (hC : is.map (fun i => ws[i]?) = w0.map some) (hn : va_nd is = true) (hAs : As.length = na) (hst : st = As.reverse ++ .ref b :: rest) (hcat : (rest.map fun v => v.category).sum ≤ 8) (hd : decode cc pc = .ok (.invokevirtual idx, 3)) (kk : J l R D nL X k n ws lv (.float r :: rest) (pc + 3)) : J l R D nL X k n ws lv st pc := by
  refine j_callV C G hM q0 hq hcl hR hkn is hC hn hAs hst hcat hd (fun v2 w2 h => by rw [h.2]) (fun v2 w2 h => ?_)
  obtain ⟨rfl, rfl⟩ := h
  rw [jrep_self is ws _ hC]
  exact kk
theorem j_callVv (C : jK l R D ca nL X cc y0 ret0)  {w1 : va_W} (G : jGV y0.cls idx y cb maxL ret na) (hM : jM l D ca y cb maxL ret fr loc 0 0 (.ref b :: As) w0 (jD none w1)) (q0 : Nat) {ci : Nat} {fs : List Value} (hq : ws[q0]? = some (b, .inr (ci, fs))) (hcl : ∀ r, vwCl[ci]? = some r → r.1 = y.cls) (hR : fr + 1 ≤ R.frames ∧ 8 + (maxL + 11) + loc ≤ R.locals) (hkn : k ≤ R.cells ∧ n ≤ R.slots) (is : List Nat) (hC : is.map (fun i => ws[i]?) = w0.map some) (hn : va_nd is = true) (hAs : As.length = na) (hst : st = As.reverse ++ .ref b :: rest) (hcat : (rest.map fun v => v.category).sum ≤ 8) (hd : decode cc pc = .ok (.invokevirtual idx, 3)) (hw : w1.map Prod.fst = w0.map Prod.fst) (kk : J l R D nL X k n (jrep ws is w1) lv (rest) (pc + 3)) : J l R D nL X k n ws lv st pc := by
  refine j_callV C G hM q0 hq hcl hR hkn is hC hn hAs hst hcat hd (fun v2 w2 h => by rw [h.2, hw]) (fun v2 w2 h => ?_)
  obtain ⟨rfl, rfl⟩ := h
  skip
  exact kk
theorem j_callVvR (C : jK l R D ca nL X cc y0 ret0)  (G : jGV y0.cls idx y cb maxL ret na) (hM : jM l D ca y cb maxL ret fr loc 0 0 (.ref b :: As) w0 (jD none w0)) (q0 : Nat) {ci : Nat} {fs : List Value} (hq : ws[q0]? = some (b, .inr (ci, fs))) (hcl : ∀ r, vwCl[ci]? = some r → r.1 = y.cls) (hR : fr + 1 ≤ R.frames ∧ 8 + (maxL + 11) + loc ≤ R.locals) (hkn : k ≤ R.cells ∧ n ≤ R.slots) (is : List Nat) (hC : is.map (fun i => ws[i]?) = w0.map some) (hn : va_nd is = true) (hAs : As.length = na) (hst : st = As.reverse ++ .ref b :: rest) (hcat : (rest.map fun v => v.category).sum ≤ 8) (hd : decode cc pc = .ok (.invokevirtual idx, 3)) (kk : J l R D nL X k n ws lv (rest) (pc + 3)) : J l R D nL X k n ws lv st pc := by
  refine j_callV C G hM q0 hq hcl hR hkn is hC hn hAs hst hcat hd (fun v2 w2 h => by rw [h.2]) (fun v2 w2 h => ?_)
  obtain ⟨rfl, rfl⟩ := h
  rw [jrep_self is ws _ hC]
  exact kk
theorem j_callVa (C : jK l R D ca nL X cc y0 ret0) {r : Value} {w1 : va_W} (G : jGV y0.cls idx y cb maxL ret na) (hM : jM l D ca y cb maxL ret fr loc 0 0 (.ref b :: As) w0 (jD (some r) w1)) (q0 : Nat) {ci : Nat} {fs : List Value} (hq : ws[q0]? = some (b, .inr (ci, fs))) (hcl : ∀ r, vwCl[ci]? = some r → r.1 = y.cls) (hR : fr + 1 ≤ R.frames ∧ 8 + (maxL + 11) + loc ≤ R.locals) (hkn : k ≤ R.cells ∧ n ≤ R.slots) (is : List Nat) (hC : is.map (fun i => ws[i]?) = w0.map some) (hn : va_nd is = true) (hAs : As.length = na) (hst : st = As.reverse ++ .ref b :: rest) (hcat : (rest.map fun v => v.category).sum ≤ 8) (hd : decode cc pc = .ok (.invokevirtual idx, 3)) (hw : w1.map Prod.fst = w0.map Prod.fst) (kk : J l R D nL X k n (jrep ws is w1) lv (r :: rest) (pc + 3)) : J l R D nL X k n ws lv st pc := by
  refine j_callV C G hM q0 hq hcl hR hkn is hC hn hAs hst hcat hd (fun v2 w2 h => by rw [h.2, hw]) (fun v2 w2 h => ?_)
  obtain ⟨rfl, rfl⟩ := h
  skip
  exact kk
theorem j_callVaR (C : jK l R D ca nL X cc y0 ret0) {r : Value} (G : jGV y0.cls idx y cb maxL ret na) (hM : jM l D ca y cb maxL ret fr loc 0 0 (.ref b :: As) w0 (jD (some r) w0)) (q0 : Nat) {ci : Nat} {fs : List Value} (hq : ws[q0]? = some (b, .inr (ci, fs))) (hcl : ∀ r, vwCl[ci]? = some r → r.1 = y.cls) (hR : fr + 1 ≤ R.frames ∧ 8 + (maxL + 11) + loc ≤ R.locals) (hkn : k ≤ R.cells ∧ n ≤ R.slots) (is : List Nat) (hC : is.map (fun i => ws[i]?) = w0.map some) (hn : va_nd is = true) (hAs : As.length = na) (hst : st = As.reverse ++ .ref b :: rest) (hcat : (rest.map fun v => v.category).sum ≤ 8) (hd : decode cc pc = .ok (.invokevirtual idx, 3)) (kk : J l R D nL X k n ws lv (r :: rest) (pc + 3)) : J l R D nL X k n ws lv st pc := by
  refine j_callV C G hM q0 hq hcl hR hkn is hC hn hAs hst hcat hd (fun v2 w2 h => by rw [h.2]) (fun v2 w2 h => ?_)
  obtain ⟨rfl, rfl⟩ := h
  rw [jrep_self is ws _ hC]
  exact kk
theorem j_callSi (C : jK l R D ca nL X cc y0 ret0) {r : Int32} {w1 : va_W} (G : jGS y0.cls idx y cb maxL ret na) (hM : jM l D ca y cb maxL ret fr loc 0 0 As w0 (jD (some (.int r)) w1)) (hR : fr + 1 ≤ R.frames ∧ 8 + (maxL + 11) + loc ≤ R.locals) (hkn : k ≤ R.cells ∧ n ≤ R.slots) (is : List Nat) (hC : is.map (fun i => ws[i]?) = w0.map some) (hn : va_nd is = true) (hAs : As.length = na) (hst : st = As.reverse ++ rest) (hcat : (rest.map fun v => v.category).sum ≤ 8) (hd : decode cc pc = .ok (.invokestatic idx, 3)) (hw : w1.map Prod.fst = w0.map Prod.fst) (kk : J l R D nL X k n (jrep ws is w1) lv (.int r :: rest) (pc + 3)) : J l R D nL X k n ws lv st pc := by
  refine j_callS C G hM hR hkn is hC hn hAs hst hcat hd (fun v2 w2 h => by rw [h.2, hw]) (fun v2 w2 h => ?_)
  obtain ⟨rfl, rfl⟩ := h
  skip
  exact kk
theorem j_callSiR (C : jK l R D ca nL X cc y0 ret0) {r : Int32} (G : jGS y0.cls idx y cb maxL ret na) (hM : jM l D ca y cb maxL ret fr loc 0 0 As w0 (jD (some (.int r)) w0)) (hR : fr + 1 ≤ R.frames ∧ 8 + (maxL + 11) + loc ≤ R.locals) (hkn : k ≤ R.cells ∧ n ≤ R.slots) (is : List Nat) (hC : is.map (fun i => ws[i]?) = w0.map some) (hn : va_nd is = true) (hAs : As.length = na) (hst : st = As.reverse ++ rest) (hcat : (rest.map fun v => v.category).sum ≤ 8) (hd : decode cc pc = .ok (.invokestatic idx, 3)) (kk : J l R D nL X k n ws lv (.int r :: rest) (pc + 3)) : J l R D nL X k n ws lv st pc := by
  refine j_callS C G hM hR hkn is hC hn hAs hst hcat hd (fun v2 w2 h => by rw [h.2]) (fun v2 w2 h => ?_)
  obtain ⟨rfl, rfl⟩ := h
  rw [jrep_self is ws _ hC]
  exact kk
theorem j_callSf (C : jK l R D ca nL X cc y0 ret0) {r : UInt32} {w1 : va_W} (G : jGS y0.cls idx y cb maxL ret na) (hM : jM l D ca y cb maxL ret fr loc 0 0 As w0 (jD (some (.float r)) w1)) (hR : fr + 1 ≤ R.frames ∧ 8 + (maxL + 11) + loc ≤ R.locals) (hkn : k ≤ R.cells ∧ n ≤ R.slots) (is : List Nat) (hC : is.map (fun i => ws[i]?) = w0.map some) (hn : va_nd is = true) (hAs : As.length = na) (hst : st = As.reverse ++ rest) (hcat : (rest.map fun v => v.category).sum ≤ 8) (hd : decode cc pc = .ok (.invokestatic idx, 3)) (hw : w1.map Prod.fst = w0.map Prod.fst) (kk : J l R D nL X k n (jrep ws is w1) lv (.float r :: rest) (pc + 3)) : J l R D nL X k n ws lv st pc := by
  refine j_callS C G hM hR hkn is hC hn hAs hst hcat hd (fun v2 w2 h => by rw [h.2, hw]) (fun v2 w2 h => ?_)
  obtain ⟨rfl, rfl⟩ := h
  skip
  exact kk
theorem j_callSfR (C : jK l R D ca nL X cc y0 ret0) {r : UInt32} (G : jGS y0.cls idx y cb maxL ret na) (hM : jM l D ca y cb maxL ret fr loc 0 0 As w0 (jD (some (.float r)) w0)) (hR : fr + 1 ≤ R.frames ∧ 8 + (maxL + 11) + loc ≤ R.locals) (hkn : k ≤ R.cells ∧ n ≤ R.slots) (is : List Nat) (hC : is.map (fun i => ws[i]?) = w0.map some) (hn : va_nd is = true) (hAs : As.length = na) (hst : st = As.reverse ++ rest) (hcat : (rest.map fun v => v.category).sum ≤ 8) (hd : decode cc pc = .ok (.invokestatic idx, 3)) (kk : J l R D nL X k n ws lv (.float r :: rest) (pc + 3)) : J l R D nL X k n ws lv st pc := by
  refine j_callS C G hM hR hkn is hC hn hAs hst hcat hd (fun v2 w2 h => by rw [h.2]) (fun v2 w2 h => ?_)
  obtain ⟨rfl, rfl⟩ := h
  rw [jrep_self is ws _ hC]
  exact kk
theorem j_callSv (C : jK l R D ca nL X cc y0 ret0)  {w1 : va_W} (G : jGS y0.cls idx y cb maxL ret na) (hM : jM l D ca y cb maxL ret fr loc 0 0 As w0 (jD none w1)) (hR : fr + 1 ≤ R.frames ∧ 8 + (maxL + 11) + loc ≤ R.locals) (hkn : k ≤ R.cells ∧ n ≤ R.slots) (is : List Nat) (hC : is.map (fun i => ws[i]?) = w0.map some) (hn : va_nd is = true) (hAs : As.length = na) (hst : st = As.reverse ++ rest) (hcat : (rest.map fun v => v.category).sum ≤ 8) (hd : decode cc pc = .ok (.invokestatic idx, 3)) (hw : w1.map Prod.fst = w0.map Prod.fst) (kk : J l R D nL X k n (jrep ws is w1) lv (rest) (pc + 3)) : J l R D nL X k n ws lv st pc := by
  refine j_callS C G hM hR hkn is hC hn hAs hst hcat hd (fun v2 w2 h => by rw [h.2, hw]) (fun v2 w2 h => ?_)
  obtain ⟨rfl, rfl⟩ := h
  skip
  exact kk
theorem j_callSvR (C : jK l R D ca nL X cc y0 ret0)  (G : jGS y0.cls idx y cb maxL ret na) (hM : jM l D ca y cb maxL ret fr loc 0 0 As w0 (jD none w0)) (hR : fr + 1 ≤ R.frames ∧ 8 + (maxL + 11) + loc ≤ R.locals) (hkn : k ≤ R.cells ∧ n ≤ R.slots) (is : List Nat) (hC : is.map (fun i => ws[i]?) = w0.map some) (hn : va_nd is = true) (hAs : As.length = na) (hst : st = As.reverse ++ rest) (hcat : (rest.map fun v => v.category).sum ≤ 8) (hd : decode cc pc = .ok (.invokestatic idx, 3)) (kk : J l R D nL X k n ws lv (rest) (pc + 3)) : J l R D nL X k n ws lv st pc := by
  refine j_callS C G hM hR hkn is hC hn hAs hst hcat hd (fun v2 w2 h => by rw [h.2]) (fun v2 w2 h => ?_)
  obtain ⟨rfl, rfl⟩ := h
  rw [jrep_self is ws _ hC]
  exact kk
theorem j_callSNi (C : jK l R D ca nL X cc y0 ret0) {r : Int32} {w1 : va_W} {host : String} (G : jGSN y0.cls idx y host cb maxL ret na) (hM : jM l D ca y cb maxL ret fr loc 0 0 As w0 (jD (some (.int r)) w1)) (hR : fr + 1 ≤ R.frames ∧ 8 + (maxL + 11) + loc ≤ R.locals) (hkn : k ≤ R.cells ∧ n ≤ R.slots) (is : List Nat) (hC : is.map (fun i => ws[i]?) = w0.map some) (hn : va_nd is = true) (hAs : As.length = na) (hst : st = As.reverse ++ rest) (hcat : (rest.map fun v => v.category).sum ≤ 8) (hd : decode cc pc = .ok (.invokestatic idx, 3)) (hw : w1.map Prod.fst = w0.map Prod.fst) (kk : J l R D nL X k n (jrep ws is w1) lv (.int r :: rest) (pc + 3)) : J l R D nL X k n ws lv st pc := by
  refine j_callSN C G hM hR hkn is hC hn hAs hst hcat hd (fun v2 w2 h => by rw [h.2, hw]) (fun v2 w2 h => ?_)
  obtain ⟨rfl, rfl⟩ := h
  skip
  exact kk
theorem j_callSNiR (C : jK l R D ca nL X cc y0 ret0) {r : Int32} {host : String} (G : jGSN y0.cls idx y host cb maxL ret na) (hM : jM l D ca y cb maxL ret fr loc 0 0 As w0 (jD (some (.int r)) w0)) (hR : fr + 1 ≤ R.frames ∧ 8 + (maxL + 11) + loc ≤ R.locals) (hkn : k ≤ R.cells ∧ n ≤ R.slots) (is : List Nat) (hC : is.map (fun i => ws[i]?) = w0.map some) (hn : va_nd is = true) (hAs : As.length = na) (hst : st = As.reverse ++ rest) (hcat : (rest.map fun v => v.category).sum ≤ 8) (hd : decode cc pc = .ok (.invokestatic idx, 3)) (kk : J l R D nL X k n ws lv (.int r :: rest) (pc + 3)) : J l R D nL X k n ws lv st pc := by
  refine j_callSN C G hM hR hkn is hC hn hAs hst hcat hd (fun v2 w2 h => by rw [h.2]) (fun v2 w2 h => ?_)
  obtain ⟨rfl, rfl⟩ := h
  rw [jrep_self is ws _ hC]
  exact kk
theorem j_callSNf (C : jK l R D ca nL X cc y0 ret0) {r : UInt32} {w1 : va_W} {host : String} (G : jGSN y0.cls idx y host cb maxL ret na) (hM : jM l D ca y cb maxL ret fr loc 0 0 As w0 (jD (some (.float r)) w1)) (hR : fr + 1 ≤ R.frames ∧ 8 + (maxL + 11) + loc ≤ R.locals) (hkn : k ≤ R.cells ∧ n ≤ R.slots) (is : List Nat) (hC : is.map (fun i => ws[i]?) = w0.map some) (hn : va_nd is = true) (hAs : As.length = na) (hst : st = As.reverse ++ rest) (hcat : (rest.map fun v => v.category).sum ≤ 8) (hd : decode cc pc = .ok (.invokestatic idx, 3)) (hw : w1.map Prod.fst = w0.map Prod.fst) (kk : J l R D nL X k n (jrep ws is w1) lv (.float r :: rest) (pc + 3)) : J l R D nL X k n ws lv st pc := by
  refine j_callSN C G hM hR hkn is hC hn hAs hst hcat hd (fun v2 w2 h => by rw [h.2, hw]) (fun v2 w2 h => ?_)
  obtain ⟨rfl, rfl⟩ := h
  skip
  exact kk
theorem j_callSNfR (C : jK l R D ca nL X cc y0 ret0) {r : UInt32} {host : String} (G : jGSN y0.cls idx y host cb maxL ret na) (hM : jM l D ca y cb maxL ret fr loc 0 0 As w0 (jD (some (.float r)) w0)) (hR : fr + 1 ≤ R.frames ∧ 8 + (maxL + 11) + loc ≤ R.locals) (hkn : k ≤ R.cells ∧ n ≤ R.slots) (is : List Nat) (hC : is.map (fun i => ws[i]?) = w0.map some) (hn : va_nd is = true) (hAs : As.length = na) (hst : st = As.reverse ++ rest) (hcat : (rest.map fun v => v.category).sum ≤ 8) (hd : decode cc pc = .ok (.invokestatic idx, 3)) (kk : J l R D nL X k n ws lv (.float r :: rest) (pc + 3)) : J l R D nL X k n ws lv st pc := by
  refine j_callSN C G hM hR hkn is hC hn hAs hst hcat hd (fun v2 w2 h => by rw [h.2]) (fun v2 w2 h => ?_)
  obtain ⟨rfl, rfl⟩ := h
  rw [jrep_self is ws _ hC]
  exact kk
theorem j_callSNv (C : jK l R D ca nL X cc y0 ret0)  {w1 : va_W} {host : String} (G : jGSN y0.cls idx y host cb maxL ret na) (hM : jM l D ca y cb maxL ret fr loc 0 0 As w0 (jD none w1)) (hR : fr + 1 ≤ R.frames ∧ 8 + (maxL + 11) + loc ≤ R.locals) (hkn : k ≤ R.cells ∧ n ≤ R.slots) (is : List Nat) (hC : is.map (fun i => ws[i]?) = w0.map some) (hn : va_nd is = true) (hAs : As.length = na) (hst : st = As.reverse ++ rest) (hcat : (rest.map fun v => v.category).sum ≤ 8) (hd : decode cc pc = .ok (.invokestatic idx, 3)) (hw : w1.map Prod.fst = w0.map Prod.fst) (kk : J l R D nL X k n (jrep ws is w1) lv (rest) (pc + 3)) : J l R D nL X k n ws lv st pc := by
  refine j_callSN C G hM hR hkn is hC hn hAs hst hcat hd (fun v2 w2 h => by rw [h.2, hw]) (fun v2 w2 h => ?_)
  obtain ⟨rfl, rfl⟩ := h
  skip
  exact kk
theorem j_callSNvR (C : jK l R D ca nL X cc y0 ret0)  {host : String} (G : jGSN y0.cls idx y host cb maxL ret na) (hM : jM l D ca y cb maxL ret fr loc 0 0 As w0 (jD none w0)) (hR : fr + 1 ≤ R.frames ∧ 8 + (maxL + 11) + loc ≤ R.locals) (hkn : k ≤ R.cells ∧ n ≤ R.slots) (is : List Nat) (hC : is.map (fun i => ws[i]?) = w0.map some) (hn : va_nd is = true) (hAs : As.length = na) (hst : st = As.reverse ++ rest) (hcat : (rest.map fun v => v.category).sum ≤ 8) (hd : decode cc pc = .ok (.invokestatic idx, 3)) (kk : J l R D nL X k n ws lv (rest) (pc + 3)) : J l R D nL X k n ws lv st pc := by
  refine j_callSN C G hM hR hkn is hC hn hAs hst hcat hd (fun v2 w2 h => by rw [h.2]) (fun v2 w2 h => ?_)
  obtain ⟨rfl, rfl⟩ := h
  rw [jrep_self is ws _ hC]
  exact kk
end JC
section JE
variable {l : Launch} {R : Room} {D : va_G} {nL : Nat} {X : jX} {cc : ByteArray} {k n pc : Nat} {ws : va_W} {lv : jLv} {ret : Option FieldType} {post : Option Value → va_W → Prop}
theorem j_iret (E : jE l R D nL X cc k n (some .int) post) {x : Int32} (hd : decode cc pc = .ok (.ireturn, 1)) (hp : post (some (.int x)) ws) : J l R D nL X k n ws lv [.int x] pc := E ws lv pc _ hp (Or.inl ⟨x, .int, rfl, rfl, rfl, hd⟩)
theorem j_zret (E : jE l R D nL X cc k n (some .boolean) post) {x : Int32} (hn : narrow .boolean (.int x) = .int x) (hd : decode cc pc = .ok (.ireturn, 1)) (hp : post (some (.int x)) ws) : J l R D nL X k n ws lv [.int x] pc := E ws lv pc _ hp (Or.inl ⟨x, .boolean, rfl, rfl, hn, hd⟩)
theorem j_fret (E : jE l R D nL X cc k n (some .float) post) {x : UInt32} (hd : decode cc pc = .ok (.freturn, 1)) (hp : post (some (.float x)) ws) : J l R D nL X k n ws lv [.float x] pc := E ws lv pc _ hp (Or.inr (Or.inl ⟨x, rfl, rfl, hd⟩))
theorem j_vret (E : jE l R D nL X cc k n none post) (hd : decode cc pc = .ok (.return_, 1)) (hp : post none ws) : J l R D nL X k n ws lv [] pc := E ws lv pc _ hp (Or.inr (Or.inr (Or.inl ⟨rfl, rfl, hd⟩)))
theorem j_aret (E : jE l R D nL X cc k n ret post) {C : String} (hr : ret = some (.object C)) {w : Value} (hw : w = .null ∨ ∃ a, w = .ref a) (hd : decode cc pc = .ok (.areturn, 1)) (hp : post (some w) ws) : J l R D nL X k n ws lv [w] pc := E ws lv pc _ hp (Or.inr (Or.inr (Or.inr ⟨w, C, rfl, hr, hw, hd⟩)))
end JE
