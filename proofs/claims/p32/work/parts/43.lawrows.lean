theorem jrep_pre : ∀ (w0 w1 wb : va_W), w1.length = w0.length → jrep (w0 ++ wb) (List.range w0.length) w1 = w1 ++ wb := by
  intro w0 w1 wb h
  apply List.ext_getElem?
  intro i
  cases hq : (jrep (w0 ++ wb) (List.range w0.length) w1)[i]? with
  | none =>
    have h1 := List.getElem?_eq_none_iff.mp hq
    rw [jrep_len, List.length_append] at h1
    exact (List.getElem?_eq_none (by rw [List.length_append]; omega)).symm
  | some q =>
    rcases jrep_get _ (w0 ++ wb) w1 (by simp [h]) (va_nd_range _) i q hq with ⟨j, h1, h2⟩ | ⟨h1, h2⟩
    · obtain ⟨a, b⟩ := List.getElem?_eq_some_iff.mp h1
      rw [List.getElem_range] at b
      subst b
      rw [List.getElem?_append_left (List.getElem?_eq_some_iff.mp h2).1]
      exact h2.symm
    · have hl : w0.length ≤ i := by
        rcases Nat.lt_or_ge i w0.length with z | z
        · exact absurd (List.mem_range.mpr z) h1
        · exact z
      rw [List.getElem?_append_right hl] at h2
      rw [List.getElem?_append_right (by omega), h]
      exact h2.symm
theorem jrep_suf : ∀ (wa w0 w1 : va_W), w1.length = w0.length → jrep (wa ++ w0) ((List.range w0.length).map (fun i => i + wa.length)) w1 = wa ++ w1 := by
  intro wa w0 w1 h
  apply List.ext_getElem?
  intro i
  cases hq : (jrep (wa ++ w0) ((List.range w0.length).map (fun i => i + wa.length)) w1)[i]? with
  | none =>
    have h1 := List.getElem?_eq_none_iff.mp hq
    rw [jrep_len, List.length_append] at h1
    exact (List.getElem?_eq_none (by rw [List.length_append]; omega)).symm
  | some q =>
    rcases jrep_get _ (wa ++ w0) w1 (by simp [h]) (va_ndA _ _) i q hq with ⟨j, h1, h2⟩ | ⟨h1, h2⟩
    · rw [List.getElem?_map] at h1
      cases hr : (List.range w0.length)[j]? with
      | none => rw [hr] at h1; cases h1
      | some z =>
        rw [hr] at h1
        obtain ⟨a, b⟩ := List.getElem?_eq_some_iff.mp hr
        rw [List.getElem_range] at b
        subst b
        cases h1
        show some q = (wa ++ w1)[j + wa.length]?
        rw [List.getElem?_append_right (by omega), Nat.add_sub_cancel]
        exact h2.symm
    · have hl : i < wa.length := by
        rcases Nat.lt_or_ge i wa.length with z | z
        · exact z
        · exfalso
          have h3 := (List.getElem?_eq_some_iff.mp h2).1
          rw [List.length_append] at h3
          exact h1 (List.mem_map.mpr ⟨i - wa.length, List.mem_range.mpr (by omega), by omega⟩)
      rw [List.getElem?_append_left hl] at h2
      rw [List.getElem?_append_left hl]
      exact h2.symm
theorem j_plcP {w0 wb : va_W} : (List.range w0.length).map (fun i => (w0 ++ wb)[i]?) = w0.map some := by
  rw [← j_all w0]
  apply List.map_congr_left
  intro i hi
  exact List.getElem?_append_left (List.mem_range.mp hi)
section LW
variable {l : Launch} {R : Room} {D : va_G} {ca : Nat → ClassId} {nL : Nat} {X : jX} {cc : ByteArray} {y0 : MethodName} {ret0 : Option FieldType} {k n pc : Nat} {wa w0 wb w1 : va_W} {lv : jLv} {st As rest : List Value} {idx na fr loc maxL b : Nat} {y : MethodName} {cb : ByteArray} {ret : Option FieldType}
theorem j_lawPi (C : jK l R D ca nL X cc y0 ret0) {r : Int32} (G : jGV y0.cls idx y cb maxL ret na) (hM : jM l D ca y cb maxL ret fr loc 0 0 (.ref b :: As) w0 (jD (some (.int r)) w1)) (q0 : Nat) {ci : Nat} {fs : List Value} (hq : (w0 ++ wb)[q0]? = some (b, .inr (ci, fs))) (hcl : ∀ r, vwCl[ci]? = some r → r.1 = y.cls) (hR : fr + 1 ≤ R.frames ∧ 8 + (maxL + 11) + loc ≤ R.locals) (hkn : k ≤ R.cells ∧ n ≤ R.slots) (hAs : As.length = na) (hst : st = As.reverse ++ .ref b :: rest) (hcat : (rest.map fun v => v.category).sum ≤ 8) (hd : decode cc pc = .ok (.invokevirtual idx, 3)) (hw : w1.map Prod.fst = w0.map Prod.fst) (kk : J l R D nL X k n (w1 ++ wb) lv (.int r :: rest) (pc + 3)) : J l R D nL X k n (w0 ++ wb) lv st pc := by
  refine j_callVi C G hM q0 hq hcl hR hkn (List.range w0.length) j_plcP (va_nd_range _) hAs hst hcat hd hw ?_
  rw [jrep_pre _ _ _ (by have h9 := congrArg List.length hw; simpa using h9)]
  exact kk
theorem j_lawPf (C : jK l R D ca nL X cc y0 ret0) {r : UInt32} (G : jGV y0.cls idx y cb maxL ret na) (hM : jM l D ca y cb maxL ret fr loc 0 0 (.ref b :: As) w0 (jD (some (.float r)) w1)) (q0 : Nat) {ci : Nat} {fs : List Value} (hq : (w0 ++ wb)[q0]? = some (b, .inr (ci, fs))) (hcl : ∀ r, vwCl[ci]? = some r → r.1 = y.cls) (hR : fr + 1 ≤ R.frames ∧ 8 + (maxL + 11) + loc ≤ R.locals) (hkn : k ≤ R.cells ∧ n ≤ R.slots) (hAs : As.length = na) (hst : st = As.reverse ++ .ref b :: rest) (hcat : (rest.map fun v => v.category).sum ≤ 8) (hd : decode cc pc = .ok (.invokevirtual idx, 3)) (hw : w1.map Prod.fst = w0.map Prod.fst) (kk : J l R D nL X k n (w1 ++ wb) lv (.float r :: rest) (pc + 3)) : J l R D nL X k n (w0 ++ wb) lv st pc := by
  refine j_callVf C G hM q0 hq hcl hR hkn (List.range w0.length) j_plcP (va_nd_range _) hAs hst hcat hd hw ?_
  rw [jrep_pre _ _ _ (by have h9 := congrArg List.length hw; simpa using h9)]
  exact kk
theorem j_lawQi (C : jK l R D ca nL X cc y0 ret0) {r : Int32} (G : jGV y0.cls idx y cb maxL ret na) (hM : jM l D ca y cb maxL ret fr loc 0 0 (.ref b :: As) w0 (jD (some (.int r)) w1)) (q0 : Nat) {ci : Nat} {fs : List Value} (hq : (wa ++ w0)[q0]? = some (b, .inr (ci, fs))) (hcl : ∀ r, vwCl[ci]? = some r → r.1 = y.cls) (hR : fr + 1 ≤ R.frames ∧ 8 + (maxL + 11) + loc ≤ R.locals) (hkn : k ≤ R.cells ∧ n ≤ R.slots) (hAs : As.length = na) (hst : st = As.reverse ++ .ref b :: rest) (hcat : (rest.map fun v => v.category).sum ≤ 8) (hd : decode cc pc = .ok (.invokevirtual idx, 3)) (hw : w1.map Prod.fst = w0.map Prod.fst) (kk : J l R D nL X k n (wa ++ w1) lv (.int r :: rest) (pc + 3)) : J l R D nL X k n (wa ++ w0) lv st pc := by
  refine j_callVi C G hM q0 hq hcl hR hkn ((List.range w0.length).map (fun i => i + wa.length)) j_plcA (va_ndA _ _) hAs hst hcat hd hw ?_
  rw [jrep_suf _ _ _ (by have h9 := congrArg List.length hw; simpa using h9)]
  exact kk
theorem j_lawQf (C : jK l R D ca nL X cc y0 ret0) {r : UInt32} (G : jGV y0.cls idx y cb maxL ret na) (hM : jM l D ca y cb maxL ret fr loc 0 0 (.ref b :: As) w0 (jD (some (.float r)) w1)) (q0 : Nat) {ci : Nat} {fs : List Value} (hq : (wa ++ w0)[q0]? = some (b, .inr (ci, fs))) (hcl : ∀ r, vwCl[ci]? = some r → r.1 = y.cls) (hR : fr + 1 ≤ R.frames ∧ 8 + (maxL + 11) + loc ≤ R.locals) (hkn : k ≤ R.cells ∧ n ≤ R.slots) (hAs : As.length = na) (hst : st = As.reverse ++ .ref b :: rest) (hcat : (rest.map fun v => v.category).sum ≤ 8) (hd : decode cc pc = .ok (.invokevirtual idx, 3)) (hw : w1.map Prod.fst = w0.map Prod.fst) (kk : J l R D nL X k n (wa ++ w1) lv (.float r :: rest) (pc + 3)) : J l R D nL X k n (wa ++ w0) lv st pc := by
  refine j_callVf C G hM q0 hq hcl hR hkn ((List.range w0.length).map (fun i => i + wa.length)) j_plcA (va_ndA _ _) hAs hst hcat hd hw ?_
  rw [jrep_suf _ _ _ (by have h9 := congrArg List.length hw; simpa using h9)]
  exact kk
end LW
/-- a call of a method that reads the static arrays, the world's first part being its own -/
theorem j_lawPS {ts : Nat → Nat} {l : Launch} {R : Room} {D : va_G} {ca : Nat → ClassId} {nL : Nat} {X : jX} {cc : ByteArray} {y0 : MethodName} {ret0 : Option FieldType} {k n pc : Nat} {w0 wb w1 : va_W} {lv : jLv} {st As rest : List Value} {idx na fr loc maxL b : Nat} {y : MethodName} {cb : ByteArray} {ret : Option FieldType} (C : jK l R D ca nL X cc y0 ret0) (Sx : jSX ts X) {r : Int32} (G : jGV y0.cls idx y cb maxL ret na) (hM : jMS ts l D ca y cb maxL ret fr loc 0 0 (.ref b :: As) w0 (jD (some (.int r)) w1)) (q0 : Nat) {ci : Nat} {fs : List Value} (hq : (w0 ++ wb)[q0]? = some (b, .inr (ci, fs))) (hcl : ∀ r, vwCl[ci]? = some r → r.1 = y.cls) (hR : fr + 1 ≤ R.frames ∧ 8 + (maxL + 11) + loc ≤ R.locals) (hkn : k ≤ R.cells ∧ n ≤ R.slots) (hAs : As.length = na) (hst : st = As.reverse ++ .ref b :: rest) (hcat : (rest.map fun v => v.category).sum ≤ 8) (hd : decode cc pc = .ok (.invokevirtual idx, 3)) (hw : w1.map Prod.fst = w0.map Prod.fst) (kk : J l R D nL X k n (w1 ++ wb) lv (.int r :: rest) (pc + 3)) : J l R D nL X k n (w0 ++ wb) lv st pc := by
  obtain ⟨p, e, s, m, args, below, meth, c, A, H0, Q⟩ := X
  obtain ⟨hx, hb, hml, hown, hts, hK, hlk, hA, hr, hnm0, hjn⟩ := C
  obtain ⟨rfl, hT⟩ := Sx
  intro H locs ls hP hD hS hl
  subst hst
  have hK0 : va_K D vwCl (jT ca) s := hK
  obtain ⟨g1, g2, g3, g4⟩ := G
  have hci : ∃ r, vwCl[ci]? = some r := by
    obtain ⟨r, h1, -⟩ := hP q0 _ hq
    exact ⟨r, h1⟩
  obtain ⟨r0, hr0⟩ := hci
  have hrec := va_recv hK0 hP (ci := ci) (q0 := q0) hr0 hq
  rw [hcl r0 hr0] at hrec
  have hF : ∀ q, va_A w0 H.size q → A q := va_free hD hS hA _ j_plcP
  have hbl : FrameBlind (va_Pc (.ref b :: As) (fun U => U.heap.size = H.size ∧ va_P D vwCl w0 U.heap ∧ va_K D vwCl (jT ca) U ∧ va_D (fun _ => True) w0 ∧ jN U ∧ jX1 ts (va_A w0 H.size) U U.heap)) := by
    intro a U g mk q
    obtain ⟨q0, q1, qP, qK, qD, qN, qX⟩ := q
    exact ⟨q0, q1, qP, va_K.moved (u := U) (U := U.calling g mk a) (Vm.Alike.refl U.vm) qK, qD, jN_blind qN, jX1_to (u := U) (U := U.calling g mk a) (Vm.Alike.refl U.vm) (fun _ _ _ => rfl) (fun _ z => z) qX⟩
  refine j_back (va_runV (As := As) (rest := rest) (C := y.cls) ⟨hx, hb, hml, hown, hts⟩ (hM H.size) (cwV na hts g1 rfl rfl rfl ⟨rfl, g2, g3, g4⟩ hR) ⟨hbl, hrec, fun U hU hW => ⟨rfl, by rw [hU], by rw [hU]; exact hP.sub _ (j_fm j_plcP), va_K.moved hW.alike hK0, (hD.sub _ (va_nd_range _) j_plcP).weaken (fun _ _ _ _ => trivial), jN_warm hW hjn, by rw [hU]; exact jX1_to hW.alike (fun a h1 h2 => hS.2.1 a h1 h2) hF hT⟩⟩ rfl hAs hl.1 rfl (lv_room hcat) hd ⟨hkn.1, hkn.2⟩) hD hS hl hA _ j_plcP (fun w1 => jrep (w0 ++ wb) (List.range w0.length) w1) (fun v w2 H1 h1 h2 _ h3 _ => j_repl hP hD j_plcP (va_nd_range _) (by rw [h1.2, hw]) h2 h3) (fun v w2 h => ?_)
  obtain ⟨rfl, rfl⟩ := h
  rw [jrep_pre _ _ _ (by have h9 := congrArg List.length hw; simpa using h9)]
  exact kk
/-- the law's own script -/
def jLX (b L : Nat) (xs : Nat → Int32) (X : jX) : Prop := match X with
  | (_, _, s, _, _, _, _, _, A, H0, _) => va_X b L xs s H0 ∧ b < H0.size ∧ ¬ A b
section LS
variable {l : Launch} {R : Room} {D : va_G} {ca : Nat → ClassId} {nL : Nat} {X : jX} {cc : ByteArray} {y0 : MethodName} {ret0 : Option FieldType} {k n pc : Nat} {ws : va_W} {lv : jLv} {st : List Value} {b L : Nat} {xs : Nat → Int32}
theorem j_sld (C : jK l R D ca nL X cc y0 ret0) (S0 : jLX b L xs X) {i : Int32} (hd : decode cc pc = .ok (.iaload, 1)) (hin : vp_in i L) (h : J l R D nL X k n ws lv (.int (xs i.toNatClampNeg) :: st) (pc + 1)) : J l R D nL X k n ws lv (.int i :: .ref b :: st) pc := by
  obtain ⟨p, e, s, m, args, below, meth, c, A, H0, Q⟩ := X
  obtain ⟨hx, hb, hml, hown, hts, hK, hlk, hA, hr, hnm0, hjn⟩ := C
  intro H locs ls hP hD hS hl
  exact va_sld hx hb S0.1 S0.2.1 S0.2.2 hS hin hd (h H locs ls hP hD hS hl)
theorem j_slen (C : jK l R D ca nL X cc y0 ret0) (S0 : jLX b L xs X) (hd : decode cc pc = .ok (.arraylength, 1)) (h : J l R D nL X k n ws lv (.int (Int32.ofNat L) :: st) (pc + 1)) : J l R D nL X k n ws lv (.ref b :: st) pc := by
  obtain ⟨p, e, s, m, args, below, meth, c, A, H0, Q⟩ := X
  obtain ⟨hx, hb, hml, hown, hts, hK, hlk, hA, hr, hnm0, hjn⟩ := C
  intro H locs ls hP hD hS hl
  exact va_slen hx hb S0.1 S0.2.1 S0.2.2 hS hd (h H locs ls hP hD hS hl)
theorem j_dcmp (C : jK l R D ca nL X cc y0 ret0) {x y : UInt64} {op : CmpOp} (hd : decode cc pc = .ok (.dcmp op, 1)) (h : J l R D nL X k n ws lv (.int (Op.cmpValue (FP.dcmp x y) op) :: st) (pc + 1)) : J l R D nL X k n ws lv (.double y :: .double x :: st) pc := by
  obtain ⟨p, e, s, m, args, below, meth, c, A, H0, Q⟩ := X
  obtain ⟨hx, hb, hml, hown, hts, hK, hlk, hA, hr, hnm0, hjn⟩ := C
  intro H locs ls hP hD hS hl
  exact lv_dcmp hx hb hd (h H locs ls hP hD hS hl)
theorem j_f2d {p : Program} {e : Env} {s : State} {m : MethodId} {args : Array Value} {below : List Frame} {meth : Method} {c : Code} {A : Nat → Prop} {H0 : Heap} {Q : State → Prop} {d0 : Drawn} (hd0 : s.drawn.sameBut d0 lw_cs) (C : jK l R D ca nL (p, e, s.setDrawn d0, m, args, below, meth, c, A, H0, Q) cc y0 ret0) {x : UInt32} (hd : decode cc pc = .ok (.f2d, 1)) (h : ∀ (r : UInt64) (d1 : Drawn), alike64 r (FP.f2d x) = true → s.drawn.sameBut d1 lw_cs → J l R D nL (p, e, s.setDrawn d1, m, args, below, meth, c, A, H0, Q) k n ws lv (.double r :: st) (pc + 1)) : J l R D nL (p, e, s.setDrawn d0, m, args, below, meth, c, A, H0, Q) k n ws lv (.float x :: st) pc := by
  obtain ⟨hx, hb, hml, hown, hts, hK, hlk, hA, hr, hnm0, hjn⟩ := C
  intro H locs ls hP hD hS hl
  exact lv_f2d_any hd0 lw_bits hx hb hd (fun r d1 h1 h2 => h r d1 h1 h2 H locs ls hP hD hS hl)
end LS
