section LR
variable {l : Launch} {R : Room} {D : va_G} {ca : Nat → ClassId} {nL : Nat} {X : jX} {cc : ByteArray} {y0 : MethodName} {ret0 : Option FieldType} {k n pc : Nat} {ws : va_W} {lv : jLv} {st As rest : List Value} {idx na fr loc maxL b : Nat} {y : MethodName} {cb : ByteArray} {ret : Option FieldType} {post : Option Value → va_W → Prop} {ts : Nat → Nat}
theorem j_pop (C : jK l R D ca nL X cc y0 ret0) {v : Value} (hd : decode cc pc = .ok (.pop, 1)) (hva : v.category = 1) (h : J l R D nL X k n ws lv st (pc + 1)) : J l R D nL X k n ws lv (v :: st) pc := by
  obtain ⟨p, e, s, m, args, below, meth, c, A, H0, Q⟩ := X
  obtain ⟨hx, hb, hml, hown, hts, hK, hlk, hA, hr, hnm0, hjn⟩ := C
  intro H locs ls hP hD hS hl
  exact lv_pop hx hb hd hva (h H locs ls hP hD hS hl)
/-- a call of a static method with any answer, the world being its own -/
theorem j_callSP (C : jK l R D ca nL X cc y0 ret0) (G : jGS y0.cls idx y cb maxL ret na) (hM : jM l D ca y cb maxL ret fr loc 0 0 As ws post) (hR : fr + 1 ≤ R.frames ∧ 8 + (maxL + 11) + loc ≤ R.locals) (hkn : k ≤ R.cells ∧ n ≤ R.slots) (hAs : As.length = na) (hst : st = As.reverse ++ rest) (hcat : (rest.map fun v => v.category).sum ≤ 8) (hd : decode cc pc = .ok (.invokestatic idx, 3)) (hw : ∀ (v : Option Value) (w1 : va_W), post v w1 → w1.map Prod.fst = ws.map Prod.fst) (kk : ∀ (v : Option Value) (w1 : va_W), post v w1 → J l R D nL X k n w1 lv (v.toList ++ rest) (pc + 3)) : J l R D nL X k n ws lv st pc := by
  refine j_callS C G hM hR hkn (List.range ws.length) (j_all ws) (va_nd_range _) hAs hst hcat hd hw (fun v w1 h => ?_)
  rw [jrep_all (by have h9 := congrArg List.length (hw v w1 h); simpa using h9)]
  exact kk v w1 h
theorem jS_blind {av : List Value} {w0 : va_W} {sz : Nat} : FrameBlind (va_Pc av (fun U => U.heap.size = sz ∧ va_P D vwCl w0 U.heap ∧ va_K D vwCl (jT ca) U ∧ va_D (fun _ => True) w0 ∧ jN U ∧ jX1 ts (va_A w0 sz) U U.heap)) := by
  intro a U g mk q
  obtain ⟨q0, q1, qP, qK, qD, qN, qX⟩ := q
  exact ⟨q0, q1, qP, va_K.moved (u := U) (U := U.calling g mk a) (Vm.Alike.refl U.vm) qK, qD, jN_blind qN, jX1_to (u := U) (U := U.calling g mk a) (Vm.Alike.refl U.vm) (fun _ _ _ => rfl) (fun _ z => z) qX⟩
/-- a call of a method that reads the static arrays, the world being its own -/
theorem j_callVX (C : jK l R D ca nL X cc y0 ret0) (Sx : jSX ts X) (G : jGV y0.cls idx y cb maxL ret na) (hM : jMS ts l D ca y cb maxL ret fr loc 0 0 (.ref b :: As) ws post) (q0 : Nat) {ci : Nat} {fs : List Value} (hq : ws[q0]? = some (b, .inr (ci, fs))) (hcl : ∀ r, vwCl[ci]? = some r → r.1 = y.cls) (hR : fr + 1 ≤ R.frames ∧ 8 + (maxL + 11) + loc ≤ R.locals) (hkn : k ≤ R.cells ∧ n ≤ R.slots) (hAs : As.length = na) (hst : st = As.reverse ++ .ref b :: rest) (hcat : (rest.map fun v => v.category).sum ≤ 8) (hd : decode cc pc = .ok (.invokevirtual idx, 3)) (hw : ∀ (v : Option Value) (w1 : va_W), post v w1 → w1.map Prod.fst = ws.map Prod.fst) (kk : ∀ (v : Option Value) (w1 : va_W), post v w1 → J l R D nL X k n w1 lv (v.toList ++ rest) (pc + 3)) : J l R D nL X k n ws lv st pc := by
  obtain ⟨p, e, s, m, args, below, meth, c, A, H0, Q⟩ := X
  obtain ⟨hx, hb, hml, hown, hts, hK, hlk, hA, hr, hnm0, hjn⟩ := C
  obtain ⟨rfl, hT⟩ := Sx
  intro H locs ls hP hD hS hl
  subst hst
  have hK0 : va_K D vwCl (jT ca) s := hK
  obtain ⟨g1, g2, g3, g4⟩ := G
  have hci : ∃ r, vwCl[ci]? = some r := by
    obtain ⟨r, h1, -⟩ := hP q0 _ hq
    exact ⟨r, h1⟩
  obtain ⟨r0, hr0⟩ := hci
  have hrec := va_recv hK0 hP (ci := ci) (q0 := q0) hr0 hq
  rw [hcl r0 hr0] at hrec
  have hF : ∀ q, va_A ws H.size q → A q := va_free hD hS hA _ (j_all ws)
  refine j_back (va_runV (As := As) (rest := rest) (C := y.cls) ⟨hx, hb, hml, hown, hts⟩ (hM H.size) (cwV na hts g1 rfl rfl rfl ⟨rfl, g2, g3, g4⟩ hR) ⟨jS_blind, hrec, fun U hU hW => ⟨rfl, by rw [hU], by rw [hU]; exact hP, va_K.moved hW.alike hK0, hD.weaken (fun _ _ _ _ => trivial), jN_warm hW hjn, by rw [hU]; exact jX1_to hW.alike (fun a h1 h2 => hS.2.1 a h1 h2) hF hT⟩⟩ rfl hAs hl.1 rfl (lv_room hcat) hd ⟨hkn.1, hkn.2⟩) hD hS hl hA _ (j_all ws) (fun w1 => jrep ws (List.range ws.length) w1) (fun v w2 H1 h1 h2 _ h3 _ => j_repl hP hD (j_all ws) (va_nd_range _) (hw v w2 h1) h2 h3) (fun v w2 h => ?_)
  rw [jrep_all (by have h9 := congrArg List.length (hw v w2 h); simpa using h9)]
  exact kk v w2 h
theorem j_callSX (C : jK l R D ca nL X cc y0 ret0) (Sx : jSX ts X) (G : jGS y0.cls idx y cb maxL ret na) (hM : jMS ts l D ca y cb maxL ret fr loc 0 0 As ws post) (hR : fr + 1 ≤ R.frames ∧ 8 + (maxL + 11) + loc ≤ R.locals) (hkn : k ≤ R.cells ∧ n ≤ R.slots) (hAs : As.length = na) (hst : st = As.reverse ++ rest) (hcat : (rest.map fun v => v.category).sum ≤ 8) (hd : decode cc pc = .ok (.invokestatic idx, 3)) (hw : ∀ (v : Option Value) (w1 : va_W), post v w1 → w1.map Prod.fst = ws.map Prod.fst) (kk : ∀ (v : Option Value) (w1 : va_W), post v w1 → J l R D nL X k n w1 lv (v.toList ++ rest) (pc + 3)) : J l R D nL X k n ws lv st pc := by
  obtain ⟨p, e, s, m, args, below, meth, c, A, H0, Q⟩ := X
  obtain ⟨hx, hb, hml, hown, hts, hK, hlk, hA, hr, hnm0, hjn⟩ := C
  obtain ⟨rfl, hT⟩ := Sx
  intro H locs ls hP hD hS hl
  subst hst
  have hK0 : va_K D vwCl (jT ca) s := hK
  obtain ⟨g0, g1, g2, g3, g4⟩ := G
  have hF : ∀ q, va_A ws H.size q → A q := va_free hD hS hA _ (j_all ws)
  refine j_back (va_runS (As := As) (rest := rest) ⟨hx, hb, hml, hown, hts⟩ (hM H.size) (cwS na hts g1 rfl rfl rfl ⟨g0, g2, g3, g4⟩ hR) ⟨jS_blind, fun U hU hW => ⟨rfl, by rw [hU], by rw [hU]; exact hP, va_K.moved hW.alike hK0, hD.weaken (fun _ _ _ _ => trivial), jN_warm hW hjn, by rw [hU]; exact jX1_to hW.alike (fun a h1 h2 => hS.2.1 a h1 h2) hF hT⟩⟩ rfl hAs hl.1 rfl (lv_room hcat) hd ⟨hkn.1, hkn.2⟩) hD hS hl hA _ (j_all ws) (fun w1 => jrep ws (List.range ws.length) w1) (fun v w2 H1 h1 h2 _ h3 _ => j_repl hP hD (j_all ws) (va_nd_range _) (hw v w2 h1) h2 h3) (fun v w2 h => ?_)
  rw [jrep_all (by have h9 := congrArg List.length (hw v w2 h); simpa using h9)]
  exact kk v w2 h
/-- a contract of a method that reads the law's script, with no world of its own -/
def jML (b L : Nat) (xs : Nat → Int32) (l : Launch) (D : va_G) (ca : Nat → ClassId) (y : MethodName) (cc : ByteArray) (nL : Nat) (ret : Option FieldType) (fr loc : Nat) (av : List Value) (post : Option Value → va_W → Prop) : Prop :=
  ∀ sz : Nat, Met l y (jw y cc nL ret) ({ frames := fr, cells := 0, slots := 0, locals := loc } : Room) (va_Pc av (fun U => U.heap.size = sz ∧ va_P D vwCl [] U.heap ∧ va_K D vwCl (jT ca) U ∧ va_D (fun _ => True) [] ∧ jN U ∧ (va_X b L xs U U.heap ∧ b < sz))) (jQ D ca [] sz post) 0 0 (va_A [] sz)
theorem jML_of {L : Nat} {xs : Nat → Int32} {av : List Value} (lv : jLv) (hy : plainName y.cls = true) (hlen : (lg_sl av).length ≤ nL) (hlv : lv_args 0 av = lv)
    (h : ∀ X, jK l { frames := fr, cells := 0, slots := 0, locals := loc } D ca nL X cc y ret → jE l { frames := fr, cells := 0, slots := 0, locals := loc } D nL X cc 0 0 ret post → jLX b L xs X → J l { frames := fr, cells := 0, slots := 0, locals := loc } D nL X 0 0 [] lv [] 0) : jML b L xs l D ca y cc nL ret fr loc av post := by
  intro sz
  refine Met.ofW (cc := cc) (maxL := nL) (ret := ret) hy rfl ?_
  intro p e s m args below meth c s₁ B hml hv
  obtain ⟨rfl, hsz, hP, hK, hD0, hN, hXb, hbl⟩ := hv
  subst hsz
  have hts := atoms_spec (ws := jw y cc nL ret) B.pre
  have hown : s.vm.findClass y.cls = some m.cls := findClass_of_methodNamed B.named
  rw [lg_entry_eq]
  have hl := lv_entry av (n := nL) hlen
  rw [hlv] at hl
  have hx := B.exec
  have hb := B.bytes
  have hr := B.returns
  have hlk := B.notSynchronized
  have hnA : ¬ va_A [] s.heap.size b := by
    rintro (⟨k, e, z⟩ | z)
    · simp at z
    · omega
  refine h (p, e, s, m, av.toArray, below, meth, c, va_A [] s.heap.size, s.heap, MQ below (jQ D ca [] s.heap.size post) av.toArray s 0 0 (va_A [] s.heap.size)) ⟨hx, hb, hml, hown, fun w hw => hts w (List.mem_cons_of_mem _ hw), hK, hlk, fun q h => Or.inr h, hr, fun h => (name_of_methodNamed B.named B.method).1.trans h, hN⟩ ?_ ⟨hXb, hbl, hnA⟩ s.heap [] _ hP hD0.self va_S.rf hl
  intro ws lv pc v hp hR H locs ls hP hD hS hl
  rcases hR with ⟨x, ty, rfl, h2, h3, h4⟩ | ⟨x, rfl, h2, h4⟩ | ⟨rfl, h2, h4⟩ | ⟨w, C, rfl, h2, h3, h4⟩
  · exact W.zret hx hb (hr.trans h2) h3 (fun t ht hW => ⟨⟨_, ws, rfl, hp, by rw [ht]; exact hP, va_K.moved hW.alike hK, hD⟩, hS.F ht⟩) hS.2.2 h4 hlk
  · exact W.fret hx hb (hr.trans h2) (fun t ht hW => ⟨⟨_, ws, rfl, hp, by rw [ht]; exact hP, va_K.moved hW.alike hK, hD⟩, hS.F ht⟩) hS.2.2 h4 hlk
  · exact W.vret hx hb (hr.trans h2) (fun t ht hW => ⟨⟨_, ws, rfl, hp, by rw [ht]; exact hP, va_K.moved hW.alike hK, hD⟩, hS.F ht⟩) hS.2.2 h4 hlk
  · exact W.aret hx hb (hr.trans h2) (Or.inl ⟨C, rfl⟩) h3 (fun t ht hW => ⟨⟨_, ws, rfl, hp, by rw [ht]; exact hP, va_K.moved hW.alike hK, hD⟩, hS.F ht⟩) hS.2.2 h4 hlk
theorem jL_blind {b L : Nat} {xs : Nat → Int32} {av : List Value} {sz : Nat} : FrameBlind (va_Pc av (fun U => U.heap.size = sz ∧ va_P D vwCl [] U.heap ∧ va_K D vwCl (jT ca) U ∧ va_D (fun _ => True) [] ∧ jN U ∧ (va_X b L xs U U.heap ∧ b < sz))) := by
  intro a U g mk q
  obtain ⟨q0, q1, qP, qK, qD, qN, qX, qb⟩ := q
  exact ⟨q0, q1, qP, va_K.moved (u := U) (U := U.calling g mk a) (Vm.Alike.refl U.vm) qK, qD, jN_blind qN, qX.moved (u := U) (U := U.calling g mk a) (Vm.Alike.refl U.vm), qb⟩
theorem j_callSL {L : Nat} {xs : Nat → Int32} (C : jK l R D ca nL X cc y0 ret0) (S0 : jLX b L xs X) (G : jGS y0.cls idx y cb maxL ret na) (hM : jML b L xs l D ca y cb maxL ret fr loc As post) (hR : fr + 1 ≤ R.frames ∧ 8 + (maxL + 11) + loc ≤ R.locals) (hkn : k ≤ R.cells ∧ n ≤ R.slots) (hAs : As.length = na) (hst : st = As.reverse ++ rest) (hcat : (rest.map fun v => v.category).sum ≤ 8) (hd : decode cc pc = .ok (.invokestatic idx, 3)) (hw : ∀ (v : Option Value) (w1 : va_W), post v w1 → w1 = []) (kk : ∀ (v : Option Value) (w1 : va_W), post v w1 → J l R D nL X k n ws lv (v.toList ++ rest) (pc + 3)) : J l R D nL X k n ws lv st pc := by
  obtain ⟨p, e, s, m, args, below, meth, c, A, H0, Q⟩ := X
  obtain ⟨hx, hb, hml, hown, hts, hK, hlk, hA, hr, hnm0, hjn⟩ := C
  obtain ⟨hXb, hbl, hbA⟩ := S0
  intro H locs ls hP hD hS hl
  subst hst
  have hK0 : va_K D vwCl (jT ca) s := hK
  obtain ⟨g0, g1, g2, g3, g4⟩ := G
  have hC0 : ([] : List Nat).map (fun i => ws[i]?) = ([] : va_W).map some := rfl
  refine j_back (va_runS (As := As) (rest := rest) ⟨hx, hb, hml, hown, hts⟩ (hM H.size) (cwS na hts g1 rfl rfl rfl ⟨g0, g2, g3, g4⟩ hR) ⟨jL_blind, fun U hU hW => ⟨rfl, by rw [hU], by rw [hU]; exact hP.sub [] rfl, va_K.moved hW.alike hK0, (hD.sub [] rfl hC0).weaken (fun _ _ _ _ => trivial), jN_warm hW hjn, by rw [hU]; exact (hXb.moved hW.alike).kept (hS.2.1 b hbl hbA), Nat.lt_of_lt_of_le hbl hS.1⟩⟩ rfl hAs hl.1 rfl (lv_room hcat) hd ⟨hkn.1, hkn.2⟩) hD hS hl hA _ hC0 (fun w1 => jrep ws [] w1) (fun v w2 H1 h1 h2 _ h3 _ => j_repl hP hD hC0 rfl (by rw [hw v w2 h1]) h2 h3) (fun v w2 h => ?_)
  have e0 : jrep ws [] w2 = ws := by cases w2 <;> (unfold jrep; rfl)
  rw [e0]
  exact kk v w2 h
end LR
