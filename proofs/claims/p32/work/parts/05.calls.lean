abbrev jw (y : MethodName) (cc : ByteArray) (nL : Nat) (ret : Option FieldType) : List Cond := Cond.code y cc nL ret :: jAll
def jQ (D : va_G) (ca : Nat → ClassId) (w0 : va_W) (sz : Nat) (post : Option Value → va_W → Prop) : Array Value → State → Outcome → State → Prop := fun _ st oc t =>
  (∃ (v : Option Value) (w1 : va_W), oc = .returned v ∧ post v w1 ∧ va_P D vwCl w1 t.heap ∧ va_K D vwCl (jT ca) t ∧ va_D (va_A w0 sz) w1) ∧ va_F (va_A w0 sz) st t
/-- the contract of the method y: with the arguments av and the cells w0 it returns what post says -/
def jM (l : Launch) (D : va_G) (ca : Nat → ClassId) (y : MethodName) (cc : ByteArray) (nL : Nat) (ret : Option FieldType) (fr loc mc ms : Nat) (av : List Value) (w0 : va_W) (post : Option Value → va_W → Prop) : Prop :=
  ∀ sz : Nat, Met l y (jw y cc nL ret) ({ frames := fr, cells := mc, slots := ms, locals := loc } : Room) (va_Pc av (fun U => U.heap.size = sz ∧ va_P D vwCl w0 U.heap ∧ va_K D vwCl (jT ca) U ∧ va_D (fun _ => True) w0 ∧ jN U)) (jQ D ca w0 sz post) mc ms (va_A w0 sz)
/-- how a method may end: the instruction, the type, the value -/
def jR (cc : ByteArray) (pc : Nat) (ret : Option FieldType) (v : Option Value) : Prop :=
  (∃ (x : Int32) (ty : FieldType), v = some (.int x) ∧ ret = some ty ∧ narrow ty (.int x) = .int x ∧ decode cc pc = .ok (.ireturn, 1)) ∨
  (∃ x : UInt32, v = some (.float x) ∧ ret = some .float ∧ decode cc pc = .ok (.freturn, 1)) ∨
  (v = none ∧ ret = none ∧ decode cc pc = .ok (.return_, 1)) ∨
  (∃ (w : Value) (C : String), v = some w ∧ ret = some (.object C) ∧ (w = .null ∨ ∃ a, w = .ref a) ∧ decode cc pc = .ok (.areturn, 1))
def jE (l : Launch) (R : Room) (D : va_G) (nL : Nat) (X : jX) (cc : ByteArray) (k n : Nat) (ret : Option FieldType) (post : Option Value → va_W → Prop) : Prop :=
  ∀ (ws : va_W) (lv : jLv) (pc : Nat) (v : Option Value), post v ws → jR cc pc ret v → J l R D nL X k n ws lv v.toList pc
theorem jM_of {l : Launch} {D : va_G} {ca : Nat → ClassId} {y : MethodName} {cc : ByteArray} {nL : Nat} {ret : Option FieldType} {fr loc mc ms : Nat} {av : List Value} {w0 : va_W} {post : Option Value → va_W → Prop} (lv : jLv) (hy : plainName y.cls = true) (hlen : (lg_sl av).length ≤ nL) (hlv : lv_args 0 av = lv)
    (h : ∀ X, jK l { frames := fr, cells := mc, slots := ms, locals := loc } D ca nL X cc y ret → jE l { frames := fr, cells := mc, slots := ms, locals := loc } D nL X cc mc ms ret post → J l { frames := fr, cells := mc, slots := ms, locals := loc } D nL X 0 0 w0 lv [] 0) : jM l D ca y cc nL ret fr loc mc ms av w0 post := by
  intro sz
  refine Met.ofW (cc := cc) (maxL := nL) (ret := ret) hy rfl ?_
  intro p e s m args below meth c s₁ B hml hv
  obtain ⟨rfl, hsz, hP, hK, hD0, hN⟩ := hv
  subst hsz
  have hts := atoms_spec (ws := jw y cc nL ret) B.pre
  have hown : s.vm.findClass y.cls = some m.cls := findClass_of_methodNamed B.named
  rw [lg_entry_eq]
  have hl := lv_entry av (n := nL) hlen
  rw [hlv] at hl
  have hx := B.exec
  have hb := B.bytes
  have hr := B.returns
  have hlk := B.notSynchronized
  refine h (p, e, s, m, av.toArray, below, meth, c, va_A w0 s.heap.size, s.heap, MQ below (jQ D ca w0 s.heap.size post) av.toArray s mc ms (va_A w0 s.heap.size)) ⟨hx, hb, hml, hown, fun w hw => hts w (List.mem_cons_of_mem _ hw), hK, hlk, fun q h => Or.inr h, hr, fun h => (name_of_methodNamed B.named B.method).1.trans h, hN⟩ ?_ s.heap [] _ hP hD0.self va_S.rf hl
  intro ws lv pc v hp hR H locs ls hP hD hS hl
  rcases hR with ⟨x, ty, rfl, h2, h3, h4⟩ | ⟨x, rfl, h2, h4⟩ | ⟨rfl, h2, h4⟩ | ⟨w, C, rfl, h2, h3, h4⟩
  · exact W.zret hx hb (hr.trans h2) h3 (fun t ht hW => ⟨⟨_, ws, rfl, hp, by rw [ht]; exact hP, va_K.moved hW.alike hK, hD⟩, hS.F ht⟩) hS.2.2 h4 hlk
  · exact W.fret hx hb (hr.trans h2) (fun t ht hW => ⟨⟨_, ws, rfl, hp, by rw [ht]; exact hP, va_K.moved hW.alike hK, hD⟩, hS.F ht⟩) hS.2.2 h4 hlk
  · exact W.vret hx hb (hr.trans h2) (fun t ht hW => ⟨⟨_, ws, rfl, hp, by rw [ht]; exact hP, va_K.moved hW.alike hK, hD⟩, hS.F ht⟩) hS.2.2 h4 hlk
  · exact W.aret hx hb (hr.trans h2) (Or.inl ⟨C, rfl⟩) h3 (fun t ht hW => ⟨⟨_, ws, rfl, hp, by rw [ht]; exact hP, va_K.moved hW.alike hK, hD⟩, hS.F ht⟩) hS.2.2 h4 hlk
/-- ws with the cells w at the places is -/
def jrep : va_W → List Nat → va_W → va_W
  | ws, i :: is, q :: w => jrep (ws.set i q) is w
  | ws, _, _ => ws
theorem jrep_len : ∀ (is : List Nat) (ws w : va_W), (jrep ws is w).length = ws.length
  | [], ws, w => by unfold jrep; rfl
  | i :: is, ws, [] => by unfold jrep; rfl
  | i :: is, ws, q :: w => by
    unfold jrep
    rw [jrep_len is (ws.set i q) w, List.length_set]
theorem jrep_get : ∀ (is : List Nat) (ws w : va_W), is.length = w.length → va_nd is = true → ∀ (k : Nat) (q : Nat × va_E), (jrep ws is w)[k]? = some q → (∃ j : Nat, is[j]? = some k ∧ w[j]? = some q) ∨ (k ∉ is ∧ ws[k]? = some q)
  | [], ws, w, _, _, k, q, h => by
    unfold jrep at h
    exact Or.inr ⟨List.not_mem_nil, h⟩
  | i :: is, ws, [], hl, _, k, q, h => by simp at hl
  | i :: is, ws, r :: w, hl, hn, k, q, h => by
    unfold jrep at h
    simp only [va_nd, Bool.and_eq_true, decide_eq_true_eq] at hn
    rcases jrep_get is (ws.set i r) w (by simpa using hl) hn.2 k q h with ⟨j, h1, h2⟩ | ⟨h1, h2⟩
    · exact Or.inl ⟨j + 1, h1, h2⟩
    · by_cases hk : k = i
      · subst hk
        by_cases hb : k < ws.length
        · rw [List.getElem?_set_self hb] at h2
          exact Or.inl ⟨0, rfl, h2⟩
        · have h3 := (List.getElem?_eq_some_iff.mp h2).1
          rw [List.length_set] at h3
          exact absurd h3 hb
      · rw [List.getElem?_set_ne (Ne.symm hk)] at h2
        exact Or.inr ⟨fun z => (List.mem_cons.mp z).elim hk h1, h2⟩
theorem jrep_self : ∀ (is : List Nat) (ws w : va_W), is.map (fun i => ws[i]?) = w.map some → jrep ws is w = ws
  | [], ws, w, _ => by unfold jrep; rfl
  | i :: is, ws, [], h => by simp at h
  | i :: is, ws, q :: w, h => by
    simp only [List.map_cons, List.cons.injEq] at h
    have hs : ws.set i q = ws := by
      apply List.ext_getElem?
      intro k
      by_cases hk : k = i
      · subst hk
        have hl := (List.getElem?_eq_some_iff.mp h.1).1
        rw [List.getElem?_set_self hl, h.1]
      · rw [List.getElem?_set_ne (Ne.symm hk)]
    unfold jrep
    rw [hs]
    exact jrep_self is ws w h.2
/-- where a list of places is that of w0's cells in ws -/
theorem j_plc {ws w0 : va_W} {is : List Nat} (hC : is.map (fun i => ws[i]?) = w0.map some) {j : Nat} {q : Nat × va_E} (h : w0[j]? = some q) : ∃ i, is[j]? = some i ∧ ws[i]? = some q := by
  have h1 := congrArg (fun z => z[j]?) hC
  simp only [List.getElem?_map, h, Option.map_some] at h1
  cases hi : is[j]? with
  | none => rw [hi] at h1; cases h1
  | some i => rw [hi] at h1; exact ⟨i, rfl, Option.some.inj h1⟩
theorem j_plc2 {ws w0 : va_W} {is : List Nat} (hC : is.map (fun i => ws[i]?) = w0.map some) {j i : Nat} (h : is[j]? = some i) : ∃ q, w0[j]? = some q ∧ ws[i]? = some q := by
  have h1 := congrArg (fun z => z[j]?) hC
  simp only [List.getElem?_map, h, Option.map_some] at h1
  cases hi : w0[j]? with
  | none => rw [hi] at h1; cases h1
  | some q => rw [hi] at h1; exact ⟨q, rfl, Option.some.inj h1⟩
/-- behind a call that makes no cell: its cells stand in their places -/
theorem j_repl {A : Nat → Prop} {D : va_G} {ws w0 w1 : va_W} {H H1 : Heap} {is : List Nat} (hP : va_P D vwCl ws H) (hD : va_D A ws) (hC : is.map (fun i => ws[i]?) = w0.map some) (hn : va_nd is = true) (hw : w1.map Prod.fst = w0.map Prod.fst)
    (hk : ∀ q : Nat, q < H.size → ¬ va_A w0 H.size q → H1[q]? = H[q]?) (hP1 : va_P D vwCl w1 H1) : va_P D vwCl (jrep ws is w1) H1 ∧ va_D A (jrep ws is w1) := by
  have hll : is.length = w1.length := by
    have h1 := congrArg List.length hC
    have h2 := congrArg List.length hw
    simp only [List.length_map] at h1 h2
    omega
  have hfst : ∀ (j : Nat) (q : Nat × va_E), w1[j]? = some q → ∃ q0, w0[j]? = some q0 ∧ q0.1 = q.1 := by
    intro j q hq
    have h2 := congrArg (fun z => z[j]?) hw
    simp only [List.getElem?_map, hq, Option.map_some] at h2
    cases hz : w0[j]? with
    | none => rw [hz] at h2; cases h2
    | some q0 => rw [hz] at h2; exact ⟨q0, rfl, (Option.some.inj h2).symm⟩
  have key : ∀ (i : Nat) (q : Nat × va_E), (jrep ws is w1)[i]? = some q → ∃ q0, ws[i]? = some q0 ∧ q0.1 = q.1 := by
    intro i q hq
    rcases jrep_get is ws w1 hll hn i q hq with ⟨j, h1, h2⟩ | ⟨h1, h2⟩
    · obtain ⟨q0, h3, h4⟩ := hfst j q h2
      obtain ⟨q2, h5, h6⟩ := j_plc2 hC h1
      rw [h3] at h5
      cases h5
      exact ⟨q0, h6, h4⟩
    · exact ⟨q, h2, rfl⟩
  refine ⟨fun i q hq => ?_, fun i j x y hx hy hxy => ?_, fun i q hq => ?_⟩
  · rcases jrep_get is ws w1 hll hn i q hq with ⟨j, h1, h2⟩ | ⟨h1, h2⟩
    · exact hP1 j q h2
    · refine (hP i q h2).kept (hk q.1 (hP i q h2).lt (fun z => ?_))
      rcases z with ⟨j, e, h3⟩ | h3
      · obtain ⟨i2, h4, h5⟩ := j_plc hC h3
        have := hD.1 i i2 q (q.1, e) h2 h5 rfl
        subst this
        exact h1 (List.mem_of_getElem? h4)
      · have := (hP i q h2).lt
        omega
  · obtain ⟨x0, h1, h2⟩ := key i x hx
    obtain ⟨y0, h3, h4⟩ := key j y hy
    exact hD.1 i j x0 y0 h1 h3 (by rw [h2, h4, hxy])
  · obtain ⟨q0, h1, h2⟩ := key i q hq
    rw [← h2]
    exact hD.2 i q0 h1
theorem j_back {l : Launch} {R : Room} {D : va_G} {ca : Nat → ClassId} {nL : Nat} {p : Program} {e : Env} {s : State} {m : MethodId} {args : Array Value} {below : List Frame} {meth : Method} {c : Code} {A : Nat → Prop} {H0 H : Heap} {Q : State → Prop} {k n mc ms pc : Nat} {ws w0 : va_W} {lv : jLv} {st0 rest : List Value} {locs : List Loc} {ls : Array Slot} {a : Array Value} {post : Option Value → va_W → Prop}
    (hr : va_Run p l e R s m args below meth c H locs k n mc ms (F0 m pc ls st0) rest (jQ D ca w0 H.size post a) (va_A w0 H.size)) (hD : va_D A ws) (hS : va_S A H0 H locs) (hl : lv_has ls nL lv) (hA : ∀ q, H0.size ≤ q → A q) (is : List Nat) (hC : is.map (fun i => ws[i]?) = w0.map some) (mk : va_W → va_W)
    (hmk : ∀ (v : Option Value) (w1 : va_W) (H1 : Heap), post v w1 → (∀ q : Nat, q < H.size → ¬ va_A w0 H.size q → H1[q]? = H[q]?) → (∀ q, va_A w0 H.size q → A q) → va_P D vwCl w1 H1 → va_D (va_A w0 H.size) w1 → va_P D vwCl (mk w1) H1 ∧ va_D A (mk w1))
    (kk : ∀ (v : Option Value) (w1 : va_W), post v w1 → J l R D nL (p, e, s, m, args, below, meth, c, A, H0, Q) (k + mc) (n + ms) (mk w1) lv (v.toList ++ rest) (pc + 3)) : W p l e R s m args below meth c H locs k n Q (F0 m pc ls st0) := by
  have hF : ∀ q, va_A w0 H.size q → A q := va_free hD hS hA is hC
  intro T hT X'
  obtain ⟨v, st₀, t, T', L, h0, X1, hL, e1, e2, ⟨⟨v', w1, hv, hp, hP1, hK1, hD1⟩, hz, hk⟩, st⟩ := hr T hT X'
  cases hv
  rw [h0] at hz hk
  obtain ⟨hP2, hD2⟩ := hmk v w1 T'.heap hp (fun q h1 h2 => by rw [e1]; exact hk q h1 h2) hF (by rw [e1]; exact hP1) hD1
  obtain ⟨t2, a1, b1⟩ := kk v w1 hp T'.heap (locs ++ L) ls hP2 hD2
    ⟨Nat.le_trans hS.1 (by rw [e1]; exact hz), fun q h1 h2 => by rw [e1, hk q (Nat.lt_of_lt_of_le h1 hS.1) (fun z => h2 (hF q z))]; exact hS.2.1 q h1 h2, fun q hq => by
      rcases List.mem_append.mp hq with h | h
      · exact hS.2.2 q h
      · exact hF _ (hL q h)⟩ hl T' rfl X1
  exact ⟨t2, st t2 a1, b1⟩
/-- what is known of a call's place in the code -/
def jGV (own : String) (idx : Nat) (y : MethodName) (cb : ByteArray) (maxL : Nat) (ret : Option FieldType) (na : Nat) : Prop := GoodIn jAll (wsV own idx y.cls y (jw y cb maxL ret)) ∧ y.cls ≠ "java/lang/invoke/MethodHandle" ∧ y.cls ≠ "java/lang/invoke/VarHandle" ∧ (parseMethodDescriptor y.desc).map (fun d => d.parameters.length) = some na
def jGS (own : String) (idx : Nat) (y : MethodName) (cb : ByteArray) (maxL : Nat) (ret : Option FieldType) (na : Nat) : Prop := y.cls = own ∧ GoodIn jAll (wsS own idx y (jw y cb maxL ret)) ∧ y.cls ≠ "java/lang/invoke/MethodHandle" ∧ y.cls ≠ "java/lang/invoke/VarHandle" ∧ (parseMethodDescriptor y.desc).map (fun d => d.parameters.length) = some na
def jGSN (own : String) (idx : Nat) (y : MethodName) (host : String) (cb : ByteArray) (maxL : Nat) (ret : Option FieldType) (na : Nat) : Prop := Cond.methodLinkNest own idx y host ∈ jNest ∧ Cond.static y ∈ jAll ∧ Cond.initialized y.cls ∈ jAll ∧ GoodIn jAll (jw y cb maxL ret) ∧ y.cls ≠ "java/lang/invoke/MethodHandle" ∧ y.cls ≠ "java/lang/invoke/VarHandle" ∧ (parseMethodDescriptor y.desc).map (fun d => d.parameters.length) = some na
def jGI (own : String) (idx : Nat) (y : MethodName) (cb : ByteArray) (maxL : Nat) (na : Nat) : Prop := y.name = "<init>" ∧ GoodIn jAll (jw y cb maxL none) ∧ Cond.initialized y.cls ∈ jAll ∧ Cond.methodLink own idx y ∈ jAll ∧ Cond.instanceMethod y ∈ jAll ∧ y.cls ≠ "java/lang/invoke/MethodHandle" ∧ y.cls ≠ "java/lang/invoke/VarHandle" ∧ (parseMethodDescriptor y.desc).map (fun d => d.parameters.length) = some na
def jGIN (own : String) (idx : Nat) (y : MethodName) (host : String) (cb : ByteArray) (maxL : Nat) (na : Nat) : Prop := y.name = "<init>" ∧ Cond.methodLinkNest own idx y host ∈ jNest ∧ GoodIn jAll (jw y cb maxL none) ∧ Cond.initialized y.cls ∈ jAll ∧ Cond.instanceMethod y ∈ jAll ∧ y.cls ≠ "java/lang/invoke/MethodHandle" ∧ y.cls ≠ "java/lang/invoke/VarHandle" ∧ (parseMethodDescriptor y.desc).map (fun d => d.parameters.length) = some na
theorem jN_warm {s U : State} (hW : s.WarmedH U.vm) (h : jN s) : jN U := by
  refine ⟨fun w hw => ?_, va_AO.moved hW.alike h.2⟩
  have h1 := h.1 w hw
  simp only [jNest, List.mem_cons, List.not_mem_nil, or_false] at hw
  rcases hw with rfl | rfl | rfl | rfl | rfl | rfl | rfl | rfl | rfl | rfl | rfl <;> exact va_Nw.warmM hW h1
theorem jN_blind {U : State} {g : JFrame} {mk : MethodId} {a : Array Value} (h : jN U) : jN (U.calling g mk a) := by
  refine ⟨fun w hw => ?_, va_AO.moved (Vm.Alike.refl U.vm) h.2⟩
  have h1 := h.1 w hw
  simp only [jNest, List.mem_cons, List.not_mem_nil, or_false] at hw
  rcases hw with rfl | rfl | rfl | rfl | rfl | rfl | rfl | rfl | rfl | rfl | rfl <;> exact va_Nw.same rfl (u := U) (U := U.calling g mk a) rfl h1
theorem jP_blind {D : va_G} {ca : Nat → ClassId} {av : List Value} {w0 : va_W} {sz : Nat} : FrameBlind (va_Pc av (fun U => U.heap.size = sz ∧ va_P D vwCl w0 U.heap ∧ va_K D vwCl (jT ca) U ∧ va_D (fun _ => True) w0 ∧ jN U)) := by
  intro a U g mk q
  obtain ⟨q0, q1, qP, qK, qD, qN⟩ := q
  exact ⟨q0, q1, qP, va_K.moved (u := U) (U := U.calling g mk a) (Vm.Alike.refl U.vm) qK, qD, jN_blind qN⟩
