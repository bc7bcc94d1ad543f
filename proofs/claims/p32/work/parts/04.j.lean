abbrev jX : Type := Program × Env × State × MethodId × Array Value × List Frame × Method × Code × (Nat → Prop) × Heap × (State → Prop)
abbrev jLv : Type := List (Nat × Value)
abbrev jT (ca : Nat → ClassId) : List (ClassId × FieldType) := [(ca 0, .int), (ca 1, .float), (ca 2, .char), (ca 3, .object RX0)]
/-- the machine stands at pc, with the cells ws, the locals lv, the operands st, k cells of n slots made: it comes to Q -/
def J (l : Launch) (R : Room) (D : va_G) (nL : Nat) (X : jX) (k n : Nat) (ws : va_W) (lv : jLv) (st : List Value) (pc : Nat) : Prop :=
  match X with
  | (p, e, s, m, args, below, meth, c, A, H0, Q) => ∀ (H : Heap) (locs : List Loc) (ls : Array Slot), va_P D vwCl ws H → va_D A ws → va_S A H0 H locs → lv_has ls nL lv → W p l e R s m args below meth c H locs k n Q (F0 m pc ls st)
/-- what the tables say beyond the words: links between nest mates, the class of rows of Books -/
def jN (U : State) : Prop := (∀ w ∈ jNest, va_Nw w U) ∧ va_AO RX0 U
/-- what stays through an activation of the method y -/
def jK (l : Launch) (R : Room) (D : va_G) (ca : Nat → ClassId) (nL : Nat) (X : jX) (cc : ByteArray) (y : MethodName) (ret : Option FieldType) : Prop :=
  match X with
  | (p, _, s, m, args, _, meth, c, A, H0, _) => p.tables.exec = Jvm.exec ∧ c.code = cc ∧ c.maxLocals = nL ∧ s.vm.findClass y.cls = some m.cls ∧ (∀ w ∈ jAll, w.before args s = true) ∧ va_K D vwCl (jT ca) s ∧ meth.locks = false ∧ (∀ q, H0.size ≤ q → A q) ∧ meth.sig.returnType = ret ∧ (y.name = "<init>" → meth.name = "<init>") ∧ jN s
def jS (X : jX) (Ex : State → Prop) : Prop := match X with
  | (_, _, s, _, _, _, _, _, _, H0, _) => Ex s ∧ H0 = s.heap
/-- the value of a local -/
def jat (i : Nat) : jLv → Option Value
  | [] => none
  | q :: l => cond (Nat.beq q.1 i) (some q.2) (jat i l)
theorem jat_mem {i : Nat} {v : Value} : ∀ {lv : jLv}, jat i lv = some v → (i, v) ∈ lv
  | [], h => by cases h
  | q :: l, h => by
    unfold jat at h
    cases hb : Nat.beq q.1 i with
    | true =>
      rw [hb] at h
      have h1 : q.2 = v := Option.some.inj h
      have h2 : q.1 = i := Nat.eq_of_beq_eq_true hb
      rw [← h1, ← h2]
      exact List.mem_cons_self
    | false =>
      rw [hb] at h
      exact List.mem_cons_of_mem _ (jat_mem h)
theorem jat_has {ls : Array Slot} {nL i : Nat} {v : Value} {lv : jLv} (hl : lv_has ls nL lv) (h : jat i lv = some v) : ls[i]? = some (.val v) := hl.2.2 (i, v) (jat_mem h)
/-- fewer locals, in any order -/
theorem jlv_has {ls : Array Slot} {nL : Nat} {lv lv' : jLv} (hl : lv_has ls nL lv) (h : lv'.map (fun q => jat q.1 lv) = lv'.map (fun q => some q.2)) : lv_has ls nL lv' := by
  refine ⟨hl.1, hl.2.1, fun q hq => ?_⟩
  obtain ⟨j, hj⟩ := List.getElem?_of_mem hq
  have h1 := congrArg (fun z => z[j]?) h
  simp only [List.getElem?_map, hj, Option.map_some] at h1
  exact jat_has hl (Option.some.inj h1)
abbrev jst (i : Nat) (v : Value) (lv : jLv) : jLv := (i, v) :: lv.filter (fun q => !(q.1 == i) && !(q.1 + 1 == i && q.2.category == 2))
section JR
variable {l : Launch} {R : Room} {D : va_G} {ca : Nat → ClassId} {nL : Nat} {X : jX} {cc : ByteArray} {y0 : MethodName} {ret0 : Option FieldType} {k n pc : Nat} {ws : va_W} {lv : jLv} {st : List Value}
theorem j_lv (lv' : jLv) (h : lv'.map (fun q => jat q.1 lv) = lv'.map (fun q => some q.2)) (h1 : J l R D nL X k n ws lv' st pc) : J l R D nL X k n ws lv st pc := by
  obtain ⟨p, e, s, m, args, below, meth, c, A, H0, Q⟩ := X
  intro H locs ls hP hD hS hl
  exact h1 H locs ls hP hD hS (jlv_has hl h)
theorem j_ws {ws' : va_W} (h : ws = ws') (h1 : J l R D nL X k n ws' lv st pc) : J l R D nL X k n ws lv st pc := h ▸ h1
theorem j_st {st' : List Value} (h : st = st') (h1 : J l R D nL X k n ws lv st' pc) : J l R D nL X k n ws lv st pc := h ▸ h1
theorem j_pc {pc' : Nat} (h : pc = pc') (h1 : J l R D nL X k n ws lv st pc') : J l R D nL X k n ws lv st pc := h ▸ h1
theorem j_topi {x : Int32} (h : ∀ y : Int32, y = x → J l R D nL X k n ws lv (.int y :: st) pc) : J l R D nL X k n ws lv (.int x :: st) pc := h x rfl
theorem j_topf {x : UInt32} (h : ∀ y : UInt32, y = x → J l R D nL X k n ws lv (.float y :: st) pc) : J l R D nL X k n ws lv (.float x :: st) pc := h x rfl
theorem j_widen {k' n' : Nat} (h1 : k ≤ k') (h2 : n ≤ n') (h : J l R D nL X k' n' ws lv st pc) : J l R D nL X k n ws lv st pc := by
  obtain ⟨p, e, s, m, args, below, meth, c, A, H0, Q⟩ := X
  intro H locs ls hP hD hS hl
  exact W.widen h1 h2 (h H locs ls hP hD hS hl)
/-- the world's cells may be told otherwise, where they are the same -/
theorem j_wsP {ws' : va_W} (hP' : ∀ H, va_P D vwCl ws H → va_P D vwCl ws' H) (hD' : ws.map Prod.fst = ws'.map Prod.fst) (h1 : J l R D nL X k n ws' lv st pc) : J l R D nL X k n ws lv st pc := by
  obtain ⟨p, e, s, m, args, below, meth, c, A, H0, Q⟩ := X
  intro H locs ls hP hD hS hl
  refine h1 H locs ls (hP' H hP) ?_ hS hl
  have key : ∀ (i : Nat) (q : Nat × va_E), ws'[i]? = some q → ∃ q0, ws[i]? = some q0 ∧ q0.1 = q.1 := by
    intro i q hq
    have h2 := congrArg (fun z => z[i]?) hD'
    simp only [List.getElem?_map, hq, Option.map_some] at h2
    cases hz : ws[i]? with
    | none => rw [hz] at h2; cases h2
    | some q0 => rw [hz] at h2; exact ⟨q0, rfl, Option.some.inj h2⟩
  refine ⟨fun i j a b ha hb hab => ?_, fun i q hq => ?_⟩
  · obtain ⟨a0, h2, h3⟩ := key i a ha
    obtain ⟨b0, h4, h5⟩ := key j b hb
    exact hD.1 i j a0 b0 h2 h4 (by rw [h3, h5, hab])
  · obtain ⟨q0, h2, h3⟩ := key i q hq
    rw [← h3]
    exact hD.2 i q0 h2
theorem va_at_ext {q cA N : Nat} {f g : Nat → Int32} (h : ∀ j, j < N → f j = g j) : (vp_cell cA (N, .inl f)) = (vp_cell cA (N, .inl g)) := by
  show arrV cA N (fun j => Value.int (f j)) = arrV cA N (fun j => Value.int (g j))
  unfold arrV
  congr 1
  apply Array.ext
  · simp
  · intro i h1 h2
    simp at h1
    simp [h i h1]
theorem va_at_extF {q cA N : Nat} {f g : Nat → UInt32} (h : ∀ j, j < N → f j = g j) : (vp_cell cA (N, .inr (.inr (.inl f)))) = (vp_cell cA (N, .inr (.inr (.inl g)))) := by
  show arrV cA N (fun j => Value.float (f j)) = arrV cA N (fun j => Value.float (g j))
  unfold arrV
  congr 1
  apply Array.ext
  · simp
  · intro i h1 h2
    simp at h1
    simp [h i h1]
/-- an array's row told otherwise, where it is the same -/
theorem j_ext (q0 : Nat) {a cA N : Nat} {f : Nat → Int32} (g : Nat → Int32) (he : ws[q0]? = some (a, .inl (cA, N, .inl f))) (h : ∀ j, j < N → f j = g j) (h1 : J l R D nL X k n (ws.set q0 (a, .inl (cA, N, .inl g))) lv st pc) : J l R D nL X k n ws lv st pc := by
  have hl := (List.getElem?_eq_some_iff.mp he).1
  refine j_wsP (ws' := ws.set q0 (a, .inl (cA, N, .inl g))) (fun H hP i q hq => ?_) ?_ h1
  · by_cases hi : i = q0
    · subst hi
      rw [List.getElem?_set_self hl] at hq
      cases hq
      have := hP i _ he
      show H[a]? = some (vp_cell cA (N, .inl g))
      rw [← va_at_ext (q := 0) h]
      exact this
    · rw [List.getElem?_set_ne (Ne.symm hi)] at hq
      exact hP i q hq
  · apply List.ext_getElem?
    intro i
    rw [List.getElem?_map, List.getElem?_map]
    by_cases hi : i = q0
    · subst hi
      rw [List.getElem?_set_self hl, he]
      rfl
    · rw [List.getElem?_set_ne (Ne.symm hi)]
theorem j_extF (q0 : Nat) {a cA N : Nat} {f : Nat → UInt32} (g : Nat → UInt32) (he : ws[q0]? = some (a, .inl (cA, N, .inr (.inr (.inl f))))) (h : ∀ j, j < N → f j = g j) (h1 : J l R D nL X k n (ws.set q0 (a, .inl (cA, N, .inr (.inr (.inl g))))) lv st pc) : J l R D nL X k n ws lv st pc := by
  have hl := (List.getElem?_eq_some_iff.mp he).1
  refine j_wsP (ws' := ws.set q0 (a, .inl (cA, N, .inr (.inr (.inl g))))) (fun H hP i q hq => ?_) ?_ h1
  · by_cases hi : i = q0
    · subst hi
      rw [List.getElem?_set_self hl] at hq
      cases hq
      have := hP i _ he
      show H[a]? = some (vp_cell cA (N, .inr (.inr (.inl g))))
      rw [← va_at_extF (q := 0) h]
      exact this
    · rw [List.getElem?_set_ne (Ne.symm hi)] at hq
      exact hP i q hq
  · apply List.ext_getElem?
    intro i
    rw [List.getElem?_map, List.getElem?_map]
    by_cases hi : i = q0
    · subst hi
      rw [List.getElem?_set_self hl, he]
      rfl
    · rw [List.getElem?_set_ne (Ne.symm hi)]
theorem va_ldcwF {p : Program} {e : Env} {s : State} {m : MethodId} {args : Array Value} {below : List Frame} {meth : Method} {c : Code} {locs : List Loc} {T : State} (X : Stand p l e R s m args below meth c T locs k n) (hexec : p.tables.exec = Jvm.exec) {own : String} {index : Nat} {v : UInt32} (hown : s.vm.findClass own = some m.cls)
    (hconst : (Cond.constantFloat own index v).before args s = true) {g : JFrame} (hg : g.method = m) (hdg : decode c.code g.pc = .ok (.ldc_w index, 3)) :
    ∀ target, Steps p.tables e below (T.setTop { g with pc := g.pc + 3, stack := .float v :: g.stack }) target → Steps p.tables e below (T.setTop g) target := by
  obtain ⟨k, cf, hk, hcf, hcp⟩ := Cond.constantFloat_spec hown hconst
  obtain ⟨k', hk', he⟩ := X.warmed.alike.2.2 _ _ hk
  intro target hrest
  subst hg
  jvm_step X.here [hexec, hdg, ldc_w.wp_float (s := T) (f := g) X.here.top hk' (by rw [he]; exact hcf) hcp]
  exact hrest
theorem j_iadd (C : jK l R D ca nL X cc y0 ret0) {x y : Int32} (hd : decode cc pc = .ok (.iadd, 1))  (h : J l R D nL X k n ws lv (.int (x + y) :: st) (pc + 1)) : J l R D nL X k n ws lv (.int y :: .int x :: st) (pc) := by
  obtain ⟨p, e, s, m, args, below, meth, c, A, H0, Q⟩ := X
  obtain ⟨hx, hb, hml, hown, hts, hK, hlk, hA, hr, hnm0, hjn⟩ := C
  intro H locs ls hP hD hS hl
  exact lv_iadd hx hb hd  (h H locs ls hP hD hS hl)
theorem j_isub (C : jK l R D ca nL X cc y0 ret0) {x y : Int32} (hd : decode cc pc = .ok (.isub, 1))  (h : J l R D nL X k n ws lv (.int (x - y) :: st) (pc + 1)) : J l R D nL X k n ws lv (.int y :: .int x :: st) (pc) := by
  obtain ⟨p, e, s, m, args, below, meth, c, A, H0, Q⟩ := X
  obtain ⟨hx, hb, hml, hown, hts, hK, hlk, hA, hr, hnm0, hjn⟩ := C
  intro H locs ls hP hD hS hl
  exact lv_isub hx hb hd  (h H locs ls hP hD hS hl)
theorem j_imul (C : jK l R D ca nL X cc y0 ret0) {x y : Int32} (hd : decode cc pc = .ok (.imul, 1))  (h : J l R D nL X k n ws lv (.int (x * y) :: st) (pc + 1)) : J l R D nL X k n ws lv (.int y :: .int x :: st) (pc) := by
  obtain ⟨p, e, s, m, args, below, meth, c, A, H0, Q⟩ := X
  obtain ⟨hx, hb, hml, hown, hts, hK, hlk, hA, hr, hnm0, hjn⟩ := C
  intro H locs ls hP hD hS hl
  exact lv_imul hx hb hd  (h H locs ls hP hD hS hl)
theorem j_iand (C : jK l R D ca nL X cc y0 ret0) {x y : Int32} (hd : decode cc pc = .ok (.iand, 1))  (h : J l R D nL X k n ws lv (.int (x &&& y) :: st) (pc + 1)) : J l R D nL X k n ws lv (.int y :: .int x :: st) (pc) := by
  obtain ⟨p, e, s, m, args, below, meth, c, A, H0, Q⟩ := X
  obtain ⟨hx, hb, hml, hown, hts, hK, hlk, hA, hr, hnm0, hjn⟩ := C
  intro H locs ls hP hD hS hl
  exact lv_iand hx hb hd  (h H locs ls hP hD hS hl)
theorem j_ior (C : jK l R D ca nL X cc y0 ret0) {x y : Int32} (hd : decode cc pc = .ok (.ior, 1))  (h : J l R D nL X k n ws lv (.int (x ||| y) :: st) (pc + 1)) : J l R D nL X k n ws lv (.int y :: .int x :: st) (pc) := by
  obtain ⟨p, e, s, m, args, below, meth, c, A, H0, Q⟩ := X
  obtain ⟨hx, hb, hml, hown, hts, hK, hlk, hA, hr, hnm0, hjn⟩ := C
  intro H locs ls hP hD hS hl
  exact lv_ior hx hb hd  (h H locs ls hP hD hS hl)
theorem j_ishr (C : jK l R D ca nL X cc y0 ret0) {x y : Int32} (hd : decode cc pc = .ok (.ishr, 1))  (h : J l R D nL X k n ws lv (.int (x >>> (y &&& 31)) :: st) (pc + 1)) : J l R D nL X k n ws lv (.int y :: .int x :: st) (pc) := by
  obtain ⟨p, e, s, m, args, below, meth, c, A, H0, Q⟩ := X
  obtain ⟨hx, hb, hml, hown, hts, hK, hlk, hA, hr, hnm0, hjn⟩ := C
  intro H locs ls hP hD hS hl
  exact lv_ishr hx hb hd  (h H locs ls hP hD hS hl)
theorem j_iushr (C : jK l R D ca nL X cc y0 ret0) {x y : Int32} (hd : decode cc pc = .ok (.iushr, 1))  (h : J l R D nL X k n ws lv (.int ((x.toUInt32 >>> (y.toUInt32 &&& Int32.toUInt32 31)).toInt32) :: st) (pc + 1)) : J l R D nL X k n ws lv (.int y :: .int x :: st) (pc) := by
  obtain ⟨p, e, s, m, args, below, meth, c, A, H0, Q⟩ := X
  obtain ⟨hx, hb, hml, hown, hts, hK, hlk, hA, hr, hnm0, hjn⟩ := C
  intro H locs ls hP hD hS hl
  exact lv_iushr hx hb hd rfl (h H locs ls hP hD hS hl)
theorem j_irem (C : jK l R D ca nL X cc y0 ret0) {x y : Int32}  (hd : decode cc pc = .ok (.irem, 1)) (hne : ¬ y = 0) (h : J l R D nL X k n ws lv (.int (x - x / y * y) :: st) (pc + 1)) : J l R D nL X k n ws lv (.int y :: .int x :: st) (pc) := by
  obtain ⟨p, e, s, m, args, below, meth, c, A, H0, Q⟩ := X
  obtain ⟨hx, hb, hml, hown, hts, hK, hlk, hA, hr, hnm0, hjn⟩ := C
  intro H locs ls hP hD hS hl
  exact lv_irem hx hb hd hne (h H locs ls hP hD hS hl)
theorem j_ineg (C : jK l R D ca nL X cc y0 ret0) {x : Int32} (hd : decode cc pc = .ok (.ineg, 1))  (h : J l R D nL X k n ws lv (.int (-x) :: st) (pc + 1)) : J l R D nL X k n ws lv (.int x :: st) (pc) := by
  obtain ⟨p, e, s, m, args, below, meth, c, A, H0, Q⟩ := X
  obtain ⟨hx, hb, hml, hown, hts, hK, hlk, hA, hr, hnm0, hjn⟩ := C
  intro H locs ls hP hD hS hl
  exact lv_ineg hx hb hd  (h H locs ls hP hD hS hl)
theorem j_i2f (C : jK l R D ca nL X cc y0 ret0) {x : Int32} (hd : decode cc pc = .ok (.i2f, 1))  (h : J l R D nL X k n ws lv (.float (FP.i2f x) :: st) (pc + 1)) : J l R D nL X k n ws lv (.int x :: st) (pc) := by
  obtain ⟨p, e, s, m, args, below, meth, c, A, H0, Q⟩ := X
  obtain ⟨hx, hb, hml, hown, hts, hK, hlk, hA, hr, hnm0, hjn⟩ := C
  intro H locs ls hP hD hS hl
  exact lv_i2f hx hb hd  (h H locs ls hP hD hS hl)
theorem j_f2i (C : jK l R D ca nL X cc y0 ret0) {x : UInt32} (hd : decode cc pc = .ok (.f2i, 1))  (h : J l R D nL X k n ws lv (.int (FP.f2i x) :: st) (pc + 1)) : J l R D nL X k n ws lv (.float x :: st) (pc) := by
  obtain ⟨p, e, s, m, args, below, meth, c, A, H0, Q⟩ := X
  obtain ⟨hx, hb, hml, hown, hts, hK, hlk, hA, hr, hnm0, hjn⟩ := C
  intro H locs ls hP hD hS hl
  exact lv_f2i hx hb hd  (h H locs ls hP hD hS hl)
theorem j_i2l (C : jK l R D ca nL X cc y0 ret0) {x : Int32} (hd : decode cc pc = .ok (.i2l, 1))  (h : J l R D nL X k n ws lv (.long (x.toInt64) :: st) (pc + 1)) : J l R D nL X k n ws lv (.int x :: st) (pc) := by
  obtain ⟨p, e, s, m, args, below, meth, c, A, H0, Q⟩ := X
  obtain ⟨hx, hb, hml, hown, hts, hK, hlk, hA, hr, hnm0, hjn⟩ := C
  intro H locs ls hP hD hS hl
  exact lv_i2l hx hb hd rfl (h H locs ls hP hD hS hl)
theorem j_l2i (C : jK l R D ca nL X cc y0 ret0) {x : Int64} (hd : decode cc pc = .ok (.l2i, 1))  (h : J l R D nL X k n ws lv (.int (x.toInt32) :: st) (pc + 1)) : J l R D nL X k n ws lv (.long x :: st) (pc) := by
  obtain ⟨p, e, s, m, args, below, meth, c, A, H0, Q⟩ := X
  obtain ⟨hx, hb, hml, hown, hts, hK, hlk, hA, hr, hnm0, hjn⟩ := C
  intro H locs ls hP hD hS hl
  exact lv_l2i hx hb hd rfl (h H locs ls hP hD hS hl)
theorem j_i2c (C : jK l R D ca nL X cc y0 ret0) {x : Int32} (hd : decode cc pc = .ok (.i2c, 1))  (h : J l R D nL X k n ws lv (.int ((x.toUInt32 % 65536).toInt32) :: st) (pc + 1)) : J l R D nL X k n ws lv (.int x :: st) (pc) := by
  obtain ⟨p, e, s, m, args, below, meth, c, A, H0, Q⟩ := X
  obtain ⟨hx, hb, hml, hown, hts, hK, hlk, hA, hr, hnm0, hjn⟩ := C
  intro H locs ls hP hD hS hl
  exact lv_i2c hx hb hd rfl (h H locs ls hP hD hS hl)
theorem j_lmul (C : jK l R D ca nL X cc y0 ret0) {x y : Int64} (hd : decode cc pc = .ok (.lmul, 1))  (h : J l R D nL X k n ws lv (.long (x * y) :: st) (pc + 1)) : J l R D nL X k n ws lv (.long y :: .long x :: st) (pc) := by
  obtain ⟨p, e, s, m, args, below, meth, c, A, H0, Q⟩ := X
  obtain ⟨hx, hb, hml, hown, hts, hK, hlk, hA, hr, hnm0, hjn⟩ := C
  intro H locs ls hP hD hS hl
  exact lv_lmul hx hb hd  (h H locs ls hP hD hS hl)
theorem j_ldiv (C : jK l R D ca nL X cc y0 ret0) {x y : Int64}  (hd : decode cc pc = .ok (.ldiv, 1)) (hne : ¬ y = 0) (h : J l R D nL X k n ws lv (.long (x / y) :: st) (pc + 1)) : J l R D nL X k n ws lv (.long y :: .long x :: st) (pc) := by
  obtain ⟨p, e, s, m, args, below, meth, c, A, H0, Q⟩ := X
  obtain ⟨hx, hb, hml, hown, hts, hK, hlk, hA, hr, hnm0, hjn⟩ := C
  intro H locs ls hP hD hS hl
  exact lv_ldiv hx hb hd hne (h H locs ls hP hD hS hl)
theorem j_fsub (C : jK l R D ca nL X cc y0 ret0) {x y : UInt32}  (hd : decode cc pc = .ok (.fsub, 1)) (hne : vf_n32 (FP.fsub x y)) (h : J l R D nL X k n ws lv (.float (FP.fsub x y) :: st) (pc + 1)) : J l R D nL X k n ws lv (.float y :: .float x :: st) (pc) := by
  obtain ⟨p, e, s, m, args, below, meth, c, A, H0, Q⟩ := X
  obtain ⟨hx, hb, hml, hown, hts, hK, hlk, hA, hr, hnm0, hjn⟩ := C
  intro H locs ls hP hD hS hl
  exact lv_fsub hx hb hd hne (h H locs ls hP hD hS hl)
theorem j_fmul (C : jK l R D ca nL X cc y0 ret0) {x y : UInt32}  (hd : decode cc pc = .ok (.fmul, 1)) (hne : vf_n32 (FP.fmul x y)) (h : J l R D nL X k n ws lv (.float (FP.fmul x y) :: st) (pc + 1)) : J l R D nL X k n ws lv (.float y :: .float x :: st) (pc) := by
  obtain ⟨p, e, s, m, args, below, meth, c, A, H0, Q⟩ := X
  obtain ⟨hx, hb, hml, hown, hts, hK, hlk, hA, hr, hnm0, hjn⟩ := C
  intro H locs ls hP hD hS hl
  exact lv_fmul hx hb hd hne (h H locs ls hP hD hS hl)
theorem j_fdiv (C : jK l R D ca nL X cc y0 ret0) {x y : UInt32}  (hd : decode cc pc = .ok (.fdiv, 1)) (hne : vf_n32 (FP.fdiv x y)) (h : J l R D nL X k n ws lv (.float (FP.fdiv x y) :: st) (pc + 1)) : J l R D nL X k n ws lv (.float y :: .float x :: st) (pc) := by
  obtain ⟨p, e, s, m, args, below, meth, c, A, H0, Q⟩ := X
  obtain ⟨hx, hb, hml, hown, hts, hK, hlk, hA, hr, hnm0, hjn⟩ := C
  intro H locs ls hP hD hS hl
  exact lv_fdiv hx hb hd hne (h H locs ls hP hD hS hl)
theorem j_fcmp (C : jK l R D ca nL X cc y0 ret0) {x y : UInt32} {op : CmpOp} (hd : decode cc pc = .ok (.fcmp op, 1))  (h : J l R D nL X k n ws lv (.int (Op.cmpValue (FP.fcmp x y) op) :: st) (pc + 1)) : J l R D nL X k n ws lv (.float y :: .float x :: st) (pc) := by
  obtain ⟨p, e, s, m, args, below, meth, c, A, H0, Q⟩ := X
  obtain ⟨hx, hb, hml, hown, hts, hK, hlk, hA, hr, hnm0, hjn⟩ := C
  intro H locs ls hP hD hS hl
  exact lv_fcmp hx hb hd  (h H locs ls hP hD hS hl)
theorem j_dup (C : jK l R D ca nL X cc y0 ret0) {v : Value}  (hd : decode cc pc = .ok (.dup, 1)) (hc : v.category = 1) (h : J l R D nL X k n ws lv (v :: v :: st) (pc + 1)) : J l R D nL X k n ws lv (v :: st) (pc) := by
  obtain ⟨p, e, s, m, args, below, meth, c, A, H0, Q⟩ := X
  obtain ⟨hx, hb, hml, hown, hts, hK, hlk, hA, hr, hnm0, hjn⟩ := C
  intro H locs ls hP hD hS hl
  exact lv_dup hx hb hd hc (h H locs ls hP hD hS hl)
theorem j_dup2 (C : jK l R D ca nL X cc y0 ret0) {v u : Value}  (hd : decode cc pc = .ok (.dup2, 1)) (hc : v.category = 1) (hc2 : u.category = 1) (h : J l R D nL X k n ws lv (v :: u :: v :: u :: st) (pc + 1)) : J l R D nL X k n ws lv (v :: u :: st) (pc) := by
  obtain ⟨p, e, s, m, args, below, meth, c, A, H0, Q⟩ := X
  obtain ⟨hx, hb, hml, hown, hts, hK, hlk, hA, hr, hnm0, hjn⟩ := C
  intro H locs ls hP hD hS hl
  exact lv_dup2_11 hx hb hd hc hc2 (h H locs ls hP hD hS hl)
theorem j_iconst (C : jK l R D ca nL X cc y0 ret0) {i : Int}  (hd : decode cc pc = .ok (.iconst i, 1)) (v : Int32) (hv : Int32.ofInt i = v) (h : J l R D nL X k n ws lv (.int v :: st) (pc + 1)) : J l R D nL X k n ws lv (st) (pc) := by
  obtain ⟨p, e, s, m, args, below, meth, c, A, H0, Q⟩ := X
  obtain ⟨hx, hb, hml, hown, hts, hK, hlk, hA, hr, hnm0, hjn⟩ := C
  intro H locs ls hP hD hS hl
  exact lv_iconst hx hb hd hv (h H locs ls hP hD hS hl)
theorem j_bipush (C : jK l R D ca nL X cc y0 ret0) {i : Int}  (hd : decode cc pc = .ok (.bipush i, 2)) (v : Int32) (hv : (Int8.ofInt i).toInt32 = v) (h : J l R D nL X k n ws lv (.int v :: st) (pc + 2)) : J l R D nL X k n ws lv (st) (pc) := by
  obtain ⟨p, e, s, m, args, below, meth, c, A, H0, Q⟩ := X
  obtain ⟨hx, hb, hml, hown, hts, hK, hlk, hA, hr, hnm0, hjn⟩ := C
  intro H locs ls hP hD hS hl
  exact lv_bipush hx hb hd hv (h H locs ls hP hD hS hl)
theorem j_sipush (C : jK l R D ca nL X cc y0 ret0) {i : Int}  (hd : decode cc pc = .ok (.sipush i, 3)) (v : Int32) (hv : (Int16.ofInt i).toInt32 = v) (h : J l R D nL X k n ws lv (.int v :: st) (pc + 3)) : J l R D nL X k n ws lv (st) (pc) := by
  obtain ⟨p, e, s, m, args, below, meth, c, A, H0, Q⟩ := X
  obtain ⟨hx, hb, hml, hown, hts, hK, hlk, hA, hr, hnm0, hjn⟩ := C
  intro H locs ls hP hD hS hl
  exact lv_sipush hx hb hd hv (h H locs ls hP hD hS hl)
theorem j_null (C : jK l R D ca nL X cc y0 ret0)  (hd : decode cc pc = .ok (.aconst_null, 1))  (h : J l R D nL X k n ws lv (.null :: st) (pc + 1)) : J l R D nL X k n ws lv (st) (pc) := by
  obtain ⟨p, e, s, m, args, below, meth, c, A, H0, Q⟩ := X
  obtain ⟨hx, hb, hml, hown, hts, hK, hlk, hA, hr, hnm0, hjn⟩ := C
  intro H locs ls hP hD hS hl
  exact lv_null hx hb hd  (h H locs ls hP hD hS hl)
theorem j_fconst0 (C : jK l R D ca nL X cc y0 ret0) (hd : decode cc pc = .ok (.fconst 0, 1)) (h : J l R D nL X k n ws lv (.float (0x00000000) :: st) (pc + 1)) : J l R D nL X k n ws lv (st) (pc) := by
  obtain ⟨p, e, s, m, args, below, meth, c, A, H0, Q⟩ := X
  obtain ⟨hx, hb, hml, hown, hts, hK, hlk, hA, hr, hnm0, hjn⟩ := C
  intro H locs ls hP hD hS hl
  exact lv_fconst0 hx hb hd (h H locs ls hP hD hS hl)
theorem j_fconst1 (C : jK l R D ca nL X cc y0 ret0) (hd : decode cc pc = .ok (.fconst 1, 1)) (h : J l R D nL X k n ws lv (.float (0x3f800000) :: st) (pc + 1)) : J l R D nL X k n ws lv (st) (pc) := by
  obtain ⟨p, e, s, m, args, below, meth, c, A, H0, Q⟩ := X
  obtain ⟨hx, hb, hml, hown, hts, hK, hlk, hA, hr, hnm0, hjn⟩ := C
  intro H locs ls hP hD hS hl
  exact lv_fconst1 hx hb hd (h H locs ls hP hD hS hl)
theorem j_fconst2 (C : jK l R D ca nL X cc y0 ret0) (hd : decode cc pc = .ok (.fconst 2, 1)) (h : J l R D nL X k n ws lv (.float (0x40000000) :: st) (pc + 1)) : J l R D nL X k n ws lv (st) (pc) := by
  obtain ⟨p, e, s, m, args, below, meth, c, A, H0, Q⟩ := X
  obtain ⟨hx, hb, hml, hown, hts, hK, hlk, hA, hr, hnm0, hjn⟩ := C
  intro H locs ls hP hD hS hl
  exact lv_fconst2 hx hb hd (h H locs ls hP hD hS hl)
theorem j_iload (C : jK l R D ca nL X cc y0 ret0) {i : Nat} {x : Int32} (hd : decode cc pc = .ok (.iload i, 2)) (hv : jat i lv = some (.int x)) (h : J l R D nL X k n ws lv (.int x :: st) (pc + 2)) : J l R D nL X k n ws lv (st) (pc) := by
  obtain ⟨p, e, s, m, args, below, meth, c, A, H0, Q⟩ := X
  obtain ⟨hx, hb, hml, hown, hts, hK, hlk, hA, hr, hnm0, hjn⟩ := C
  intro H locs ls hP hD hS hl
  exact lv_iload hx hb hd (jat_has hl hv) (h H locs ls hP hD hS hl)
theorem j_iload_n (C : jK l R D ca nL X cc y0 ret0) {i : Fin 4} {x : Int32} (hd : decode cc pc = .ok (.iload_n i, 1)) (hv : jat (i : Nat) lv = some (.int x)) (h : J l R D nL X k n ws lv (.int x :: st) (pc + 1)) : J l R D nL X k n ws lv (st) (pc) := by
  obtain ⟨p, e, s, m, args, below, meth, c, A, H0, Q⟩ := X
  obtain ⟨hx, hb, hml, hown, hts, hK, hlk, hA, hr, hnm0, hjn⟩ := C
  intro H locs ls hP hD hS hl
  exact lv_iload_n hx hb hd rfl (jat_has hl hv) (h H locs ls hP hD hS hl)
theorem j_fload (C : jK l R D ca nL X cc y0 ret0) {i : Nat} {x : UInt32} (hd : decode cc pc = .ok (.fload i, 2)) (hv : jat i lv = some (.float x)) (h : J l R D nL X k n ws lv (.float x :: st) (pc + 2)) : J l R D nL X k n ws lv (st) (pc) := by
  obtain ⟨p, e, s, m, args, below, meth, c, A, H0, Q⟩ := X
  obtain ⟨hx, hb, hml, hown, hts, hK, hlk, hA, hr, hnm0, hjn⟩ := C
  intro H locs ls hP hD hS hl
  exact lv_fload hx hb hd (jat_has hl hv) (h H locs ls hP hD hS hl)
theorem j_fload_n (C : jK l R D ca nL X cc y0 ret0) {i : Fin 4} {x : UInt32} (hd : decode cc pc = .ok (.fload_n i, 1)) (hv : jat (i : Nat) lv = some (.float x)) (h : J l R D nL X k n ws lv (.float x :: st) (pc + 1)) : J l R D nL X k n ws lv (st) (pc) := by
  obtain ⟨p, e, s, m, args, below, meth, c, A, H0, Q⟩ := X
  obtain ⟨hx, hb, hml, hown, hts, hK, hlk, hA, hr, hnm0, hjn⟩ := C
  intro H locs ls hP hD hS hl
  exact lv_fload_n hx hb hd rfl (jat_has hl hv) (h H locs ls hP hD hS hl)
theorem j_aload (C : jK l R D ca nL X cc y0 ret0) {i : Nat} {x : Nat} (hd : decode cc pc = .ok (.aload i, 2)) (hv : jat i lv = some (.ref x)) (h : J l R D nL X k n ws lv (.ref x :: st) (pc + 2)) : J l R D nL X k n ws lv (st) (pc) := by
  obtain ⟨p, e, s, m, args, below, meth, c, A, H0, Q⟩ := X
  obtain ⟨hx, hb, hml, hown, hts, hK, hlk, hA, hr, hnm0, hjn⟩ := C
  intro H locs ls hP hD hS hl
  exact lv_aload hx hb hd (jat_has hl hv) (h H locs ls hP hD hS hl)
theorem j_aload_n (C : jK l R D ca nL X cc y0 ret0) {i : Fin 4} {x : Nat} (hd : decode cc pc = .ok (.aload_n i, 1)) (hv : jat (i : Nat) lv = some (.ref x)) (h : J l R D nL X k n ws lv (.ref x :: st) (pc + 1)) : J l R D nL X k n ws lv (st) (pc) := by
  obtain ⟨p, e, s, m, args, below, meth, c, A, H0, Q⟩ := X
  obtain ⟨hx, hb, hml, hown, hts, hK, hlk, hA, hr, hnm0, hjn⟩ := C
  intro H locs ls hP hD hS hl
  exact lv_aload_n hx hb hd rfl (jat_has hl hv) (h H locs ls hP hD hS hl)
theorem j_dload (C : jK l R D ca nL X cc y0 ret0) {i : Nat} {x : UInt64} (hd : decode cc pc = .ok (.dload i, 2)) (hv : jat i lv = some (.double x)) (h : J l R D nL X k n ws lv (.double x :: st) (pc + 2)) : J l R D nL X k n ws lv (st) (pc) := by
  obtain ⟨p, e, s, m, args, below, meth, c, A, H0, Q⟩ := X
  obtain ⟨hx, hb, hml, hown, hts, hK, hlk, hA, hr, hnm0, hjn⟩ := C
  intro H locs ls hP hD hS hl
  exact lv_dload hx hb hd (jat_has hl hv) (h H locs ls hP hD hS hl)
theorem j_istore (C : jK l R D ca nL X cc y0 ret0) (lv1 : jLv) {i : Nat} {x : Int32} (hd : decode cc pc = .ok (.istore i, 2)) (hn : i < nL) (hv : jst i (.int x) lv = lv1) (h : J l R D nL X k n ws lv1 (st) (pc + 2)) : J l R D nL X k n ws lv (.int x :: st) (pc) := by
  obtain ⟨p, e, s, m, args, below, meth, c, A, H0, Q⟩ := X
  obtain ⟨hx, hb, hml, hown, hts, hK, hlk, hA, hr, hnm0, hjn⟩ := C
  intro H locs ls hP hD hS hl
  exact lv_istore hx hb hd hl hn hv (fun ls1 hl1 => h H locs ls1 hP hD hS hl1)
theorem j_istore_n (C : jK l R D ca nL X cc y0 ret0) (lv1 : jLv) {i : Fin 4} {x : Int32} (hd : decode cc pc = .ok (.istore_n i, 1)) (hn : (i : Nat) < nL) (hv : jst (i : Nat) (.int x) lv = lv1) (h : J l R D nL X k n ws lv1 (st) (pc + 1)) : J l R D nL X k n ws lv (.int x :: st) (pc) := by
  obtain ⟨p, e, s, m, args, below, meth, c, A, H0, Q⟩ := X
  obtain ⟨hx, hb, hml, hown, hts, hK, hlk, hA, hr, hnm0, hjn⟩ := C
  intro H locs ls hP hD hS hl
  exact lv_istore_n hx hb hd rfl hl hn hv (fun ls1 hl1 => h H locs ls1 hP hD hS hl1)
theorem j_fstore (C : jK l R D ca nL X cc y0 ret0) (lv1 : jLv) {i : Nat} {x : UInt32} (hd : decode cc pc = .ok (.fstore i, 2)) (hn : i < nL) (hv : jst i (.float x) lv = lv1) (h : J l R D nL X k n ws lv1 (st) (pc + 2)) : J l R D nL X k n ws lv (.float x :: st) (pc) := by
  obtain ⟨p, e, s, m, args, below, meth, c, A, H0, Q⟩ := X
  obtain ⟨hx, hb, hml, hown, hts, hK, hlk, hA, hr, hnm0, hjn⟩ := C
  intro H locs ls hP hD hS hl
  exact lv_fstore hx hb hd hl hn hv (fun ls1 hl1 => h H locs ls1 hP hD hS hl1)
theorem j_fstore_n (C : jK l R D ca nL X cc y0 ret0) (lv1 : jLv) {i : Fin 4} {x : UInt32} (hd : decode cc pc = .ok (.fstore_n i, 1)) (hn : (i : Nat) < nL) (hv : jst (i : Nat) (.float x) lv = lv1) (h : J l R D nL X k n ws lv1 (st) (pc + 1)) : J l R D nL X k n ws lv (.float x :: st) (pc) := by
  obtain ⟨p, e, s, m, args, below, meth, c, A, H0, Q⟩ := X
  obtain ⟨hx, hb, hml, hown, hts, hK, hlk, hA, hr, hnm0, hjn⟩ := C
  intro H locs ls hP hD hS hl
  exact lv_fstore_n hx hb hd rfl hl hn hv (fun ls1 hl1 => h H locs ls1 hP hD hS hl1)
theorem j_astore (C : jK l R D ca nL X cc y0 ret0) (lv1 : jLv) {i : Nat} {x : Nat} (hd : decode cc pc = .ok (.astore i, 2)) (hn : i < nL) (hv : jst i (.ref x) lv = lv1) (h : J l R D nL X k n ws lv1 (st) (pc + 2)) : J l R D nL X k n ws lv (.ref x :: st) (pc) := by
  obtain ⟨p, e, s, m, args, below, meth, c, A, H0, Q⟩ := X
  obtain ⟨hx, hb, hml, hown, hts, hK, hlk, hA, hr, hnm0, hjn⟩ := C
  intro H locs ls hP hD hS hl
  exact lv_astore hx hb hd hl hn hv (fun ls1 hl1 => h H locs ls1 hP hD hS hl1)
theorem j_astore_n (C : jK l R D ca nL X cc y0 ret0) (lv1 : jLv) {i : Fin 4} {x : Nat} (hd : decode cc pc = .ok (.astore_n i, 1)) (hn : (i : Nat) < nL) (hv : jst (i : Nat) (.ref x) lv = lv1) (h : J l R D nL X k n ws lv1 (st) (pc + 1)) : J l R D nL X k n ws lv (.ref x :: st) (pc) := by
  obtain ⟨p, e, s, m, args, below, meth, c, A, H0, Q⟩ := X
  obtain ⟨hx, hb, hml, hown, hts, hK, hlk, hA, hr, hnm0, hjn⟩ := C
  intro H locs ls hP hD hS hl
  exact lv_astore_n hx hb hd rfl hl hn hv (fun ls1 hl1 => h H locs ls1 hP hD hS hl1)
theorem j_dstore (C : jK l R D ca nL X cc y0 ret0) (lv1 : jLv) {i : Nat} {x : UInt64} (hd : decode cc pc = .ok (.dstore i, 2)) (hn : i + 1 < nL) (hv : (i, Value.double x) :: lv.filter (fun q => !(q.1 == i) && (!(q.1 == i + 1) && !(q.1 + 1 == i && q.2.category == 2))) = lv1) (h : J l R D nL X k n ws lv1 (st) (pc + 2)) : J l R D nL X k n ws lv (.double x :: st) (pc) := by
  obtain ⟨p, e, s, m, args, below, meth, c, A, H0, Q⟩ := X
  obtain ⟨hx, hb, hml, hown, hts, hK, hlk, hA, hr, hnm0, hjn⟩ := C
  intro H locs ls hP hD hS hl
  exact lv_dstore hx hb hd hl hn hv (fun ls1 hl1 => h H locs ls1 hP hD hS hl1)
theorem j_iinc (C : jK l R D ca nL X cc y0 ret0) (lv1 : jLv) {i : Nat} {d : Int} {x v : Int32} (hd : decode cc pc = .ok (.iinc i d, 3)) (hx0 : jat i lv = some (.int x)) (hv0 : x + Int32.ofInt d = v) (hn : i < nL) (hv : jst i (.int v) lv = lv1) (h : J l R D nL X k n ws lv1 (st) (pc + 3)) : J l R D nL X k n ws lv (st) (pc) := by
  obtain ⟨p, e, s, m, args, below, meth, c, A, H0, Q⟩ := X
  obtain ⟨hx, hb, hml, hown, hts, hK, hlk, hA, hr, hnm0, hjn⟩ := C
  intro H locs ls hP hD hS hl
  obtain ⟨j, hj⟩ := List.getElem?_of_mem (jat_mem hx0)
  exact lv_iinc hx hb hd hl hj hv0 hn hv (fun ls1 hl1 => h H locs ls1 hP hD hS hl1)
theorem j_if_eq (C : jK l R D ca nL X cc y0 ret0) {x : Int32} {off : Int} {tgt : Nat} (hd : decode cc pc = .ok (.ifCond .eq off, 3)) (ht : (pc : Int) + off = (tgt : Int)) (h1 : x = 0 → J l R D nL X k n ws lv (st) (tgt)) (h2 : ¬ (x = 0) → J l R D nL X k n ws lv (st) (pc + 3)) : J l R D nL X k n ws lv (.int x :: st) (pc) := by
  obtain ⟨p, e, s, m, args, below, meth, c, A, H0, Q⟩ := X
  obtain ⟨hx, hb, hml, hown, hts, hK, hlk, hA, hr, hnm0, hjn⟩ := C
  intro H locs ls hP hD hS hl
  exact lv_if_eq hx hb hd ht (fun z => h1 z H locs ls hP hD hS hl) (fun z => h2 z H locs ls hP hD hS hl)
theorem j_icmp_eq (C : jK l R D ca nL X cc y0 ret0) {x y : Int32} {off : Int} {tgt : Nat} (hd : decode cc pc = .ok (.if_icmp .eq off, 3)) (ht : (pc : Int) + off = (tgt : Int)) (h1 : x = y → J l R D nL X k n ws lv (st) (tgt)) (h2 : ¬ (x = y) → J l R D nL X k n ws lv (st) (pc + 3)) : J l R D nL X k n ws lv (.int y :: .int x :: st) (pc) := by
  obtain ⟨p, e, s, m, args, below, meth, c, A, H0, Q⟩ := X
  obtain ⟨hx, hb, hml, hown, hts, hK, hlk, hA, hr, hnm0, hjn⟩ := C
  intro H locs ls hP hD hS hl
  exact lv_icmp_eq hx hb hd ht (fun z => h1 z H locs ls hP hD hS hl) (fun z => h2 z H locs ls hP hD hS hl)
theorem j_if_ne (C : jK l R D ca nL X cc y0 ret0) {x : Int32} {off : Int} {tgt : Nat} (hd : decode cc pc = .ok (.ifCond .ne off, 3)) (ht : (pc : Int) + off = (tgt : Int)) (h1 : ¬ x = 0 → J l R D nL X k n ws lv (st) (tgt)) (h2 : x = 0 → J l R D nL X k n ws lv (st) (pc + 3)) : J l R D nL X k n ws lv (.int x :: st) (pc) := by
  obtain ⟨p, e, s, m, args, below, meth, c, A, H0, Q⟩ := X
  obtain ⟨hx, hb, hml, hown, hts, hK, hlk, hA, hr, hnm0, hjn⟩ := C
  intro H locs ls hP hD hS hl
  exact lv_if_ne hx hb hd ht (fun z => h1 z H locs ls hP hD hS hl) (fun z => h2 z H locs ls hP hD hS hl)
theorem j_icmp_ne (C : jK l R D ca nL X cc y0 ret0) {x y : Int32} {off : Int} {tgt : Nat} (hd : decode cc pc = .ok (.if_icmp .ne off, 3)) (ht : (pc : Int) + off = (tgt : Int)) (h1 : ¬ x = y → J l R D nL X k n ws lv (st) (tgt)) (h2 : x = y → J l R D nL X k n ws lv (st) (pc + 3)) : J l R D nL X k n ws lv (.int y :: .int x :: st) (pc) := by
  obtain ⟨p, e, s, m, args, below, meth, c, A, H0, Q⟩ := X
  obtain ⟨hx, hb, hml, hown, hts, hK, hlk, hA, hr, hnm0, hjn⟩ := C
  intro H locs ls hP hD hS hl
  exact lv_icmp_ne hx hb hd ht (fun z => h1 z H locs ls hP hD hS hl) (fun z => h2 z H locs ls hP hD hS hl)
theorem j_if_lt (C : jK l R D ca nL X cc y0 ret0) {x : Int32} {off : Int} {tgt : Nat} (hd : decode cc pc = .ok (.ifCond .lt off, 3)) (ht : (pc : Int) + off = (tgt : Int)) (h1 : x < 0 → J l R D nL X k n ws lv (st) (tgt)) (h2 : ¬ (x < 0) → J l R D nL X k n ws lv (st) (pc + 3)) : J l R D nL X k n ws lv (.int x :: st) (pc) := by
  obtain ⟨p, e, s, m, args, below, meth, c, A, H0, Q⟩ := X
  obtain ⟨hx, hb, hml, hown, hts, hK, hlk, hA, hr, hnm0, hjn⟩ := C
  intro H locs ls hP hD hS hl
  exact lv_if_lt hx hb hd ht (fun z => h1 z H locs ls hP hD hS hl) (fun z => h2 z H locs ls hP hD hS hl)
theorem j_icmp_lt (C : jK l R D ca nL X cc y0 ret0) {x y : Int32} {off : Int} {tgt : Nat} (hd : decode cc pc = .ok (.if_icmp .lt off, 3)) (ht : (pc : Int) + off = (tgt : Int)) (h1 : x < y → J l R D nL X k n ws lv (st) (tgt)) (h2 : ¬ (x < y) → J l R D nL X k n ws lv (st) (pc + 3)) : J l R D nL X k n ws lv (.int y :: .int x :: st) (pc) := by
  obtain ⟨p, e, s, m, args, below, meth, c, A, H0, Q⟩ := X
  obtain ⟨hx, hb, hml, hown, hts, hK, hlk, hA, hr, hnm0, hjn⟩ := C
  intro H locs ls hP hD hS hl
  exact lv_icmp_lt hx hb hd ht (fun z => h1 z H locs ls hP hD hS hl) (fun z => h2 z H locs ls hP hD hS hl)
theorem j_if_ge (C : jK l R D ca nL X cc y0 ret0) {x : Int32} {off : Int} {tgt : Nat} (hd : decode cc pc = .ok (.ifCond .ge off, 3)) (ht : (pc : Int) + off = (tgt : Int)) (h1 : 0 ≤ x → J l R D nL X k n ws lv (st) (tgt)) (h2 : ¬ (0 ≤ x) → J l R D nL X k n ws lv (st) (pc + 3)) : J l R D nL X k n ws lv (.int x :: st) (pc) := by
  obtain ⟨p, e, s, m, args, below, meth, c, A, H0, Q⟩ := X
  obtain ⟨hx, hb, hml, hown, hts, hK, hlk, hA, hr, hnm0, hjn⟩ := C
  intro H locs ls hP hD hS hl
  exact lv_if_ge hx hb hd ht (fun z => h1 z H locs ls hP hD hS hl) (fun z => h2 z H locs ls hP hD hS hl)
theorem j_icmp_ge (C : jK l R D ca nL X cc y0 ret0) {x y : Int32} {off : Int} {tgt : Nat} (hd : decode cc pc = .ok (.if_icmp .ge off, 3)) (ht : (pc : Int) + off = (tgt : Int)) (h1 : y ≤ x → J l R D nL X k n ws lv (st) (tgt)) (h2 : ¬ (y ≤ x) → J l R D nL X k n ws lv (st) (pc + 3)) : J l R D nL X k n ws lv (.int y :: .int x :: st) (pc) := by
  obtain ⟨p, e, s, m, args, below, meth, c, A, H0, Q⟩ := X
  obtain ⟨hx, hb, hml, hown, hts, hK, hlk, hA, hr, hnm0, hjn⟩ := C
  intro H locs ls hP hD hS hl
  exact lv_icmp_ge hx hb hd ht (fun z => h1 z H locs ls hP hD hS hl) (fun z => h2 z H locs ls hP hD hS hl)
theorem j_if_gt (C : jK l R D ca nL X cc y0 ret0) {x : Int32} {off : Int} {tgt : Nat} (hd : decode cc pc = .ok (.ifCond .gt off, 3)) (ht : (pc : Int) + off = (tgt : Int)) (h1 : 0 < x → J l R D nL X k n ws lv (st) (tgt)) (h2 : ¬ (0 < x) → J l R D nL X k n ws lv (st) (pc + 3)) : J l R D nL X k n ws lv (.int x :: st) (pc) := by
  obtain ⟨p, e, s, m, args, below, meth, c, A, H0, Q⟩ := X
  obtain ⟨hx, hb, hml, hown, hts, hK, hlk, hA, hr, hnm0, hjn⟩ := C
  intro H locs ls hP hD hS hl
  exact lv_if_gt hx hb hd ht (fun z => h1 z H locs ls hP hD hS hl) (fun z => h2 z H locs ls hP hD hS hl)
theorem j_icmp_gt (C : jK l R D ca nL X cc y0 ret0) {x y : Int32} {off : Int} {tgt : Nat} (hd : decode cc pc = .ok (.if_icmp .gt off, 3)) (ht : (pc : Int) + off = (tgt : Int)) (h1 : y < x → J l R D nL X k n ws lv (st) (tgt)) (h2 : ¬ (y < x) → J l R D nL X k n ws lv (st) (pc + 3)) : J l R D nL X k n ws lv (.int y :: .int x :: st) (pc) := by
  obtain ⟨p, e, s, m, args, below, meth, c, A, H0, Q⟩ := X
  obtain ⟨hx, hb, hml, hown, hts, hK, hlk, hA, hr, hnm0, hjn⟩ := C
  intro H locs ls hP hD hS hl
  exact lv_icmp_gt hx hb hd ht (fun z => h1 z H locs ls hP hD hS hl) (fun z => h2 z H locs ls hP hD hS hl)
theorem j_if_le (C : jK l R D ca nL X cc y0 ret0) {x : Int32} {off : Int} {tgt : Nat} (hd : decode cc pc = .ok (.ifCond .le off, 3)) (ht : (pc : Int) + off = (tgt : Int)) (h1 : x ≤ 0 → J l R D nL X k n ws lv (st) (tgt)) (h2 : ¬ (x ≤ 0) → J l R D nL X k n ws lv (st) (pc + 3)) : J l R D nL X k n ws lv (.int x :: st) (pc) := by
  obtain ⟨p, e, s, m, args, below, meth, c, A, H0, Q⟩ := X
  obtain ⟨hx, hb, hml, hown, hts, hK, hlk, hA, hr, hnm0, hjn⟩ := C
  intro H locs ls hP hD hS hl
  exact lv_if_le hx hb hd ht (fun z => h1 z H locs ls hP hD hS hl) (fun z => h2 z H locs ls hP hD hS hl)
theorem j_icmp_le (C : jK l R D ca nL X cc y0 ret0) {x y : Int32} {off : Int} {tgt : Nat} (hd : decode cc pc = .ok (.if_icmp .le off, 3)) (ht : (pc : Int) + off = (tgt : Int)) (h1 : x ≤ y → J l R D nL X k n ws lv (st) (tgt)) (h2 : ¬ (x ≤ y) → J l R D nL X k n ws lv (st) (pc + 3)) : J l R D nL X k n ws lv (.int y :: .int x :: st) (pc) := by
  obtain ⟨p, e, s, m, args, below, meth, c, A, H0, Q⟩ := X
  obtain ⟨hx, hb, hml, hown, hts, hK, hlk, hA, hr, hnm0, hjn⟩ := C
  intro H locs ls hP hD hS hl
  exact lv_icmp_le hx hb hd ht (fun z => h1 z H locs ls hP hD hS hl) (fun z => h2 z H locs ls hP hD hS hl)
theorem j_goto (C : jK l R D ca nL X cc y0 ret0) {off : Int} {tgt : Nat} (hd : decode cc pc = .ok (.goto off, 3)) (ht : (pc : Int) + off = (tgt : Int)) (h : J l R D nL X k n ws lv (st) (tgt)) : J l R D nL X k n ws lv (st) (pc) := by
  obtain ⟨p, e, s, m, args, below, meth, c, A, H0, Q⟩ := X
  obtain ⟨hx, hb, hml, hown, hts, hK, hlk, hA, hr, hnm0, hjn⟩ := C
  intro H locs ls hP hD hS hl
  exact lv_goto hx hb hd ht (h H locs ls hP hD hS hl)
theorem j_ifnull (C : jK l R D ca nL X cc y0 ret0) {x : Nat} {off : Int} (hd : decode cc pc = .ok (.ifnull off, 3)) (h : J l R D nL X k n ws lv (st) (pc + 3)) : J l R D nL X k n ws lv (.ref x :: st) (pc) := by
  obtain ⟨p, e, s, m, args, below, meth, c, A, H0, Q⟩ := X
  obtain ⟨hx, hb, hml, hown, hts, hK, hlk, hA, hr, hnm0, hjn⟩ := C
  intro H locs ls hP hD hS hl
  exact lv_ifnull hx hb hd (h H locs ls hP hD hS hl)
theorem j_tabIn (C : jK l R D ca nL X cc y0 ret0) {x : Int32} {dflt lo hi : Int} {offs : Array Int} {len : Nat} {off : Int} {tgt : Nat} (hd : decode cc pc = .ok (.tableswitch dflt lo hi offs, len)) (h1 : ¬ x.toInt < lo) (h2 : ¬ hi < x.toInt) (ho : offs[(x.toInt - lo).toNat]? = some off) (ht : (pc : Int) + off = (tgt : Int)) (h : J l R D nL X k n ws lv (st) (tgt)) : J l R D nL X k n ws lv (.int x :: st) (pc) := by
  obtain ⟨p, e, s, m, args, below, meth, c, A, H0, Q⟩ := X
  obtain ⟨hx, hb, hml, hown, hts, hK, hlk, hA, hr, hnm0, hjn⟩ := C
  intro H locs ls hP hD hS hl
  exact lv_tableIn hx hb hd h1 h2 ho ht (h H locs ls hP hD hS hl)
theorem j_tabOut (C : jK l R D ca nL X cc y0 ret0) {x : Int32} {dflt lo hi : Int} {offs : Array Int} {len : Nat} {tgt : Nat} (hd : decode cc pc = .ok (.tableswitch dflt lo hi offs, len)) (h0 : x.toInt < lo ∨ hi < x.toInt) (ht : (pc : Int) + dflt = (tgt : Int)) (h : J l R D nL X k n ws lv (st) (tgt)) : J l R D nL X k n ws lv (.int x :: st) (pc) := by
  obtain ⟨p, e, s, m, args, below, meth, c, A, H0, Q⟩ := X
  obtain ⟨hx, hb, hml, hown, hts, hK, hlk, hA, hr, hnm0, hjn⟩ := C
  intro H locs ls hP hD hS hl
  exact lv_tableOut hx hb hd h0 ht (h H locs ls hP hD hS hl)
theorem j_ldc (C : jK l R D ca nL X cc y0 ret0) {i : Nat} {v : Int32} (hw : Cond.constant y0.cls i v ∈ jAll) (hd : decode cc pc = .ok (.ldc i, 2)) (h : J l R D nL X k n ws lv (.int v :: st) (pc + 2)) : J l R D nL X k n ws lv (st) (pc) := by
  obtain ⟨p, e, s, m, args, below, meth, c, A, H0, Q⟩ := X
  obtain ⟨hx, hb, hml, hown, hts, hK, hlk, hA, hr, hnm0, hjn⟩ := C
  intro H locs ls hP hD hS hl
  exact lv_ldc hx hb hown (hts _ hw) hd (h H locs ls hP hD hS hl)
theorem j_ldcw (C : jK l R D ca nL X cc y0 ret0) {i : Nat} {v : Int32} (hw : Cond.constant y0.cls i v ∈ jAll) (hd : decode cc pc = .ok (.ldc_w i, 3)) (h : J l R D nL X k n ws lv (.int v :: st) (pc + 3)) : J l R D nL X k n ws lv (st) (pc) := by
  obtain ⟨p, e, s, m, args, below, meth, c, A, H0, Q⟩ := X
  obtain ⟨hx, hb, hml, hown, hts, hK, hlk, hA, hr, hnm0, hjn⟩ := C
  intro H locs ls hP hD hS hl
  exact lv_ldcw hx hb hown (hts _ hw) hd (h H locs ls hP hD hS hl)
theorem j_ldcf (C : jK l R D ca nL X cc y0 ret0) {i : Nat} {v : UInt32} (hw : Cond.constantFloat y0.cls i v ∈ jAll) (hd : decode cc pc = .ok (.ldc i, 2)) (h : J l R D nL X k n ws lv (.float v :: st) (pc + 2)) : J l R D nL X k n ws lv (st) (pc) := by
  obtain ⟨p, e, s, m, args, below, meth, c, A, H0, Q⟩ := X
  obtain ⟨hx, hb, hml, hown, hts, hK, hlk, hA, hr, hnm0, hjn⟩ := C
  intro H locs ls hP hD hS hl
  exact lv_ldcf hx hb hown (hts _ hw) hd (h H locs ls hP hD hS hl)
theorem j_ldcwf (C : jK l R D ca nL X cc y0 ret0) {i : Nat} {v : UInt32} (hw : Cond.constantFloat y0.cls i v ∈ jAll) (hd : decode cc pc = .ok (.ldc_w i, 3)) (h : J l R D nL X k n ws lv (.float v :: st) (pc + 3)) : J l R D nL X k n ws lv (st) (pc) := by
  obtain ⟨p, e, s, m, args, below, meth, c, A, H0, Q⟩ := X
  obtain ⟨hx, hb, hml, hown, hts, hK, hlk, hA, hr, hnm0, hjn⟩ := C
  intro H locs ls hP hD hS hl
  intro T hT X
  obtain ⟨t, a, b⟩ := h H locs ls hP hD hS hl T hT X
  exact ⟨t, va_ldcwF X hx hown (hts _ hw) (g := F0 m pc ls st) rfl (by rw [hb]; exact hd) t a, b⟩
theorem j_ldc2 (C : jK l R D ca nL X cc y0 ret0) {i : Nat} {v : Int64} (hw : Cond.constantLong y0.cls i v ∈ jAll) (hd : decode cc pc = .ok (.ldc2_w i, 3)) (h : J l R D nL X k n ws lv (.long v :: st) (pc + 3)) : J l R D nL X k n ws lv (st) (pc) := by
  obtain ⟨p, e, s, m, args, below, meth, c, A, H0, Q⟩ := X
  obtain ⟨hx, hb, hml, hown, hts, hK, hlk, hA, hr, hnm0, hjn⟩ := C
  intro H locs ls hP hD hS hl
  exact lv_ldc2 hx hb hown (hts _ hw) hd (h H locs ls hP hD hS hl)
end JR
/-- a field that a class's pool names: class and place of the object's cell -/
def jF (own : String) (idx ci j : Nat) : Prop := ∃ r : vw_C, vwCl[ci]? = some r ∧ j < r.2.2 ∧ (∀ w ∈ u_ws r.1 r.2.1 r.2.2, w ∈ jAll) ∧ Cond.fieldLink own idx r.1 (r.2.1 j).2.1 (r.2.1 j).2.2.1 ∈ jAll ∧ (r.2.1 j).1 = r.1
/-- .. which may be written -/
def jFw (own : String) (idx ci j : Nat) (fin : Bool) (ty : FieldType) : Prop := ∃ r : vw_C, vwCl[ci]? = some r ∧ j < r.2.2 ∧ (∀ w ∈ u_ws r.1 r.2.1 r.2.2, w ∈ jAll) ∧ Cond.fieldLink own idx r.1 (r.2.1 j).2.1 (r.2.1 j).2.2.1 ∈ jAll ∧ (r.2.1 j).1 = r.1 ∧ (r.2.1 j).2.2.2 = fin ∧ parseFieldDescriptor (r.2.1 j).2.2.1 = some ty ∧ (∃ ty0 : Nat → FieldType, ∀ k, k < r.2.2 → parseFieldDescriptor (r.2.1 k).2.2.1 = some (ty0 k)) ∧ ∀ a, a < r.2.2 → ∀ b, b < r.2.2 → a ≠ b → (r.2.1 a).2.1 ≠ (r.2.1 b).2.1
theorem jFw.F {own : String} {idx ci j : Nat} {fin : Bool} {ty : FieldType} (h : jFw own idx ci j fin ty) : jF own idx ci j := by
  obtain ⟨r, h1, h2, h3, h4, h5, -⟩ := h
  exact ⟨r, h1, h2, h3, h4, h5⟩
section JR2
variable {l : Launch} {R : Room} {D : va_G} {ca : Nat → ClassId} {nL : Nat} {X : jX} {cc : ByteArray} {y0 : MethodName} {ret0 : Option FieldType} {k n pc : Nat} {ws : va_W} {lv : jLv} {st : List Value}
theorem j_get (C : jK l R D ca nL X cc y0 ret0) {idx ci j a : Nat} (F : jF y0.cls idx ci j) (q0 : Nat) {fs : List Value} {v : Value} (hd : decode cc pc = .ok (.getfield idx, 3)) (he : ws[q0]? = some (a, .inr (ci, fs))) (hv : fs[j]? = some v) (h : J l R D nL X k n ws lv (v :: st) (pc + 3)) : J l R D nL X k n ws lv (.ref a :: st) (pc) := by
  obtain ⟨p, e, s, m, args, below, meth, c, A, H0, Q⟩ := X
  obtain ⟨hx, hb, hml, hown, hts, hK, hlk, hA, hr, hnm0, hjn⟩ := C
  intro H locs ls hP hD hS hl
  obtain ⟨⟨rC, rT, rN⟩, h1, h2, h3, h4, h5⟩ := F
  exact va_get hx hb hts h3 hown hK hP q0 he h1 j h2 (hts _ h4) (fun z hz => by rw [← h5]; exact hz) hv hd (h H locs ls hP hD hS hl)
theorem j_put (C : jK l R D ca nL X cc y0 ret0) {idx ci j a : Nat} {ty : FieldType} (F : jFw y0.cls idx ci j false ty) (q0 : Nat) {fs : List Value} {v : Value} (hd : decode cc pc = .ok (.putfield idx, 3)) (he : ws[q0]? = some (a, .inr (ci, fs))) (hl0 : j < fs.length) (hn : narrow ty v = v) (hf : fits ty v = true) (h : J l R D nL X k n (ws.set q0 (a, .inr (ci, fs.set j v))) lv (st) (pc + 3)) : J l R D nL X k n ws lv (v :: .ref a :: st) (pc) := by
  obtain ⟨p, e, s, m, args, below, meth, c, A, H0, Q⟩ := X
  obtain ⟨hx, hb, hml, hown, hts, hK, hlk, hA, hr, hnm0, hjn⟩ := C
  intro H locs ls hP hD hS hl
  obtain ⟨⟨rC, rT, rN⟩, h1, h2, h3, h4, h5, h6, h7, ⟨ty0, h8⟩, h9⟩ := F
  exact va_put hx hb hts h3 ty0 h8 h9 hown hK hP hD hS q0 he h1 j h2 (hts _ h4) (fun z hz => by rw [← h5]; exact hz) h6 h7 hn hf hl0 hd (fun H1 L1 hP1 hD1 hS1 => h H1 L1 ls hP1 hD1 hS1 hl)
theorem j_putF (C : jK l R D ca nL X cc y0 ret0) {idx ci j a : Nat} {ty : FieldType} (F : jFw y0.cls idx ci j true ty) (q0 : Nat) {fs : List Value} {v : Value} (hd : decode cc pc = .ok (.putfield idx, 3)) (he : ws[q0]? = some (a, .inr (ci, fs))) (hl0 : j < fs.length) (hn : narrow ty v = v) (hf : fits ty v = true) (hi : y0.name = "<init>") (hcl : ∀ r, vwCl[ci]? = some r → r.1 = y0.cls) (h : J l R D nL X k n (ws.set q0 (a, .inr (ci, fs.set j v))) lv (st) (pc + 3)) : J l R D nL X k n ws lv (v :: .ref a :: st) (pc) := by
  obtain ⟨p, e, s, m, args, below, meth, c, A, H0, Q⟩ := X
  obtain ⟨hx, hb, hml, hown, hts, hK, hlk, hA, hr, hnm0, hjn⟩ := C
  intro H locs ls hP hD hS hl
  obtain ⟨⟨rC, rT, rN⟩, h1, h2, h3, h4, h5, h6, h7, ⟨ty0, h8⟩, h9⟩ := F
  exact va_putF hx hb hts h3 ty0 h8 h9 hown hK hP hD hS q0 he h1 j h2 (hts _ h4) (fun z hz => by rw [← h5]; exact hz) h6 (hnm0 hi) (h5.trans (hcl _ h1)) h7 hn hf hl0 hd (fun H1 L1 hP1 hD1 hS1 => h H1 L1 ls hP1 hD1 hS1 hl)
theorem j_iald (C : jK l R D ca nL X cc y0 ret0) {a N : Nat} (q0 : Nat) {f : Nat → Int32} {i : Int32} (hd : decode cc pc = .ok (.iaload, 1)) (he : ws[q0]? = some (a, .inl (ca 0, N, .inl f))) (hin : vp_in i N) (h : J l R D nL X k n ws lv (.int (f i.toNatClampNeg) :: st) (pc + 1)) : J l R D nL X k n ws lv (.int i :: .ref a :: st) (pc) := by
  obtain ⟨p, e, s, m, args, below, meth, c, A, H0, Q⟩ := X
  obtain ⟨hx, hb, hml, hown, hts, hK, hlk, hA, hr, hnm0, hjn⟩ := C
  intro H locs ls hP hD hS hl
  exact va_iald hx hb hK hP q0 0 he rfl hin hd (h H locs ls hP hD hS hl)
theorem j_cald (C : jK l R D ca nL X cc y0 ret0) {a N : Nat} (q0 : Nat) {f : Nat → Int32} {i : Int32} (hd : decode cc pc = .ok (.caload, 1)) (he : ws[q0]? = some (a, .inl (ca 2, N, .inl f))) (hin : vp_in i N) (h : J l R D nL X k n ws lv (.int (f i.toNatClampNeg) :: st) (pc + 1)) : J l R D nL X k n ws lv (.int i :: .ref a :: st) (pc) := by
  obtain ⟨p, e, s, m, args, below, meth, c, A, H0, Q⟩ := X
  obtain ⟨hx, hb, hml, hown, hts, hK, hlk, hA, hr, hnm0, hjn⟩ := C
  intro H locs ls hP hD hS hl
  exact va_cald hx hb hK hP q0 2 he rfl hin hd (h H locs ls hP hD hS hl)
theorem j_fald (C : jK l R D ca nL X cc y0 ret0) {a N : Nat} (q0 : Nat) {f : Nat → UInt32} {i : Int32} (hd : decode cc pc = .ok (.faload, 1)) (he : ws[q0]? = some (a, .inl (ca 1, N, .inr (.inr (.inl f))))) (hin : vp_in i N) (h : J l R D nL X k n ws lv (.float (f i.toNatClampNeg) :: st) (pc + 1)) : J l R D nL X k n ws lv (.int i :: .ref a :: st) (pc) := by
  obtain ⟨p, e, s, m, args, below, meth, c, A, H0, Q⟩ := X
  obtain ⟨hx, hb, hml, hown, hts, hK, hlk, hA, hr, hnm0, hjn⟩ := C
  intro H locs ls hP hD hS hl
  exact va_fald hx hb hK hP q0 1 he rfl hin hd (h H locs ls hP hD hS hl)
theorem j_aald (C : jK l R D ca nL X cc y0 ret0) {a N : Nat} (q0 : Nat) {f : Nat → Option Nat} {i : Int32} (hd : decode cc pc = .ok (.aaload, 1)) (he : ws[q0]? = some (a, .inl (ca 3, N, .inr (.inr (.inr (.inr f)))))) (hin : vp_in i N) (h : J l R D nL X k n ws lv (va_rf (f i.toNatClampNeg) :: st) (pc + 1)) : J l R D nL X k n ws lv (.int i :: .ref a :: st) (pc) := by
  obtain ⟨p, e, s, m, args, below, meth, c, A, H0, Q⟩ := X
  obtain ⟨hx, hb, hml, hown, hts, hK, hlk, hA, hr, hnm0, hjn⟩ := C
  intro H locs ls hP hD hS hl
  exact va_aldq hx hb hK hP q0 3 he rfl hin hd (h H locs ls hP hD hS hl)
theorem j_iast (C : jK l R D ca nL X cc y0 ret0) {a N : Nat} (q0 : Nat) {f : Nat → Int32} {i x : Int32} (hd : decode cc pc = .ok (.iastore, 1)) (he : ws[q0]? = some (a, .inl (ca 0, N, .inl f))) (hin : vp_in i N) (h : J l R D nL X k n (ws.set q0 (a, .inl (ca 0, N, .inl (upd f i.toNatClampNeg x)))) lv (st) (pc + 1)) : J l R D nL X k n ws lv (.int x :: .int i :: .ref a :: st) (pc) := by
  obtain ⟨p, e, s, m, args, below, meth, c, A, H0, Q⟩ := X
  obtain ⟨hx, hb, hml, hown, hts, hK, hlk, hA, hr, hnm0, hjn⟩ := C
  intro H locs ls hP hD hS hl
  exact va_iast hx hb hK hP hD hS q0 0 he rfl hin hd (fun H1 L1 hP1 hD1 hS1 => h H1 L1 ls hP1 hD1 hS1 hl)
theorem j_cast (C : jK l R D ca nL X cc y0 ret0) {a N : Nat} (q0 : Nat) {f : Nat → Int32} {i x : Int32} (hd : decode cc pc = .ok (.castore, 1)) (he : ws[q0]? = some (a, .inl (ca 2, N, .inl f))) (hin : vp_in i N) (h : J l R D nL X k n (ws.set q0 (a, .inl (ca 2, N, .inl (upd f i.toNatClampNeg (vp_nar .char x))))) lv (st) (pc + 1)) : J l R D nL X k n ws lv (.int x :: .int i :: .ref a :: st) (pc) := by
  obtain ⟨p, e, s, m, args, below, meth, c, A, H0, Q⟩ := X
  obtain ⟨hx, hb, hml, hown, hts, hK, hlk, hA, hr, hnm0, hjn⟩ := C
  intro H locs ls hP hD hS hl
  exact va_cast hx hb hK hP hD hS q0 2 he rfl hin hd (fun H1 L1 hP1 hD1 hS1 => h H1 L1 ls hP1 hD1 hS1 hl)
theorem j_fast (C : jK l R D ca nL X cc y0 ret0) {a N : Nat} (q0 : Nat) {f : Nat → UInt32} {i : Int32} {x : UInt32} (hd : decode cc pc = .ok (.fastore, 1)) (he : ws[q0]? = some (a, .inl (ca 1, N, .inr (.inr (.inl f))))) (hin : vp_in i N) (h : J l R D nL X k n (ws.set q0 (a, .inl (ca 1, N, .inr (.inr (.inl (vf_upd f i.toNatClampNeg x)))))) lv (st) (pc + 1)) : J l R D nL X k n ws lv (.float x :: .int i :: .ref a :: st) (pc) := by
  obtain ⟨p, e, s, m, args, below, meth, c, A, H0, Q⟩ := X
  obtain ⟨hx, hb, hml, hown, hts, hK, hlk, hA, hr, hnm0, hjn⟩ := C
  intro H locs ls hP hD hS hl
  exact va_fast hx hb hK hP hD hS q0 1 he rfl hin hd (fun H1 L1 hP1 hD1 hS1 => h H1 L1 ls hP1 hD1 hS1 hl)
theorem j_aast (C : jK l R D ca nL X cc y0 ret0) {a N b : Nat} (q0 qk : Nat) {fs : List Value} {f : Nat → Option Nat} {i : Int32} (hd : decode cc pc = .ok (.aastore, 1)) (he : ws[q0]? = some (a, .inl (ca 3, N, .inr (.inr (.inr (.inr f)))))) (hq : ws[qk]? = some (b, .inr (0, fs))) (hin : vp_in i N) (h : J l R D nL X k n (ws.set q0 (a, .inl (ca 3, N, .inr (.inr (.inr (.inr (va_up f i.toNatClampNeg (some b)))))))) lv (st) (pc + 1)) : J l R D nL X k n ws lv (.ref b :: .int i :: .ref a :: st) (pc) := by
  obtain ⟨p, e, s, m, args, below, meth, c, A, H0, Q⟩ := X
  obtain ⟨hx, hb, hml, hown, hts, hK, hlk, hA, hr, hnm0, hjn⟩ := C
  intro H locs ls hP hD hS hl
  exact va_astq (r := (RX0, TX0, 11)) hx hb hK hP hD hS q0 3 qk 0 he rfl hq rfl hin hd (fun H1 L1 hP1 hD1 hS1 => h H1 L1 ls hP1 hD1 hS1 hl)
theorem j_alen (C : jK l R D ca nL X cc y0 ret0) {a N : Nat} (q0 : Nat) {f : Nat → Int32} {v : Int32} (hd : decode cc pc = .ok (.arraylength, 1)) (he : ws[q0]? = some (a, .inl (ca 0, N, .inl f))) (hv : Int32.ofNat N = v) (h : J l R D nL X k n ws lv (.int v :: st) (pc + 1)) : J l R D nL X k n ws lv (.ref a :: st) (pc) := by
  obtain ⟨p, e, s, m, args, below, meth, c, A, H0, Q⟩ := X
  obtain ⟨hx, hb, hml, hown, hts, hK, hlk, hA, hr, hnm0, hjn⟩ := C
  intro H locs ls hP hD hS hl
  exact va_alen hx hb hK hP q0 0 he rfl hv hd (h H locs ls hP hD hS hl)
theorem j_objInit (C : jK l R D ca nL X cc y0 ret0) {idx a : Nat} (hw1 : Cond.methodLink y0.cls idx Lib.objectInit ∈ jAll) (hw2 : Cond.instanceMethod Lib.objectInit ∈ jAll) (hw3 : Cond.code Lib.objectInit ⟨#[0xb1]⟩ 1 none ∈ jAll) (hd : decode cc pc = .ok (.invokespecial idx, 3)) (hf : 1 ≤ R.frames) (hL : (st.map fun v => v.category).sum + 12 ≤ R.locals) (h : J l R D nL X k n ws lv (st) (pc + 3)) : J l R D nL X k n ws lv (.ref a :: st) (pc) := by
  obtain ⟨p, e, s, m, args, below, meth, c, A, H0, Q⟩ := X
  obtain ⟨hx, hb, hml, hown, hts, hK, hlk, hA, hr, hnm0, hjn⟩ := C
  intro H locs ls hP hD hS hl
  refine W.objInit (g := F0 m pc ls (.ref a :: st)) hx hb hown (hts _ hw1) (hts _ hw2) (hts _ hw3) rfl (by rw [hml]; exact hl.1) rfl hd hf (by simpa [JFrame.monitorRoom] using hL) ?_
  exact h H locs ls hP hD hS hl
theorem j_new (C : jK l R D ca nL X cc y0 ret0) {idx ci : Nat} (fs : List Value) {rC : String} {rT : u_T} {rN : Nat} (ty : Nat → FieldType) (hty : ∀ k, k < rN → parseFieldDescriptor (rT k).2.2.1 = some (ty k)) (hin : ∀ w ∈ u_ws rC rT rN, w ∈ jAll) (hw1 : Cond.classLink y0.cls idx rC ∈ jAll) (hw2 : Cond.instantiable rC rN ∈ jAll) (hw3 : Cond.initialized rC ∈ jAll) (hc : vwCl[ci]? = some (rC, rT, rN)) (hfs : ∀ j, j < rN → defaultValue (ty j) = vp_V fs j) (h1 : k + 1 ≤ R.cells) (h2 : n + rN ≤ R.slots) (hd : decode cc pc = .ok (.new idx, 3)) (h : ∀ q, J l R D nL X (k + 1) (n + rN) (ws ++ [(q, .inr (ci, fs))]) lv (.ref q :: st) (pc + 3)) : J l R D nL X k n ws lv (st) (pc) := by
  obtain ⟨p, e, s, m, args, below, meth, c, A, H0, Q⟩ := X
  obtain ⟨hx, hb, hml, hown, hts, hK, hlk, hA, hr, hnm0, hjn⟩ := C
  intro H locs ls hP hD hS hl
  exact va_new hx hb hts hin ty hty hown (hts _ hw1) (hts _ hw2) (hts _ hw3) hK hP hD hS hA hc hfs h1 h2 hd (fun q H1 hP1 hD1 hS1 => h q H1 locs ls hP1 hD1 hS1 hl)
theorem j_newa_i (C : jK l R D ca nL X cc y0 ret0) (N : Nat) {v : Int32} (hw : Cond.arrayClass .int ∈ jAll) (hn : ¬ v < 0) (hN : v.toNatClampNeg = N) (hbt : N * componentBytes .int ≤ 536870912) (h1 : k + 1 ≤ R.cells) (h2 : n + N ≤ R.slots) (hd : decode cc pc = .ok (.newarray .int, 2)) (h : ∀ q, J l R D nL X (k + 1) (n + N) (ws ++ [(q, .inl (ca 0, N, .inl (fun _ => 0)))]) lv (.ref q :: st) (pc + 2)) : J l R D nL X k n ws lv (.int v :: st) (pc) := by
  obtain ⟨p, e, s, m, args, below, meth, c, A, H0, Q⟩ := X
  obtain ⟨hx, hb, hml, hown, hts, hK, hlk, hA, hr, hnm0, hjn⟩ := C
  intro H locs ls hP hD hS hl
  refine va_newa (atype := .int) (ty := .int) (a0 := (N, .inl (fun _ => 0))) hx hb (hts _ hw) rfl hK hP hD hS hA (fun cA => rfl) hn hN hbt h1 h2 hd (fun q cA H1 hK1 hP1 hD1 hS1 => ?_)
  have e1 := (hK1.2 4 (cA, .int) rfl).2
  have e2 := (hK.2 0 (ca 0, .int) rfl).2
  have e3 : cA = ca 0 := Option.some.inj (e1.symm.trans e2)
  subst e3
  exact h q H1 locs ls hP1 hD1 hS1 hl
theorem j_newa_f (C : jK l R D ca nL X cc y0 ret0) (N : Nat) {v : Int32} (hw : Cond.arrayClass .float ∈ jAll) (hn : ¬ v < 0) (hN : v.toNatClampNeg = N) (hbt : N * componentBytes .float ≤ 536870912) (h1 : k + 1 ≤ R.cells) (h2 : n + N ≤ R.slots) (hd : decode cc pc = .ok (.newarray .float, 2)) (h : ∀ q, J l R D nL X (k + 1) (n + N) (ws ++ [(q, .inl (ca 1, N, .inr (.inr (.inl (fun _ => 0)))))]) lv (.ref q :: st) (pc + 2)) : J l R D nL X k n ws lv (.int v :: st) (pc) := by
  obtain ⟨p, e, s, m, args, below, meth, c, A, H0, Q⟩ := X
  obtain ⟨hx, hb, hml, hown, hts, hK, hlk, hA, hr, hnm0, hjn⟩ := C
  intro H locs ls hP hD hS hl
  refine va_newa (atype := .float) (ty := .float) (a0 := (N, .inr (.inr (.inl (fun _ => 0))))) hx hb (hts _ hw) rfl hK hP hD hS hA (fun cA => rfl) hn hN hbt h1 h2 hd (fun q cA H1 hK1 hP1 hD1 hS1 => ?_)
  have e1 := (hK1.2 4 (cA, .float) rfl).2
  have e2 := (hK.2 1 (ca 1, .float) rfl).2
  have e3 : cA = ca 1 := Option.some.inj (e1.symm.trans e2)
  subst e3
  exact h q H1 locs ls hP1 hD1 hS1 hl
theorem j_newa_c (C : jK l R D ca nL X cc y0 ret0) (N : Nat) {v : Int32} (hw : Cond.arrayClass .char ∈ jAll) (hn : ¬ v < 0) (hN : v.toNatClampNeg = N) (hbt : N * componentBytes .char ≤ 536870912) (h1 : k + 1 ≤ R.cells) (h2 : n + N ≤ R.slots) (hd : decode cc pc = .ok (.newarray .char, 2)) (h : ∀ q, J l R D nL X (k + 1) (n + N) (ws ++ [(q, .inl (ca 2, N, .inl (fun _ => 0)))]) lv (.ref q :: st) (pc + 2)) : J l R D nL X k n ws lv (.int v :: st) (pc) := by
  obtain ⟨p, e, s, m, args, below, meth, c, A, H0, Q⟩ := X
  obtain ⟨hx, hb, hml, hown, hts, hK, hlk, hA, hr, hnm0, hjn⟩ := C
  intro H locs ls hP hD hS hl
  refine va_newa (atype := .char) (ty := .char) (a0 := (N, .inl (fun _ => 0))) hx hb (hts _ hw) rfl hK hP hD hS hA (fun cA => rfl) hn hN hbt h1 h2 hd (fun q cA H1 hK1 hP1 hD1 hS1 => ?_)
  have e1 := (hK1.2 4 (cA, .char) rfl).2
  have e2 := (hK.2 2 (ca 2, .char) rfl).2
  have e3 : cA = ca 2 := Option.some.inj (e1.symm.trans e2)
  subst e3
  exact h q H1 locs ls hP1 hD1 hS1 hl
end JR2
