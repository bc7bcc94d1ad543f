/-! THE CLAIM OUT OF ONE WALK OF THE LAW'S BODY. Your part is whole_start (and what it stands on); all else here is the same for every law, but numbers. -/
def R_law : String := "GuildFundLaw"
def lw_P (b : Addr) (xs : List Int32) (args : Array Value) (s : State) : Prop := args = #[.ref b] ∧ s.IntsAt b xs ∧ xs.length ≤ 260 ∧ (Jvm.Cond.and given_1 narrow_1).before args s = true
/-- what a walk over the start with the record d0 says of its end, said of the start itself -/
theorem lw_closed {s t : State} {o : Outcome} {d0 : Drawn} {L : List Loc} {k n : Nat} (hd0 : s.drawn.sameBut d0 lw_cs) (hv : ∃ v, o = .returned v) (hW : (s.setDrawn d0).WarmedH t.vm) (hs : (s.setDrawn d0).sameButNew ({ t with vm := s.vm } : State) L k n) : State.butDraws s t lw_cs (fun t1 => Framed s o t1 L k n) := by
  have h2 : t.drawn = d0 := congrArg State.drawn hs.1
  refine ⟨⟨hv, hW, State.sameButNew.setDrawn hs s.drawn⟩, ?_, by decide⟩
  rw [h2]
  exact hd0
def lw_Q (_ : Array Value) (s : State) (o : Outcome) (t : State) : Prop := o = .returned (some (.int 1)) ∧ State.butDraws s t lw_cs (fun t1 => Framed s o t1 [] 600000 7302250)
def lw_Z (below : List Frame) (a : Array Value) (s : State) : State → Prop := fun t => ∃ o, t.status = .running ∧ Ended t below o ∧ lw_Q a s o t
/-- the law's own end, with 1 on the stack, nothing written that was there before, its room as the claim has it; d0: the record of draws at this point (at the entry s.drawn: begin with 'refine W.base ?_' and 'have hd0 := Drawn.sameBut.refl s.drawn lw_cs') -/
theorem lw_ret {p : Program} {l : Launch} {e : Env} {s : State} {m : MethodId} {below : List Frame} {meth : Method} {c : Code} {b : Nat} {d0 : Drawn} (hd0 : s.drawn.sameBut d0 lw_cs) (hx : p.tables.exec = Jvm.exec) (hb : c.code = code) (hr : meth.sig.returnType = ret) (hlocks : meth.locks = false) {pc : Nat} {H : Heap} {ls : Array Slot} (hdg : decode code pc = .ok (.ireturn, 1)) : W p l e room_1 (s.setDrawn d0) m #[Value.ref b] below meth c H [] 600000 7302250 (lw_Z below #[Value.ref b] s) (F0 m pc ls [.int 1]) := by
  intro T hT X
  obtain ⟨fs, hret, hrun, hended, hW, hframe⟩ := X.leave (v := some (.int 1)) (hlocks := hlocks) (fun h => by rw [hr] at h; cases h)
  have hmeth' : T.vm.method? m = some meth := X.method'
  refine ⟨T.setFrames fs, ?_, .returned (some (.int 1)), hrun, hended, rfl, lw_closed hd0 ⟨_, rfl⟩ hW hframe⟩
  jvm_step X.here [X.here.top, hx, hb, hdg, hmeth', hr, ret, narrow_b1]
  (try refine ⟨rfl, ?_⟩); (try refine ⟨rfl, ?_⟩)
  first | (intro acts; rw [hret _ acts rfl rfl rfl]) | rw [hret _ _ rfl rfl rfl]
  exact Steps.refl _
/-- what holds at the law's entry: the machine, the code, the tables' words (any of lw_tbl by 'hts w (by decide +kernel)'), the script of L ints xs at the cell b, what the Statement gives of the start (any of its parts by flat_of_before) -/
def lw_At (p : Program) (s : State) (m : MethodId) (meth : Method) (c : Code) (b L : Nat) (xs : Nat → Int32) : Prop :=
  p.tables.exec = Jvm.exec ∧ c.code = code ∧ meth.sig.returnType = ret ∧ c.maxLocals = 13 ∧ s.vm.findClass R_law = some m.cls ∧ (∀ w ∈ lw_tbl, w.before #[Value.ref b] s = true) ∧ va_X b L xs s s.heap ∧ b < s.heap.size ∧ meth.locks = false ∧ (Jvm.Cond.and given_1 narrow_1).before #[Value.ref b] s = true
theorem jt_1 {w : Cond} (h : w ∈ tables_1_1) : w ∈ lw_tbl := List.mem_append_right _ (List.mem_append_left _ h)
theorem jt_2 {w : Cond} (h : w ∈ tables_1_2) : w ∈ lw_tbl := List.mem_append_right _ (List.mem_append_right _ (List.mem_append_left _ h))
theorem jt_3 {w : Cond} (h : w ∈ tables_1_3) : w ∈ lw_tbl := List.mem_append_right _ (List.mem_append_right _ (List.mem_append_right _ h))
theorem wn_0 : Cond.methodLinkNest RX0 11 yX4_init RX7 ∈ lw_tbl := jt_1 (List.mem_of_getElem? (i := 25) rfl)
theorem wn_1 : Cond.methodLinkNest RX0 20 yX1_init RX7 ∈ lw_tbl := jt_1 (List.mem_of_getElem? (i := 54) rfl)
theorem wn_2 : Cond.methodLinkNest RX0 27 yX3_init RX7 ∈ lw_tbl := jt_1 (List.mem_of_getElem? (i := 73) rfl)
theorem wn_3 : Cond.methodLinkNest RX7 31 yX6_init RX7 ∈ lw_tbl := jt_1 (List.mem_of_getElem? (i := 188) rfl)
theorem wn_4 : Cond.methodLinkNest RX7 38 yX5_init RX7 ∈ lw_tbl := jt_1 (List.mem_of_getElem? (i := 210) rfl)
theorem wn_5 : Cond.methodLinkNest RX4 32 yX7_copyRow RX7 ∈ lw_tbl := jt_2 (List.mem_of_getElem? (i := 34) rfl)
theorem wn_6 : Cond.methodLinkNest RX1 29 yX7_copyRow RX7 ∈ lw_tbl := jt_2 (List.mem_of_getElem? (i := 41) rfl)
theorem wn_7 : Cond.methodLinkNest RX3 44 yX7_copyRow RX7 ∈ lw_tbl := jt_2 (List.mem_of_getElem? (i := 46) rfl)
theorem wn_8 : Cond.methodLinkNest RX0 162 yX7_copyRow RX7 ∈ lw_tbl := jt_2 (List.mem_of_getElem? (i := 47) rfl)
theorem wn_9 : Cond.methodLinkNest RX0 64 yX7_noNumber RX7 ∈ lw_tbl := jt_2 (List.mem_of_getElem? (i := 74) rfl)
theorem wn_10 : Cond.methodLinkNest RX1 25 yX7_noNumber RX7 ∈ lw_tbl := jt_2 (List.mem_of_getElem? (i := 91) rfl)
theorem w_ao : Cond.arrayOver (.object RX0) ∈ lw_tbl := jt_1 (List.mem_of_getElem? (i := 173) rfl)
theorem ws_0 : Cond.laysStatic RX7 (sn 0) "[I" ∈ lw_tbl := jt_2 (List.mem_of_getElem? (i := 235) rfl)
theorem ws_1 : Cond.laysStatic RX7 (sn 1) "[I" ∈ lw_tbl := jt_2 (List.mem_of_getElem? (i := 237) rfl)
theorem ws_2 : Cond.laysStatic RX7 (sn 2) "[I" ∈ lw_tbl := jt_2 (List.mem_of_getElem? (i := 224) rfl)
theorem ws_3 : Cond.laysStatic RX7 (sn 3) "[I" ∈ lw_tbl := jt_2 (List.mem_of_getElem? (i := 226) rfl)
theorem jAll_tbl {w : Cond} (h : w ∈ jAll) : w ∈ lw_tbl := (List.mem_filter.mp h).1
theorem jN_of {args : Array Value} {U : State} (h : ∀ w ∈ lw_tbl, w.before args U = true) : jN U := by
  refine ⟨fun w hw => ?_, va_AO.of (h _ w_ao)⟩
  simp only [jNest, List.mem_cons, List.not_mem_nil, or_false] at hw
  rcases hw with rfl | rfl | rfl | rfl | rfl | rfl | rfl | rfl | rfl | rfl | rfl
  · exact va_Nw.of rfl (h _ wn_0)
  · exact va_Nw.of rfl (h _ wn_1)
  · exact va_Nw.of rfl (h _ wn_2)
  · exact va_Nw.of rfl (h _ wn_3)
  · exact va_Nw.of rfl (h _ wn_4)
  · exact va_Nw.of rfl (h _ wn_5)
  · exact va_Nw.of rfl (h _ wn_6)
  · exact va_Nw.of rfl (h _ wn_7)
  · exact va_Nw.of rfl (h _ wn_8)
  · exact va_Nw.of rfl (h _ wn_9)
  · exact va_Nw.of rfl (h _ wn_10)
theorem ar_int {args : Array Value} {s : State} (h : (Cond.arrayClass .int).before args s = true) : ∃ cA, ArrOfT s cA .int ∧ va_RA s cA .int := by
  obtain ⟨c, k, comp, h1, h2, h3⟩ := Cond.arrayClass_spec h
  exact ⟨c, fun n z => ⟨fun k h => (by cases h), k, h2, comp, h3⟩, h1⟩
theorem ar_float {args : Array Value} {s : State} (h : (Cond.arrayClass .float).before args s = true) : ∃ cA, ArrOfT s cA .float ∧ va_RA s cA .float := by
  obtain ⟨c, k, comp, h1, h2, h3⟩ := Cond.arrayClass_spec h
  exact ⟨c, fun n z => ⟨fun k h => (by cases h), k, h2, comp, h3⟩, h1⟩
theorem ar_char {args : Array Value} {s : State} (h : (Cond.arrayClass .char).before args s = true) : ∃ cA, ArrOfT s cA .char ∧ va_RA s cA .char := by
  obtain ⟨c, k, comp, h1, h2, h3⟩ := Cond.arrayClass_spec h
  exact ⟨c, fun n z => ⟨fun k h => (by cases h), k, h2, comp, h3⟩, h1⟩
theorem ar_obj {args : Array Value} {s : State} {C : String} (h : (Cond.arrayOver (.object C)).before args s = true) : ∃ cA, ArrOfT s cA (.object C) ∧ va_RA s cA (.object C) := by
  obtain ⟨comp, c, k, h1, h2, h3, h4, h5⟩ := Cond.arrayOver_spec h
  exact ⟨c, fun n z => ⟨fun k h => (by cases h), k, h3, comp, h4⟩, k, comp, h3, h4, h1, h5⟩
theorem jX1_of {args : Array Value} {s : State} (hts : ∀ w ∈ lw_tbl, w.before args s = true) (hgv : (Jvm.Cond.and given_1 narrow_1).before args s = true) : ∃ ts : Nat → Nat, jX1 ts (fun q : Nat => s.heap.size ≤ q) s s.heap := by
  have hs := flat_of_before _ hgv
  have hA : ∀ a : Nat, a < s.heap.size → ¬ (fun q : Nat => s.heap.size ≤ q) a := fun a h => Nat.not_le.mpr h
  have ha0 : (Cond.arrayOf (Term.static "GuildFund" "LOWEST_RATE" "[I") .int).before args s = true := hs _ (by decide +kernel)
  have hl0 : (Cond.eq (Term.length (Term.static "GuildFund" "LOWEST_RATE" "[I")) (.int 3)).before args s = true := hs _ (by decide +kernel)
  have he0_0 : (Cond.eq (Term.elem (Term.static "GuildFund" "LOWEST_RATE" "[I") (.int 0)) (.int 1036831949)).before args s = true := hs _ (by decide +kernel)
  have he0_1 : (Cond.eq (Term.elem (Term.static "GuildFund" "LOWEST_RATE" "[I") (.int 1)) (.int 0)).before args s = true := hs _ (by decide +kernel)
  have he0_2 : (Cond.eq (Term.elem (Term.static "GuildFund" "LOWEST_RATE" "[I") (.int 2)) (.int 0)).before args s = true := hs _ (by decide +kernel)
  obtain ⟨t0, ev0, hT0⟩ := va_Tof (N := 3) (f := fun k => .int (sv 0 k)) (A := fun q : Nat => s.heap.size ≤ q) (by decide) ha0 (va_eqt hl0) (fun j hj => by
    match j, hj with
    | 0, _ => exact va_eqt he0_0
    | 1, _ => exact va_eqt he0_1
    | 2, _ => exact va_eqt he0_2) hA
  have hz0 := va_Zof (hts _ ws_0) (hts _ (jAll_tbl q_1)) ev0 hA
  have ha1 : (Cond.arrayOf (Term.static "GuildFund" "HIGHEST_RATE" "[I") .int).before args s = true := hs _ (by decide +kernel)
  have hl1 : (Cond.eq (Term.length (Term.static "GuildFund" "HIGHEST_RATE" "[I")) (.int 3)).before args s = true := hs _ (by decide +kernel)
  have he1_0 : (Cond.eq (Term.elem (Term.static "GuildFund" "HIGHEST_RATE" "[I") (.int 0)) (.int 1065353216)).before args s = true := hs _ (by decide +kernel)
  have he1_1 : (Cond.eq (Term.elem (Term.static "GuildFund" "HIGHEST_RATE" "[I") (.int 1)) (.int 1028443341)).before args s = true := hs _ (by decide +kernel)
  have he1_2 : (Cond.eq (Term.elem (Term.static "GuildFund" "HIGHEST_RATE" "[I") (.int 2)) (.int 1056964608)).before args s = true := hs _ (by decide +kernel)
  obtain ⟨t1, ev1, hT1⟩ := va_Tof (N := 3) (f := fun k => .int (sv 1 k)) (A := fun q : Nat => s.heap.size ≤ q) (by decide) ha1 (va_eqt hl1) (fun j hj => by
    match j, hj with
    | 0, _ => exact va_eqt he1_0
    | 1, _ => exact va_eqt he1_1
    | 2, _ => exact va_eqt he1_2) hA
  have hz1 := va_Zof (hts _ ws_1) (hts _ (jAll_tbl q_1)) ev1 hA
  have ha2 : (Cond.arrayOf (Term.static "GuildFund" "LOWEST_NUMBER" "[I") .int).before args s = true := hs _ (by decide +kernel)
  have hl2 : (Cond.eq (Term.length (Term.static "GuildFund" "LOWEST_NUMBER" "[I")) (.int 3)).before args s = true := hs _ (by decide +kernel)
  have he2_0 : (Cond.eq (Term.elem (Term.static "GuildFund" "LOWEST_NUMBER" "[I") (.int 0)) (.int 0)).before args s = true := hs _ (by decide +kernel)
  have he2_1 : (Cond.eq (Term.elem (Term.static "GuildFund" "LOWEST_NUMBER" "[I") (.int 1)) (.int 0)).before args s = true := hs _ (by decide +kernel)
  have he2_2 : (Cond.eq (Term.elem (Term.static "GuildFund" "LOWEST_NUMBER" "[I") (.int 2)) (.int 1)).before args s = true := hs _ (by decide +kernel)
  obtain ⟨t2, ev2, hT2⟩ := va_Tof (N := 3) (f := fun k => .int (sv 2 k)) (A := fun q : Nat => s.heap.size ≤ q) (by decide) ha2 (va_eqt hl2) (fun j hj => by
    match j, hj with
    | 0, _ => exact va_eqt he2_0
    | 1, _ => exact va_eqt he2_1
    | 2, _ => exact va_eqt he2_2) hA
  have hz2 := va_Zof (hts _ ws_2) (hts _ (jAll_tbl q_1)) ev2 hA
  have ha3 : (Cond.arrayOf (Term.static "GuildFund" "HIGHEST_NUMBER" "[I") .int).before args s = true := hs _ (by decide +kernel)
  have hl3 : (Cond.eq (Term.length (Term.static "GuildFund" "HIGHEST_NUMBER" "[I")) (.int 3)).before args s = true := hs _ (by decide +kernel)
  have he3_0 : (Cond.eq (Term.elem (Term.static "GuildFund" "HIGHEST_NUMBER" "[I") (.int 0)) (.int 90)).before args s = true := hs _ (by decide +kernel)
  have he3_1 : (Cond.eq (Term.elem (Term.static "GuildFund" "HIGHEST_NUMBER" "[I") (.int 1)) (.int 90)).before args s = true := hs _ (by decide +kernel)
  have he3_2 : (Cond.eq (Term.elem (Term.static "GuildFund" "HIGHEST_NUMBER" "[I") (.int 2)) (.int 365)).before args s = true := hs _ (by decide +kernel)
  obtain ⟨t3, ev3, hT3⟩ := va_Tof (N := 3) (f := fun k => .int (sv 3 k)) (A := fun q : Nat => s.heap.size ≤ q) (by decide) ha3 (va_eqt hl3) (fun j hj => by
    match j, hj with
    | 0, _ => exact va_eqt he3_0
    | 1, _ => exact va_eqt he3_1
    | 2, _ => exact va_eqt he3_2) hA
  have hz3 := va_Zof (hts _ ws_3) (hts _ (jAll_tbl q_1)) ev3 hA
  refine ⟨fun j => match j with
    | 0 => t0
    | 1 => t1
    | 2 => t2
    | _ => t3, fun j hj => ?_⟩
  match j, hj with
  | 0, _ => exact ⟨hz0, hT0⟩
  | 1, _ => exact ⟨hz1, hT1⟩
  | 2, _ => exact ⟨hz2, hT2⟩
  | 3, _ => exact ⟨hz3, hT3⟩
theorem vK_of {args : Array Value} {s : State} (hts : ∀ w ∈ lw_tbl, w.before args s = true) : ∃ (D : va_G) (ca : Nat → ClassId), va_K D vwCl (jT ca) s := by
  have htj : ∀ w ∈ jAll, w.before args s = true := fun w h => hts w (jAll_tbl h)
  obtain ⟨c0, i0, k0⟩ := u_known (C := RX0) (T := TX0) (N := 11) (n := 11) htj lay_X0 (htj _ q_18)
  obtain ⟨c1, i1, k1⟩ := u_known (C := RX1) (T := TX1) (N := 3) (n := 3) htj lay_X1 (htj _ q_53)
  obtain ⟨c2, i2, k2⟩ := u_known (C := RX2) (T := TX2) (N := 3) (n := 3) htj lay_X2 (htj _ q_167)
  obtain ⟨c3, i3, k3⟩ := u_known (C := RX3) (T := TX3) (N := 8) (n := 8) htj lay_X3 (htj _ q_72)
  obtain ⟨c4, i4, k4⟩ := u_known (C := RX4) (T := TX4) (N := 5) (n := 5) htj lay_X4 (htj _ q_24)
  obtain ⟨c5, i5, k5⟩ := u_known (C := RX5) (T := TX5) (N := 3) (n := 3) htj lay_X5 (htj _ q_209)
  obtain ⟨c6, i6, k6⟩ := u_known (C := RX6) (T := TX6) (N := 5) (n := 5) htj lay_X6 (htj _ q_187)
  obtain ⟨c7, i7, k7⟩ := u_known (C := RX7) (T := TX7) (N := 9) (n := 9) htj lay_X7 (htj _ q_10)
  obtain ⟨a0, x0, y0⟩ := ar_int (htj _ q_51)
  obtain ⟨a1, x1, y1⟩ := ar_float (htj _ q_165)
  obtain ⟨a2, x2, y2⟩ := ar_char (htj _ q_207)
  obtain ⟨a3, x3, y3⟩ := ar_obj (hts _ w_ao)
  refine ⟨(fun k => match k with
    | 0 => c0
    | 1 => c1
    | 2 => c2
    | 3 => c3
    | 4 => c4
    | 5 => c5
    | 6 => c6
    | _ => c7, fun k => match k with
    | 0 => i0
    | 1 => i1
    | 2 => i2
    | 3 => i3
    | 4 => i4
    | 5 => i5
    | 6 => i6
    | _ => i7), fun k => match k with
    | 0 => a0
    | 1 => a1
    | 2 => a2
    | _ => a3, fun k q hq => ?_, fun k q hq => ?_⟩
  · match k, hq with
    | 0, hq => cases hq; exact k0
    | 1, hq => cases hq; exact k1
    | 2, hq => cases hq; exact k2
    | 3, hq => cases hq; exact k3
    | 4, hq => cases hq; exact k4
    | 5, hq => cases hq; exact k5
    | 6, hq => cases hq; exact k6
    | 7, hq => cases hq; exact k7
    | k + 8, hq => simp [vwCl] at hq
  · match k, hq with
    | 0, hq => cases hq; exact ⟨x0, y0⟩
    | 1, hq => cases hq; exact ⟨x1, y1⟩
    | 2, hq => cases hq; exact ⟨x2, y2⟩
    | 3, hq => cases hq; exact ⟨x3, y3⟩
    | k + 4, hq => simp at hq
/-- the law's state as the rows see it, with the record d of draws -/
abbrev lX (p : Program) (e : Env) (s : State) (m : MethodId) (below : List Frame) (meth : Method) (c : Code) (b : Nat) (d : Drawn) : jX := (p, e, s.setDrawn d, m, #[Value.ref b], below, meth, c, (fun q : Nat => s.heap.size ≤ q), s.heap, lw_Z below #[Value.ref b] s)
section LAW2
variable {l : Launch} {D : va_G} {ca : Nat → ClassId} {p : Program} {e : Env} {s : State} {m : MethodId} {below : List Frame} {meth : Method} {c : Code} {b L : Nat} {xs : Nat → Int32} {ts : Nat → Nat}
theorem law_end (hx : p.tables.exec = Jvm.exec) (hb : c.code = code) (hr : meth.sig.returnType = ret) (hlocks : meth.locks = false) {ws : va_W} {lv : jLv} : J l room_1 D 13 (lX p e s m below meth c b s.drawn) 600000 7302250 ws lv [.int 1] 251 := by
  intro H locs ls hP hD hS hl
  refine va_forget (fun q hq => hS.2.2 q hq) ?_
  exact lw_ret (Drawn.sameBut.refl s.drawn lw_cs) hx hb hr hlocks dL_law_251
theorem has3_0b {n : Nat} {B : jB} (I : Inv n B) {i : Int32} (h : (B 16 1).toInt ≤ 0) : r_X3_has B i = 0 := by
  rcases has3_cases I i with g | ⟨g, h0, h1⟩
  · exact g.1
  · omega
set_option maxRecDepth 100000 in
set_option maxHeartbeats 4000000 in
theorem law_loop (hL : L ≤ 260) (C : jK l room_1 D ca 13 (lX p e s m below meth c b s.drawn) cL_law yL_law ret) (Sx : jSX ts (lX p e s m below meth c b s.drawn)) (S0 : jLX b L xs (lX p e s m below meth c b s.drawn)) (hx : p.tables.exec = Jvm.exec) (hb : c.code = code) (hr : meth.sig.returnType = ret) (hlocks : meth.locks = false) {g : Nat → Nat} : ∀ (k : Nat) (a4 P : Int32) (K : Nat → jB), 0 ≤ a4.toInt → a4.toInt + k = 56 → St (a4.toNatClampNeg + 1) P K → J l room_1 D 13 (lX p e s m below meth c b s.drawn) 600000 7302250 (fW ca g K) [(0, .ref b), (1, .ref (g 0)), (2, .int (0 : Int32)), (3, .int P), (4, .int a4)] [] 19 := by
  intro k
  induction k with
  | zero =>
    intro a4 P K h0 h1 hSt
    refine j_iload C dL_law_19 rfl ?_
    refine j_bipush C dL_law_21 (56 : Int32) (by decide) ?_
    refine j_icmp_ge (tgt := 242) C dL_law_23 (by decide) (fun _ => ?_) (fun h => absurd (by rw [i_le, show (56 : Int32).toInt = 56 from rfl]; omega) h)
    refine j_iload_n C dL_law_242 rfl ?_
    refine j_if_ne (tgt := 250) C dL_law_243 (by decide) (fun h => absurd rfl h) (fun _ => ?_)
    refine j_iconst C dL_law_246 (1 : Int32) (by decide) ?_
    refine j_goto (tgt := 251) C dL_law_247 (by decide) ?_
    exact law_end hx hb hr hlocks
  | succ k ih =>
    intro a4 P K h0 h1 hSt
    have is := ii_succ (x := a4) (by omega)
    have ns := nn_succ h0 (by omega)
    have an : a4.toNatClampNeg ≤ 55 := by rw [i_nat]; omega
    have hI := St_I hSt
    have z0 : (0 : Int32).toInt = 0 := rfl
    refine j_iload C dL_law_19 rfl ?_
    refine j_bipush C dL_law_21 (56 : Int32) (by decide) ?_
    refine j_icmp_ge (tgt := 242) C dL_law_23 (by decide) (fun h => absurd h (by rw [i_le, show (56 : Int32).toInt = 56 from rfl]; omega)) (fun _ => ?_)
    refine j_aload_n C dL_law_26 rfl ?_
    refine j_iload C dL_law_27 rfl ?_
    refine j_callSL C S0 g_L_74 (c_L_cell l D ca b L xs a4 (by omega) h0) ⟨Nat.le_of_ble_eq_true rfl, Nat.le_of_ble_eq_true rfl⟩ ⟨Nat.le_of_ble_eq_true rfl, Nat.le_of_ble_eq_true rfl⟩ rfl rfl (Nat.le_of_ble_eq_true rfl) dL_law_29 (fun v9 w9 hp => hp.1) (fun v9 w9 hp => ?_)
    obtain ⟨-, v, rfl⟩ := hp
    refine j_st (st' := [.int v]) rfl ?_
    refine j_istore C [(5, _), (0, _), (1, _), (2, _), (3, _), (4, _)] dL_law_32 (by decide) rfl ?_
    refine j_aload_n C dL_law_34 rfl ?_
    refine j_iconst C dL_law_35 (5 : Int32) (by decide) ?_
    refine j_callViRW C g_L_8 (c_X7_count l D ca g K (5 : Int32)) 0 fW_0 hcl_X7 ⟨Nat.le_of_ble_eq_true rfl, Nat.le_of_ble_eq_true rfl⟩ ⟨Nat.le_of_ble_eq_true rfl, Nat.le_of_ble_eq_true rfl⟩ rfl rfl (Nat.le_of_ble_eq_true rfl) dL_law_36 ?_
    refine j_sti (y := (K 0 16 1)) (cnt_5 K) ?_
    refine j_istore C [(6, _), (5, _), (0, _), (1, _), (2, _), (3, _), (4, _)] dL_law_39 (by decide) rfl ?_
    refine j_iload C dL_law_41 rfl ?_
    have K59 : ∀ x7 : Int32, x7 = ixi v (K 0 16 1) → J l room_1 D 13 (lX p e s m below meth c b s.drawn) 600000 7302250 (fW ca g K) [(6, .int (K 0 16 1)), (5, .int v), (0, .ref b), (1, .ref (g 0)), (2, .int (0 : Int32)), (3, .int P), (4, .int a4)] [.int x7] 59 := by
      intro x7 h43x
      refine j_istore C [(7, _), (6, _), (5, _), (0, _), (1, _), (2, _), (3, _), (4, _)] dL_law_59 (by decide) rfl ?_
      refine j_iload C dL_law_61 rfl ?_
      have K82 : ∀ x8 : Int32, x8 = (if r_X7_invoice K x7 4 = 1 then (1 : Int32) else 0) → J l room_1 D 13 (lX p e s m below meth c b s.drawn) 600000 7302250 (fW ca g K) [(7, .int x7), (6, .int (K 0 16 1)), (5, .int v), (0, .ref b), (1, .ref (g 0)), (2, .int (0 : Int32)), (3, .int P), (4, .int a4)] [.int x8] 82 := by
        intro x8 h63x
        refine j_istore C [(8, _), (7, _), (6, _), (5, _), (0, _), (1, _), (2, _), (3, _), (4, _)] dL_law_82 (by decide) rfl ?_
        refine j_aload_n C dL_law_84 rfl ?_
        refine j_bipush C dL_law_85 (11 : Int32) (by decide) ?_
        refine j_callViRW C g_L_8 (c_X7_count l D ca g K (11 : Int32)) 0 fW_0 hcl_X7 ⟨Nat.le_of_ble_eq_true rfl, Nat.le_of_ble_eq_true rfl⟩ ⟨Nat.le_of_ble_eq_true rfl, Nat.le_of_ble_eq_true rfl⟩ rfl rfl (Nat.le_of_ble_eq_true rfl) dL_law_87 ?_
        refine j_sti (y := (K 0 16 5)) (cnt_11 K) ?_
        refine j_istore C [(9, _), (8, _), (7, _), (6, _), (5, _), (0, _), (1, _), (2, _), (3, _), (4, _)] dL_law_90 (by decide) rfl ?_
        refine j_aload_n C dL_law_92 rfl ?_
        refine j_iload C dL_law_93 rfl ?_
        refine j_callSX C Sx g_L_78 (c_L_does l D ca ts g K v hSt (by omega)) ⟨Nat.le_of_ble_eq_true rfl, Nat.le_of_ble_eq_true rfl⟩ ⟨Nat.le_of_ble_eq_true rfl, Nat.le_of_ble_eq_true rfl⟩ rfl rfl (Nat.le_of_ble_eq_true rfl) dL_law_95 (fun v9 w9 hp => by obtain ⟨r, K', -, rfl, -⟩ := hp; exact fst_f) (fun v9 w9 hp => ?_)
        obtain ⟨r, K1, rfl, rfl, r5, hS1, h6⟩ := hp
        rw [← h43x] at hS1
        refine j_st (st' := [.int r]) rfl ?_
        refine j_istore C [(10, _), (9, _), (8, _), (7, _), (6, _), (5, _), (0, _), (1, _), (2, _), (3, _), (4, _)] dL_law_98 (by decide) rfl ?_
        refine j_iload_n C dL_law_100 rfl ?_
        refine j_iload C dL_law_101 rfl ?_
        have K119 : ∀ zz : Int32, zz = (if r_X7_invoice K x7 4 = 1 then K1 0 16 5 - K 0 16 5 else 0) → J l room_1 D 13 (lX p e s m below meth c b s.drawn) 600000 7302250 (fW ca g K1) [(10, .int r), (9, .int (K 0 16 5)), (8, .int x8), (7, .int x7), (6, .int (K 0 16 1)), (5, .int v), (0, .ref b), (1, .ref (g 0)), (2, .int (0 : Int32)), (3, .int P), (4, .int a4)] [.int zz, .int P] 119 := by
          intro zz h103x
          refine j_iadd C dL_law_119 ?_
          refine j_topi (fun p3 hp3 => ?_)
          have hS3 : St (a4.toNatClampNeg + 1 + 1) p3 K1 := by rw [hp3, h103x]; exact hS1
          have hI1 := St_I hS3
          refine j_istore_n C [(3, _), (10, _), (9, _), (8, _), (7, _), (6, _), (5, _), (0, _), (1, _), (2, _), (4, _)] dL_law_120 (by decide) rfl ?_
          refine j_iload C dL_law_121 rfl ?_
          refine j_bipush C dL_law_123 (15 : Int32) (by decide) ?_
          refine j_iand C dL_law_125 ?_
          refine j_bipush C dL_law_126 (6 : Int32) (by decide) ?_
          have K157 : J l room_1 D 13 (lX p e s m below meth c b s.drawn) 600000 7302250 (fW ca g K1) [(3, .int p3), (10, .int r), (9, .int (K 0 16 5)), (8, .int x8), (7, .int x7), (6, .int (K 0 16 1)), (5, .int v), (0, .ref b), (1, .ref (g 0)), (2, .int (0 : Int32)), (4, .int a4)] [.int (1 : Int32)] 157 := by
            refine j_istore C [(11, _), (3, _), (10, _), (9, _), (8, _), (7, _), (6, _), (5, _), (0, _), (1, _), (2, _), (4, _)] dL_law_157 (by decide) rfl ?_
            refine j_iload C dL_law_159 rfl ?_
            refine j_bipush C dL_law_161 (-5 : Int32) (by decide) ?_
            refine j_icmp_lt (tgt := 194) C dL_law_163 (by decide) (fun h => absurd h (by rw [i_lt]; exact Int.not_lt.mpr r5)) (fun _ => ?_)
            refine j_iload C dL_law_166 rfl ?_
            refine j_if_eq (tgt := 194) C dL_law_168 (by decide) (fun h => absurd h (by decide)) (fun _ => ?_)
            refine j_aload_n C dL_law_171 rfl ?_
            refine j_iload_n C dL_law_172 rfl ?_
            refine j_callSiRW C g_L_82 (c_L_areSumsSo l D ca g K1 p3 hS3 rfl) ⟨Nat.le_of_ble_eq_true rfl, Nat.le_of_ble_eq_true rfl⟩ ⟨Nat.le_of_ble_eq_true rfl, Nat.le_of_ble_eq_true rfl⟩ rfl rfl (Nat.le_of_ble_eq_true rfl) dL_law_173 ?_
            refine j_if_eq (tgt := 194) C dL_law_176 (by decide) (fun h => absurd h (by decide)) (fun _ => ?_)
            have K236 : ∀ K3, St (a4.toNatClampNeg + 1 + 1) p3 K3 → J l room_1 D 13 (lX p e s m below meth c b s.drawn) 600000 7302250 (fW ca g K3) [(0, .ref b), (1, .ref (g 0)), (2, .int (0 : Int32)), (3, .int p3), (4, .int a4), (5, .int v)] [] 236 := by
              intro K3 hS4
              refine j_iinc C [(4, _), (0, _), (1, _), (2, _), (3, _), (5, _)] (v := (a4 + (1 : Int32))) dL_law_236 rfl (iinc_1 _) (by decide) rfl ?_
              refine j_goto (tgt := 19) C dL_law_239 (by decide) ?_
              refine j_lv [(0, .ref b), (1, .ref (g 0)), (2, .int (0 : Int32)), (3, .int p3), (4, .int (a4 + (1 : Int32)))] rfl ?_
              exact ih _ _ _ (by omega) (by omega) (by rw [ns]; exact hS4)
            have K196 : ∀ K2, St (a4.toNatClampNeg + 1 + 1) p3 K2 → J l room_1 D 13 (lX p e s m below meth c b s.drawn) 600000 7302250 (fW ca g K2) [(0, .ref b), (1, .ref (g 0)), (2, .int (0 : Int32)), (3, .int p3), (4, .int a4), (5, .int v)] [] 196 := by
              intro K2 hS4
              refine j_aload_n C dL_law_196 rfl ?_
              refine j_iconst C dL_law_197 (5 : Int32) (by decide) ?_
              refine j_callViRW C g_L_8 (c_X7_count l D ca g K2 (5 : Int32)) 0 fW_0 hcl_X7 ⟨Nat.le_of_ble_eq_true rfl, Nat.le_of_ble_eq_true rfl⟩ ⟨Nat.le_of_ble_eq_true rfl, Nat.le_of_ble_eq_true rfl⟩ rfl rfl (Nat.le_of_ble_eq_true rfl) dL_law_198 ?_
              refine j_sti (y := (K2 0 16 1)) (cnt_5 K2) ?_
              refine j_istore C [(12, _), (0, _), (1, _), (2, _), (3, _), (4, _), (5, _)] dL_law_201 (by decide) rfl ?_
              refine j_iload C dL_law_203 rfl ?_
              refine j_bipush C dL_law_205 (6 : Int32) (by decide) ?_
              refine j_irem C dL_law_207 (by decide) ?_
              refine j_iconst C dL_law_208 (5 : Int32) (by decide) ?_
              refine j_icmp_ne (tgt := 236) C dL_law_209 (by decide) (fun (h209 : ¬ ((a4 - a4 / (6 : Int32) * (6 : Int32)) = (5 : Int32))) => ?_) (fun (h209 : (a4 - a4 / (6 : Int32) * (6 : Int32)) = (5 : Int32)) => ?_)
              · refine j_lv [(0, .ref b), (1, .ref (g 0)), (2, .int (0 : Int32)), (3, .int p3), (4, .int a4), (5, .int v)] rfl ?_
                exact K236 K2 hS4
              · refine j_iload C dL_law_212 rfl ?_
                refine j_if_le (tgt := 236) C dL_law_214 (by decide) (fun (h214 : (K2 0 16 1) ≤ (0 : Int32)) => ?_) (fun (h214 : ¬ ((K2 0 16 1) ≤ (0 : Int32))) => ?_)
                · refine j_lv [(0, .ref b), (1, .ref (g 0)), (2, .int (0 : Int32)), (3, .int p3), (4, .int a4), (5, .int v)] rfl ?_
                  exact K236 K2 hS4
                · refine j_aload_n C dL_law_217 rfl ?_
                  refine j_iload C dL_law_218 rfl ?_
                  refine j_bipush C dL_law_220 (8 : Int32) (by decide) ?_
                  refine j_ishr C dL_law_222 ?_
                  refine j_iload C dL_law_223 rfl ?_
                  refine j_callSiR C g_L_14 (c_L_low l D ca (v >>> ((8 : Int32) &&& 31)) (K2 0 16 1) ⟨fun q => h214 (by rw [q]; decide), trivial⟩) ⟨Nat.le_of_ble_eq_true rfl, Nat.le_of_ble_eq_true rfl⟩ ⟨Nat.le_of_ble_eq_true rfl, Nat.le_of_ble_eq_true rfl⟩ [] rfl rfl rfl rfl (Nat.le_of_ble_eq_true rfl) dL_law_225 ?_
                  refine j_callSP C g_L_90 (c_L_isWorthlessSo l D ca g K2 (r_L_low (v >>> ((8 : Int32) &&& 31)) (K2 0 16 1)) hS4 (by omega)) ⟨Nat.le_of_ble_eq_true rfl, Nat.le_of_ble_eq_true rfl⟩ ⟨Nat.le_of_ble_eq_true rfl, Nat.le_of_ble_eq_true rfl⟩ rfl rfl (Nat.le_of_ble_eq_true rfl) dL_law_228 (fun v9 w9 hp => by obtain ⟨-, K9, -, -, rfl⟩ := hp; exact fst_f) (fun v9 w9 hp => ?_)
                  obtain ⟨rfl, K3, e3, hH3, rfl⟩ := hp
                  refine j_st (st' := [.int 1]) rfl ?_
                  refine j_if_ne (tgt := 236) C dL_law_231 (by decide) (fun _ => ?_) (fun h => absurd h (by decide))
                  refine j_lv [(0, .ref b), (1, .ref (g 0)), (2, .int (0 : Int32)), (3, .int p3), (4, .int a4), (5, .int v)] rfl ?_
                  exact K236 K3 (St_of hS4 e3 hH3)
            refine j_iload C dL_law_179 rfl ?_
            refine j_iconst C dL_law_181 (4 : Int32) (by decide) ?_
            refine j_irem C dL_law_182 (by decide) ?_
            refine j_iconst C dL_law_183 (3 : Int32) (by decide) ?_
            refine j_icmp_ne (tgt := 196) C dL_law_184 (by decide) (fun (h184 : ¬ ((a4 - a4 / (4 : Int32) * (4 : Int32)) = (3 : Int32))) => ?_) (fun (h184 : (a4 - a4 / (4 : Int32) * (4 : Int32)) = (3 : Int32)) => ?_)
            · refine j_lv [(0, .ref b), (1, .ref (g 0)), (2, .int (0 : Int32)), (3, .int p3), (4, .int a4), (5, .int v)] rfl ?_
              exact K196 K1 hS3
            · refine j_aload_n C dL_law_187 rfl ?_
              refine j_callSP C g_L_86 (c_L_areInvoicesSo l D ca g K1 hS3 (by omega)) ⟨Nat.le_of_ble_eq_true rfl, Nat.le_of_ble_eq_true rfl⟩ ⟨Nat.le_of_ble_eq_true rfl, Nat.le_of_ble_eq_true rfl⟩ rfl rfl (Nat.le_of_ble_eq_true rfl) dL_law_188 (fun v9 w9 hp => by obtain ⟨-, K9, -, rfl⟩ := hp; exact fst_f) (fun v9 w9 hp => ?_)
              obtain ⟨rfl, K2, hs2, rfl⟩ := hp
              refine j_st (st' := [.int 1]) rfl ?_
              refine j_if_ne (tgt := 196) C dL_law_191 (by decide) (fun _ => ?_) (fun h => absurd h (by decide))
              refine j_lv [(0, .ref b), (1, .ref (g 0)), (2, .int (0 : Int32)), (3, .int p3), (4, .int a4), (5, .int v)] rfl ?_
              exact K196 K2 (St_Sm hS3 hs2)
          refine j_icmp_ne (tgt := 152) C dL_law_128 (by decide) (fun (h128 : ¬ ((v &&& (15 : Int32)) = (6 : Int32))) => ?_) (fun (h128 : (v &&& (15 : Int32)) = (6 : Int32)) => ?_)
          · refine j_iconst C dL_law_152 (1 : Int32) (by decide) ?_
            refine j_goto (tgt := 157) C dL_law_153 (by decide) ?_
            exact K157
          · refine j_iload C dL_law_131 rfl ?_
            refine j_if_lt (tgt := 152) C dL_law_133 (by decide) (fun (h133 : r < (0 : Int32)) => ?_) (fun (h133 : ¬ (r < (0 : Int32))) => ?_)
            · refine j_iconst C dL_law_152 (1 : Int32) (by decide) ?_
              refine j_goto (tgt := 157) C dL_law_153 (by decide) ?_
              exact K157
            · refine j_aload_n C dL_law_136 rfl ?_
              refine j_iconst C dL_law_137 (1 : Int32) (by decide) ?_
              refine j_callViRW C g_L_8 (c_X7_count l D ca g K1 (1 : Int32)) 0 fW_0 hcl_X7 ⟨Nat.le_of_ble_eq_true rfl, Nat.le_of_ble_eq_true rfl⟩ ⟨Nat.le_of_ble_eq_true rfl, Nat.le_of_ble_eq_true rfl⟩ rfl rfl (Nat.le_of_ble_eq_true rfl) dL_law_138 ?_
              refine j_sti (y := (K1 0 16 3 + 1000000000)) (cnt_1 K1) ?_
              refine j_ldc C q_492 dL_law_141 ?_
              refine j_isub C dL_law_143 ?_
              refine j_aload_n C dL_law_144 rfl ?_
              refine j_iconst C dL_law_145 (3 : Int32) (by decide) ?_
              refine j_callViRW C g_L_8 (c_X7_count l D ca g K1 (3 : Int32)) 0 fW_0 hcl_X7 ⟨Nat.le_of_ble_eq_true rfl, Nat.le_of_ble_eq_true rfl⟩ ⟨Nat.le_of_ble_eq_true rfl, Nat.le_of_ble_eq_true rfl⟩ rfl rfl (Nat.le_of_ble_eq_true rfl) dL_law_146 ?_
              refine j_sti (y := (r_X0_reserveCents (K1 0))) (cnt_3 K1) ?_
              refine j_icmp_lt (tgt := 156) C dL_law_149 (by decide) (fun h => absurd h (by rw [show K1 0 16 3 + 1000000000 - 1000000000 = K1 0 16 3 by grind]; exact h6 h128 (by rw [i_lt, z0] at h133; exact Int.not_lt.mp h133))) (fun _ => ?_)
              refine j_iconst C dL_law_152 (1 : Int32) (by decide) ?_
              refine j_goto (tgt := 157) C dL_law_153 (by decide) ?_
              exact K157
        refine j_if_eq (tgt := 118) C dL_law_103 (by decide) (fun (h103 : x8 = (0 : Int32)) => ?_) (fun (h103 : ¬ (x8 = (0 : Int32))) => ?_)
        · refine j_iconst C dL_law_118 (0 : Int32) (by decide) ?_
          exact K119 _ (by rw [if_neg (fun q => by rw [h63x, if_pos q] at h103; exact absurd h103 (by decide))])
        · refine j_aload_n C dL_law_106 rfl ?_
          refine j_bipush C dL_law_107 (11 : Int32) (by decide) ?_
          refine j_callViRW C g_L_8 (c_X7_count l D ca g K1 (11 : Int32)) 0 fW_0 hcl_X7 ⟨Nat.le_of_ble_eq_true rfl, Nat.le_of_ble_eq_true rfl⟩ ⟨Nat.le_of_ble_eq_true rfl, Nat.le_of_ble_eq_true rfl⟩ rfl rfl (Nat.le_of_ble_eq_true rfl) dL_law_109 ?_
          refine j_sti (y := (K1 0 16 5)) (cnt_11 K1) ?_
          refine j_iload C dL_law_112 rfl ?_
          refine j_isub C dL_law_114 ?_
          refine j_goto (tgt := 119) C dL_law_115 (by decide) ?_
          exact K119 _ (by rw [if_pos (Classical.byContradiction fun q => h103 (by rw [h63x, if_neg q]))])
      refine j_if_le (tgt := 81) C dL_law_63 (by decide) (fun (h63 : (K 0 16 1) ≤ (0 : Int32)) => ?_) (fun (h63 : ¬ ((K 0 16 1) ≤ (0 : Int32))) => ?_)
      · refine j_iconst C dL_law_81 (0 : Int32) (by decide) ?_
        exact K82 _ (by rw [if_neg (by rw [iv_no (has3_0b hI (by rw [i_le, z0] at h63; exact h63)) 4]; decide)])
      · refine j_aload_n C dL_law_66 rfl ?_
        refine j_iload C dL_law_67 rfl ?_
        refine j_iconst C dL_law_69 (4 : Int32) (by decide) ?_
        refine j_callViRW C g_L_35 (c_X7_invoice l D ca g K x7 (4 : Int32) (n_invoice hI (by omega) _ _)) 0 fW_0 hcl_X7 ⟨Nat.le_of_ble_eq_true rfl, Nat.le_of_ble_eq_true rfl⟩ ⟨Nat.le_of_ble_eq_true rfl, Nat.le_of_ble_eq_true rfl⟩ rfl rfl (Nat.le_of_ble_eq_true rfl) dL_law_70 ?_
        refine j_iconst C dL_law_73 (1 : Int32) (by decide) ?_
        refine j_icmp_ne (tgt := 81) C dL_law_74 (by decide) (fun (h74 : ¬ ((r_X7_invoice K x7 (4 : Int32)) = (1 : Int32))) => ?_) (fun (h74 : (r_X7_invoice K x7 (4 : Int32)) = (1 : Int32)) => ?_)
        · refine j_iconst C dL_law_81 (0 : Int32) (by decide) ?_
          exact K82 _ (by rw [if_neg h74])
        · refine j_iconst C dL_law_77 (1 : Int32) (by decide) ?_
          refine j_goto (tgt := 82) C dL_law_78 (by decide) ?_
          exact K82 _ (by rw [if_pos h74])
    refine j_if_ne (tgt := 50) C dL_law_43 (by decide) (fun (h43 : ¬ ((K 0 16 1) = (0 : Int32))) => ?_) (fun (h43 : (K 0 16 1) = (0 : Int32)) => ?_)
    · refine j_iload C dL_law_50 rfl ?_
      refine j_iconst C dL_law_52 (4 : Int32) (by decide) ?_
      refine j_ishr C dL_law_53 ?_
      refine j_iload C dL_law_54 rfl ?_
      refine j_callSiR C g_L_14 (c_L_low l D ca (v >>> ((4 : Int32) &&& 31)) (K 0 16 1) ⟨h43, trivial⟩) ⟨Nat.le_of_ble_eq_true rfl, Nat.le_of_ble_eq_true rfl⟩ ⟨Nat.le_of_ble_eq_true rfl, Nat.le_of_ble_eq_true rfl⟩ [] rfl rfl rfl rfl (Nat.le_of_ble_eq_true rfl) dL_law_56 ?_
      exact K59 _ (by unfold ixi; rw [if_neg h43])
    · refine j_iconst C dL_law_46 (0 : Int32) (by decide) ?_
      refine j_goto (tgt := 59) C dL_law_47 (by decide) ?_
      exact K59 _ (by unfold ixi; rw [if_pos h43])
end LAW2
theorem St_0 : St 0 0 KI := by
  have e0 : (KI 0 16 0).toInt = 0 := by decide
  have e1 : (KI 0 16 1).toInt = 0 := by decide
  refine ⟨⟨?_, ?_, ?_, ?_, ?_⟩, 0, 0, by decide, by decide, by decide, by decide⟩
  · refine ⟨by decide, by decide, fun k hk => ?_, fun k hk => ?_, fun k hk => ?_, by decide, by decide, by decide⟩
    · omega
    · have e4 : KI 0 4 k = 0 := rfl
      have e5 : KI 0 5 k = 0 := rfl
      rw [e4, e5]
      exact ⟨⟨by decide, by decide⟩, ⟨by decide, by decide⟩⟩
    · omega
  · unfold Acc sm mN
    rw [e0]
    decide
  · intro k hk
    omega
  · unfold Cls ct sm sN
    rw [e1]
    decide
  · refine ⟨fun k hk => ?_, by decide, by decide, by decide⟩
    omega
theorem add_0 : (r_X7_addMember KI 3).1 = 0 := by decide +kernel
