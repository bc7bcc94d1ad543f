theorem jt_1 {w : Cond} (h : w ∈ tables_1_1) : w ∈ lw_tbl := List.mem_append_right _ (List.mem_append_left _ h)
theorem jt_2 {w : Cond} (h : w ∈ tables_1_2) : w ∈ lw_tbl := List.mem_append_right _ (List.mem_append_right _ (List.mem_append_left _ h))
theorem jt_3 {w : Cond} (h : w ∈ tables_1_3) : w ∈ lw_tbl := List.mem_append_right _ (List.mem_append_right _ (List.mem_append_right _ (List.mem_append_left _ h)))
theorem jt_4 {w : Cond} (h : w ∈ tables_1_4) : w ∈ lw_tbl := List.mem_append_right _ (List.mem_append_right _ (List.mem_append_right _ (List.mem_append_right _ h)))
theorem wn_0 : Cond.methodLinkNest RX0 11 yX4_init RX7 ∈ lw_tbl := jt_1 (List.mem_of_getElem? (i := 26) rfl)
theorem wn_1 : Cond.methodLinkNest RX0 20 yX1_init RX7 ∈ lw_tbl := jt_1 (List.mem_of_getElem? (i := 55) rfl)
theorem wn_2 : Cond.methodLinkNest RX0 27 yX3_init RX7 ∈ lw_tbl := jt_1 (List.mem_of_getElem? (i := 74) rfl)
theorem wn_3 : Cond.methodLinkNest RX7 31 yX6_init RX7 ∈ lw_tbl := jt_1 (List.mem_of_getElem? (i := 189) rfl)
theorem wn_4 : Cond.methodLinkNest RX7 38 yX5_init RX7 ∈ lw_tbl := jt_1 (List.mem_of_getElem? (i := 214) rfl)
theorem wn_5 : Cond.methodLinkNest RX4 32 yX7_copyRow RX7 ∈ lw_tbl := jt_2 (List.mem_of_getElem? (i := 50) rfl)
theorem wn_6 : Cond.methodLinkNest RX1 29 yX7_copyRow RX7 ∈ lw_tbl := jt_2 (List.mem_of_getElem? (i := 57) rfl)
theorem wn_7 : Cond.methodLinkNest RX3 44 yX7_copyRow RX7 ∈ lw_tbl := jt_2 (List.mem_of_getElem? (i := 62) rfl)
theorem wn_8 : Cond.methodLinkNest RX0 162 yX7_copyRow RX7 ∈ lw_tbl := jt_2 (List.mem_of_getElem? (i := 63) rfl)
theorem wn_9 : Cond.methodLinkNest RX0 64 yX7_noNumber RX7 ∈ lw_tbl := jt_2 (List.mem_of_getElem? (i := 127) rfl)
theorem wn_10 : Cond.methodLinkNest RX1 25 yX7_noNumber RX7 ∈ lw_tbl := jt_2 (List.mem_of_getElem? (i := 140) rfl)
theorem w_ao : Cond.arrayOver (.object RX0) ∈ lw_tbl := jt_1 (List.mem_of_getElem? (i := 174) rfl)
theorem ws_0 : Cond.laysStatic RX7 (sn 0) "[I" ∈ lw_tbl := jt_2 (List.mem_of_getElem? (i := 22) rfl)
theorem ws_1 : Cond.laysStatic RX7 (sn 1) "[I" ∈ lw_tbl := jt_2 (List.mem_of_getElem? (i := 24) rfl)
theorem ws_2 : Cond.laysStatic RX7 (sn 2) "[I" ∈ lw_tbl := jt_2 (List.mem_of_getElem? (i := 69) rfl)
theorem ws_3 : Cond.laysStatic RX7 (sn 3) "[I" ∈ lw_tbl := jt_2 (List.mem_of_getElem? (i := 71) rfl)
theorem jAll_tbl {w : Cond} (h : w ∈ jAll) : w ∈ lw_tbl := (List.mem_filter.mp h).1
theorem jN_of {args : Array Value} {U : State} (h : ∀ w ∈ lw_tbl, w.before args U = true) : jN U := by
  refine ⟨fun w hw => ?_, va_AO.of (h _ w_ao)⟩
  simp only [jNest, List.mem_cons, List.not_mem_nil, or_false] at hw
  rcases hw with rfl | rfl | rfl | rfl | rfl | rfl | rfl | rfl | rfl | rfl | rfl
  · exact va_Nw.of rfl (h _ wn_0)
  · exact va_Nw.of rfl (h _ wn_1)
  · exact va_Nw.of rfl (h _ wn_2)
  · exact va_Nw.of rfl (h _ wn_3)
  · exact va_Nw.of rfl (h _ wn_4)
  · exact va_Nw.of rfl (h _ wn_5)
  · exact va_Nw.of rfl (h _ wn_6)
  · exact va_Nw.of rfl (h _ wn_7)
  · exact va_Nw.of rfl (h _ wn_8)
  · exact va_Nw.of rfl (h _ wn_9)
  · exact va_Nw.of rfl (h _ wn_10)
theorem ar_int {args : Array Value} {s : State} (h : (Cond.arrayClass .int).before args s = true) : ∃ cA, ArrOfT s cA .int ∧ va_RA s cA .int := by
  obtain ⟨c, k, comp, h1, h2, h3⟩ := Cond.arrayClass_spec h
  exact ⟨c, fun n z => ⟨fun k h => (by cases h), k, h2, comp, h3⟩, h1⟩
theorem ar_float {args : Array Value} {s : State} (h : (Cond.arrayClass .float).before args s = true) : ∃ cA, ArrOfT s cA .float ∧ va_RA s cA .float := by
  obtain ⟨c, k, comp, h1, h2, h3⟩ := Cond.arrayClass_spec h
  exact ⟨c, fun n z => ⟨fun k h => (by cases h), k, h2, comp, h3⟩, h1⟩
theorem ar_char {args : Array Value} {s : State} (h : (Cond.arrayClass .char).before args s = true) : ∃ cA, ArrOfT s cA .char ∧ va_RA s cA .char := by
  obtain ⟨c, k, comp, h1, h2, h3⟩ := Cond.arrayClass_spec h
  exact ⟨c, fun n z => ⟨fun k h => (by cases h), k, h2, comp, h3⟩, h1⟩
theorem ar_obj {args : Array Value} {s : State} {C : String} (h : (Cond.arrayOver (.object C)).before args s = true) : ∃ cA, ArrOfT s cA (.object C) ∧ va_RA s cA (.object C) := by
  obtain ⟨comp, c, k, h1, h2, h3, h4, h5⟩ := Cond.arrayOver_spec h
  exact ⟨c, fun n z => ⟨fun k h => (by cases h), k, h3, comp, h4⟩, k, comp, h3, h4, h1, h5⟩
theorem jX1_of {args : Array Value} {s : State} (hts : ∀ w ∈ lw_tbl, w.before args s = true) (hgv : (Jvm.Cond.and given_1 narrow_1).before args s = true) : ∃ ts : Nat → Nat, jX1 ts (fun q : Nat => s.heap.size ≤ q) s s.heap := by
  have hs := flat_of_before _ hgv
  have hA : ∀ a : Nat, a < s.heap.size → ¬ (fun q : Nat => s.heap.size ≤ q) a := fun a h => Nat.not_le.mpr h
  have ha0 : (Cond.arrayOf (Term.static "GuildFund" "LOWEST_RATE" "[I") .int).before args s = true := hs _ (by decide +kernel)
  have hl0 : (Cond.eq (Term.length (Term.static "GuildFund" "LOWEST_RATE" "[I")) (.int 3)).before args s = true := hs _ (by decide +kernel)
  have he0_0 : (Cond.eq (Term.elem (Term.static "GuildFund" "LOWEST_RATE" "[I") (.int 0)) (.int 1036831949)).before args s = true := hs _ (by decide +kernel)
  have he0_1 : (Cond.eq (Term.elem (Term.static "GuildFund" "LOWEST_RATE" "[I") (.int 1)) (.int 0)).before args s = true := hs _ (by decide +kernel)
  have he0_2 : (Cond.eq (Term.elem (Term.static "GuildFund" "LOWEST_RATE" "[I") (.int 2)) (.int 0)).before args s = true := hs _ (by decide +kernel)
  obtain ⟨t0, ev0, hT0⟩ := va_Tof (N := 3) (f := fun k => .int (sv 0 k)) (A := fun q : Nat => s.heap.size ≤ q) (by decide) ha0 (va_eqt hl0) (fun j hj => by
    match j, hj with
    | 0, _ => exact va_eqt he0_0
    | 1, _ => exact va_eqt he0_1
    | 2, _ => exact va_eqt he0_2) hA
  have hz0 := va_Zof (hts _ ws_0) (hts _ (jAll_tbl q_1)) ev0 hA
  have ha1 : (Cond.arrayOf (Term.static "GuildFund" "HIGHEST_RATE" "[I") .int).before args s = true := hs _ (by decide +kernel)
  have hl1 : (Cond.eq (Term.length (Term.static "GuildFund" "HIGHEST_RATE" "[I")) (.int 3)).before args s = true := hs _ (by decide +kernel)
  have he1_0 : (Cond.eq (Term.elem (Term.static "GuildFund" "HIGHEST_RATE" "[I") (.int 0)) (.int 1065353216)).before args s = true := hs _ (by decide +kernel)
  have he1_1 : (Cond.eq (Term.elem (Term.static "GuildFund" "HIGHEST_RATE" "[I") (.int 1)) (.int 1028443341)).before args s = true := hs _ (by decide +kernel)
  have he1_2 : (Cond.eq (Term.elem (Term.static "GuildFund" "HIGHEST_RATE" "[I") (.int 2)) (.int 1056964608)).before args s = true := hs _ (by decide +kernel)
  obtain ⟨t1, ev1, hT1⟩ := va_Tof (N := 3) (f := fun k => .int (sv 1 k)) (A := fun q : Nat => s.heap.size ≤ q) (by decide) ha1 (va_eqt hl1) (fun j hj => by
    match j, hj with
    | 0, _ => exact va_eqt he1_0
    | 1, _ => exact va_eqt he1_1
    | 2, _ => exact va_eqt he1_2) hA
  have hz1 := va_Zof (hts _ ws_1) (hts _ (jAll_tbl q_1)) ev1 hA
  have ha2 : (Cond.arrayOf (Term.static "GuildFund" "LOWEST_NUMBER" "[I") .int).before args s = true := hs _ (by decide +kernel)
  have hl2 : (Cond.eq (Term.length (Term.static "GuildFund" "LOWEST_NUMBER" "[I")) (.int 3)).before args s = true := hs _ (by decide +kernel)
  have he2_0 : (Cond.eq (Term.elem (Term.static "GuildFund" "LOWEST_NUMBER" "[I") (.int 0)) (.int 0)).before args s = true := hs _ (by decide +kernel)
  have he2_1 : (Cond.eq (Term.elem (Term.static "GuildFund" "LOWEST_NUMBER" "[I") (.int 1)) (.int 0)).before args s = true := hs _ (by decide +kernel)
  have he2_2 : (Cond.eq (Term.elem (Term.static "GuildFund" "LOWEST_NUMBER" "[I") (.int 2)) (.int 1)).before args s = true := hs _ (by decide +kernel)
  obtain ⟨t2, ev2, hT2⟩ := va_Tof (N := 3) (f := fun k => .int (sv 2 k)) (A := fun q : Nat => s.heap.size ≤ q) (by decide) ha2 (va_eqt hl2) (fun j hj => by
    match j, hj with
    | 0, _ => exact va_eqt he2_0
    | 1, _ => exact va_eqt he2_1
    | 2, _ => exact va_eqt he2_2) hA
  have hz2 := va_Zof (hts _ ws_2) (hts _ (jAll_tbl q_1)) ev2 hA
  have ha3 : (Cond.arrayOf (Term.static "GuildFund" "HIGHEST_NUMBER" "[I") .int).before args s = true := hs _ (by decide +kernel)
  have hl3 : (Cond.eq (Term.length (Term.static "GuildFund" "HIGHEST_NUMBER" "[I")) (.int 3)).before args s = true := hs _ (by decide +kernel)
  have he3_0 : (Cond.eq (Term.elem (Term.static "GuildFund" "HIGHEST_NUMBER" "[I") (.int 0)) (.int 90)).before args s = true := hs _ (by decide +kernel)
  have he3_1 : (Cond.eq (Term.elem (Term.static "GuildFund" "HIGHEST_NUMBER" "[I") (.int 1)) (.int 90)).before args s = true := hs _ (by decide +kernel)
  have he3_2 : (Cond.eq (Term.elem (Term.static "GuildFund" "HIGHEST_NUMBER" "[I") (.int 2)) (.int 365)).before args s = true := hs _ (by decide +kernel)
  obtain ⟨t3, ev3, hT3⟩ := va_Tof (N := 3) (f := fun k => .int (sv 3 k)) (A := fun q : Nat => s.heap.size ≤ q) (by decide) ha3 (va_eqt hl3) (fun j hj => by
    match j, hj with
    | 0, _ => exact va_eqt he3_0
    | 1, _ => exact va_eqt he3_1
    | 2, _ => exact va_eqt he3_2) hA
  have hz3 := va_Zof (hts _ ws_3) (hts _ (jAll_tbl q_1)) ev3 hA
  refine ⟨fun j => match j with
    | 0 => t0
    | 1 => t1
    | 2 => t2
    | _ => t3, fun j hj => ?_⟩
  match j, hj with
  | 0, _ => exact ⟨hz0, hT0⟩
  | 1, _ => exact ⟨hz1, hT1⟩
  | 2, _ => exact ⟨hz2, hT2⟩
  | 3, _ => exact ⟨hz3, hT3⟩
theorem vK_of {args : Array Value} {s : State} (hts : ∀ w ∈ lw_tbl, w.before args s = true) : ∃ (D : va_G) (ca : Nat → ClassId), va_K D vwCl (jT ca) s := by
  have htj : ∀ w ∈ jAll, w.before args s = true := fun w h => hts w (jAll_tbl h)
  obtain ⟨c0, i0, k0⟩ := u_known (C := RX0) (T := TX0) (N := 11) (n := 11) htj lay_X0 (htj _ q_19)
  obtain ⟨c1, i1, k1⟩ := u_known (C := RX1) (T := TX1) (N := 3) (n := 3) htj lay_X1 (htj _ q_54)
  obtain ⟨c2, i2, k2⟩ := u_known (C := RX2) (T := TX2) (N := 3) (n := 3) htj lay_X2 (htj _ q_168)
  obtain ⟨c3, i3, k3⟩ := u_known (C := RX3) (T := TX3) (N := 8) (n := 8) htj lay_X3 (htj _ q_73)
  obtain ⟨c4, i4, k4⟩ := u_known (C := RX4) (T := TX4) (N := 5) (n := 5) htj lay_X4 (htj _ q_25)
  obtain ⟨c5, i5, k5⟩ := u_known (C := RX5) (T := TX5) (N := 3) (n := 3) htj lay_X5 (htj _ q_213)
  obtain ⟨c6, i6, k6⟩ := u_known (C := RX6) (T := TX6) (N := 5) (n := 5) htj lay_X6 (htj _ q_188)
  obtain ⟨c7, i7, k7⟩ := u_known (C := RX7) (T := TX7) (N := 9) (n := 9) htj lay_X7 (htj _ q_11)
  obtain ⟨c8, i8, k8⟩ := u_known (C := RX8) (T := TX8) (N := 15) (n := 15) htj lay_X8 (htj _ q_617)
  obtain ⟨a0, x0, y0⟩ := ar_int (htj _ q_52)
  obtain ⟨a1, x1, y1⟩ := ar_float (htj _ q_166)
  obtain ⟨a2, x2, y2⟩ := ar_char (htj _ q_211)
  obtain ⟨a3, x3, y3⟩ := ar_obj (hts _ w_ao)
  refine ⟨(fun k => match k with
    | 0 => c0
    | 1 => c1
    | 2 => c2
    | 3 => c3
    | 4 => c4
    | 5 => c5
    | 6 => c6
    | 7 => c7
    | _ => c8, fun k => match k with
    | 0 => i0
    | 1 => i1
    | 2 => i2
    | 3 => i3
    | 4 => i4
    | 5 => i5
    | 6 => i6
    | 7 => i7
    | _ => i8), fun k => match k with
    | 0 => a0
    | 1 => a1
    | 2 => a2
    | _ => a3, fun k q hq => ?_, fun k q hq => ?_⟩
  · match k, hq with
    | 0, hq => cases hq; exact k0
    | 1, hq => cases hq; exact k1
    | 2, hq => cases hq; exact k2
    | 3, hq => cases hq; exact k3
    | 4, hq => cases hq; exact k4
    | 5, hq => cases hq; exact k5
    | 6, hq => cases hq; exact k6
    | 7, hq => cases hq; exact k7
    | 8, hq => cases hq; exact k8
    | k + 9, hq => simp [vwCl] at hq
  · match k, hq with
    | 0, hq => cases hq; exact ⟨x0, y0⟩
    | 1, hq => cases hq; exact ⟨x1, y1⟩
    | 2, hq => cases hq; exact ⟨x2, y2⟩
    | 3, hq => cases hq; exact ⟨x3, y3⟩
    | k + 4, hq => simp at hq
section LAW2
variable {l : Launch} {D : va_G} {ca : Nat → ClassId} {p : Program} {e : Env} {s : State} {m : MethodId} {below : List Frame} {meth : Method} {c : Code} {b L : Nat} {xs : Nat → Int32} {ts : Nat → Nat}
theorem law_end (hx : p.tables.exec = Jvm.exec) (hb : c.code = code) (hr : meth.sig.returnType = ret) (hlocks : meth.locks = false) {d0 : Drawn} (hd0 : s.drawn.sameBut d0 lw_cs) {ws : va_W} {lv : jLv} : J l room_1 D 8 (lX p e s m below meth c b d0) 600000 7302250 ws lv [.int 1] 1070 := by
  intro H locs ls hP hD hS hl
  refine va_forget (fun q hq => hS.2.2 q hq) ?_
  exact lw_ret hd0 hx hb hr hlocks dL_law_1070
theorem law_loop (hL : L ≤ 2560) (CX : LCx l D ca p e s m below meth c b L xs ts) (hx : p.tables.exec = Jvm.exec) (hb : c.code = code) (hr : meth.sig.returnType = ret) (hlocks : meth.locks = false) {g hh : Nat → Nat} : ∀ (c0 n : Nat) (i : Int32) (K : Nat → jB) (M : jB) (d0 : Drawn), Rel n K M → i.toInt = 5 * (n : Int) → L < 5 * (n + c0) → 5 * n ≤ L + 5 → s.drawn.sameBut d0 lw_cs → J l room_1 D 8 (lX p e s m below meth c b d0) 600000 7302250 (fW ca g K ++ mW ca hh M) [(3, .int i), (2, .ref (hh 0)), (1, .ref (g 0)), (0, .ref b)] [] 18
  | c0, n, i, K, M, d0, h, hi, h1, h2, hd0 => by
    obtain ⟨C, Sx, S0⟩ := CX d0
    have z5 : (5 : Int32).toInt = 5 := rfl
    have zL : (Int32.ofNat L).toInt = L := an_toInt (by omega)
    have zs : (Int32.ofNat L - 5).toInt = (L : Int) - 5 := by rw [i_sub] <;> rw [zL, z5] <;> omega
    refine j_iload_n C dL_law_18 rfl ?_
    refine j_aload_n C dL_law_19 rfl ?_
    refine j_slen C S0 dL_law_20 ?_
    refine j_iconst C dL_law_21 5 rfl ?_
    refine j_isub C dL_law_22 ?_
    refine j_icmp_gt (tgt := 1069) C dL_law_23 rfl (fun _ => ?_) (fun hle => ?_)
    · refine j_iconst C dL_law_1069 1 rfl ?_
      exact law_end hx hb hr hlocks hd0
    rw [i_lt, zs, hi] at hle
    match c0, h1 with
    | 0, h1 => exact absurd h1 (by omega)
    | c0 + 1, h1 =>
      have b0 : i.toInt + 5 ≤ L := by omega
      have e1 : (i + 1).toInt = i.toInt + 1 := by rw [i_add] <;> rw [show (1 : Int32).toInt = 1 from rfl] <;> omega
      have e2 : (i + 2).toInt = i.toInt + 2 := by rw [i_add] <;> rw [show (2 : Int32).toInt = 2 from rfl] <;> omega
      have e3 : (i + 3).toInt = i.toInt + 3 := by rw [i_add] <;> rw [show (3 : Int32).toInt = 3 from rfl] <;> omega
      have e4 : (i + 4).toInt = i.toInt + 4 := by rw [i_add] <;> rw [show (4 : Int32).toInt = 4 from rfl] <;> omega
      have e5 : (i + 5).toInt = i.toInt + 5 := by rw [i_add] <;> rw [z5] <;> omega
      have v0 : vp_in i L := vpi_of (by omega) (by omega)
      have v1 : vp_in (i + 1) L := vpi_of (by omega) (by omega)
      have v2 : vp_in (i + 2) L := vpi_of (by omega) (by omega)
      have v3 : vp_in (i + 3) L := vpi_of (by omega) (by omega)
      have v4 : vp_in (i + 4) L := vpi_of (by omega) (by omega)
      have hn : n ≤ 800 := by omega
      have nx : ∀ (K' : Nat → jB) (M' : jB) (d1 : Drawn), Rel (n + 1) K' M' → s.drawn.sameBut d1 lw_cs → J l room_1 D 8 (lX p e s m below meth c b d1) 600000 7302250 (fW ca g K' ++ mW ca hh M') [(3, .int i), (2, .ref (hh 0)), (1, .ref (g 0)), (0, .ref b)] [] 1063 := by
        intro K' M' d1 h' hd1
        obtain ⟨C1, Sx1, S1⟩ := CX d1
        refine j_iinc (v := i + 5) C1 [(3, .int (i + 5)), (2, .ref (hh 0)), (1, .ref (g 0)), (0, .ref b)] dL_law_1063 rfl rfl (by decide) rfl ?_
        refine j_goto (tgt := 18) C1 dL_law_1066 rfl ?_
        exact law_loop hL CX hx hb hr hlocks c0 (n + 1) (i + 5) K' M' d1 h' (by rw [e5, hi]; omega) (by omega) (by omega) hd1
      refine j_aload_n C dL_law_26 rfl ?_
      refine j_iload_n C dL_law_27 rfl ?_
      refine j_sld C S0 dL_law_28 v0 ?_
      refine j_bipush C dL_law_29 31 rfl ?_
      refine j_iand C dL_law_31 ?_
      generalize xs i.toNatClampNeg &&& 31 = v
      by_cases x0 : v = 0
      · exact j_tabEq C x0 dL_law_32 (by decide) (by decide) rfl rfl (law_0 CX h hn hd0 v1 v2 v3 v4 nx)
      by_cases x1 : v = 1
      · exact j_tabEq C x1 dL_law_32 (by decide) (by decide) rfl rfl (law_1 CX h hn hd0 v1 v2 v3 v4 nx)
      by_cases x2 : v = 2
      · exact j_tabEq C x2 dL_law_32 (by decide) (by decide) rfl rfl (law_2 CX h hn hd0 v1 v2 v3 v4 nx)
      by_cases x3 : v = 3
      · exact j_tabEq C x3 dL_law_32 (by decide) (by decide) rfl rfl (law_3 CX h hn hd0 v1 v2 v3 v4 nx)
      by_cases x4 : v = 4
      · exact j_tabEq C x4 dL_law_32 (by decide) (by decide) rfl rfl (law_4 CX h hn hd0 v1 v2 v3 v4 nx)
      by_cases x5 : v = 5
      · exact j_tabEq C x5 dL_law_32 (by decide) (by decide) rfl rfl (law_5 CX h hn hd0 v1 v2 v3 v4 nx)
      by_cases x6 : v = 6
      · exact j_tabEq C x6 dL_law_32 (by decide) (by decide) rfl rfl (law_6 CX h hn hd0 v1 v2 v3 v4 nx)
      by_cases x7 : v = 7
      · exact j_tabEq C x7 dL_law_32 (by decide) (by decide) rfl rfl (law_7 CX h hn hd0 v1 v2 v3 v4 nx)
      by_cases x8 : v = 8
      · exact j_tabEq C x8 dL_law_32 (by decide) (by decide) rfl rfl (law_8 CX h hn hd0 v1 v2 v3 v4 nx)
      by_cases x9 : v = 9
      · exact j_tabEq C x9 dL_law_32 (by decide) (by decide) rfl rfl (law_9 CX h hn hd0 v1 v2 v3 v4 nx)
      by_cases x10 : v = 10
      · exact j_tabEq C x10 dL_law_32 (by decide) (by decide) rfl rfl (law_10 CX h hn hd0 v1 v2 v3 v4 nx)
      by_cases x11 : v = 11
      · exact j_tabEq C x11 dL_law_32 (by decide) (by decide) rfl rfl (law_11 CX h hn hd0 v1 v2 v3 v4 nx)
      by_cases x12 : v = 12
      · exact j_tabEq C x12 dL_law_32 (by decide) (by decide) rfl rfl (law_12 CX h hn hd0 v1 v2 v3 v4 nx)
      by_cases x13 : v = 13
      · exact j_tabEq C x13 dL_law_32 (by decide) (by decide) rfl rfl (law_13 CX h hn hd0 v1 v2 v3 v4 nx)
      by_cases x14 : v = 14
      · exact j_tabEq C x14 dL_law_32 (by decide) (by decide) rfl rfl (law_14 CX h hn hd0 v1 v2 v3 v4 nx)
      by_cases x15 : v = 15
      · exact j_tabEq C x15 dL_law_32 (by decide) (by decide) rfl rfl (law_15 CX h hn hd0 v1 v2 v3 v4 nx)
      by_cases x16 : v = 16
      · exact j_tabEq C x16 dL_law_32 (by decide) (by decide) rfl rfl (law_16 CX h hn hd0 v1 v2 v3 v4 nx)
      by_cases x17 : v = 17
      · exact j_tabEq C x17 dL_law_32 (by decide) (by decide) rfl rfl (law_17 CX h hn hd0 v1 v2 v3 v4 nx)
      by_cases x18 : v = 18
      · exact j_tabEq C x18 dL_law_32 (by decide) (by decide) rfl rfl (law_18 CX h hn hd0 v1 v2 v3 v4 nx)
      by_cases x19 : v = 19
      · exact j_tabEq C x19 dL_law_32 (by decide) (by decide) rfl rfl (law_19 CX h hn hd0 v1 v2 v3 v4 nx)
      by_cases x20 : v = 20
      · exact j_tabEq C x20 dL_law_32 (by decide) (by decide) rfl rfl (law_20 CX h hn hd0 v1 v2 v3 v4 nx)
      by_cases x21 : v = 21
      · exact j_tabEq C x21 dL_law_32 (by decide) (by decide) rfl rfl (law_21 CX h hn hd0 v1 v2 v3 v4 nx)
      by_cases x22 : v = 22
      · exact j_tabEq C x22 dL_law_32 (by decide) (by decide) rfl rfl (law_22 CX h hn hd0 v1 v2 v3 v4 nx)
      by_cases x23 : v = 23
      · exact j_tabEq C x23 dL_law_32 (by decide) (by decide) rfl rfl (law_23 CX h hn hd0 v1 v2 v3 v4 nx)
      by_cases x24 : v = 24
      · exact j_tabEq C x24 dL_law_32 (by decide) (by decide) rfl rfl (law_24 CX h hn hd0 v1 v2 v3 v4 nx)
      by_cases x25 : v = 25
      · exact j_tabEq C x25 dL_law_32 (by decide) (by decide) rfl rfl (law_25 CX h hn hd0 v1 v2 v3 v4 nx)
      by_cases x26 : v = 26
      · exact j_tabEq C x26 dL_law_32 (by decide) (by decide) rfl rfl (law_26 CX h hn hd0 v1 v2 v3 v4 nx)
      by_cases x27 : v = 27
      · exact j_tabEq C x27 dL_law_32 (by decide) (by decide) rfl rfl (law_27 CX h hn hd0 v1 v2 v3 v4 nx)
      by_cases x28 : v = 28
      · exact j_tabEq C x28 dL_law_32 (by decide) (by decide) rfl rfl (law_28 CX h hn hd0 v1 v2 v3 v4 nx)
      refine j_tabOut (tgt := 1063) C dL_law_32 ?_ rfl (nx K M d0 (Rel_mono h (Nat.le_succ n)) hd0)
      have w0 : v.toInt ≠ 0 := fun q => x0 (by rw [i_eq, q]; rfl)
      have w1 : v.toInt ≠ 1 := fun q => x1 (by rw [i_eq, q]; rfl)
      have w2 : v.toInt ≠ 2 := fun q => x2 (by rw [i_eq, q]; rfl)
      have w3 : v.toInt ≠ 3 := fun q => x3 (by rw [i_eq, q]; rfl)
      have w4 : v.toInt ≠ 4 := fun q => x4 (by rw [i_eq, q]; rfl)
      have w5 : v.toInt ≠ 5 := fun q => x5 (by rw [i_eq, q]; rfl)
      have w6 : v.toInt ≠ 6 := fun q => x6 (by rw [i_eq, q]; rfl)
      have w7 : v.toInt ≠ 7 := fun q => x7 (by rw [i_eq, q]; rfl)
      have w8 : v.toInt ≠ 8 := fun q => x8 (by rw [i_eq, q]; rfl)
      have w9 : v.toInt ≠ 9 := fun q => x9 (by rw [i_eq, q]; rfl)
      have w10 : v.toInt ≠ 10 := fun q => x10 (by rw [i_eq, q]; rfl)
      have w11 : v.toInt ≠ 11 := fun q => x11 (by rw [i_eq, q]; rfl)
      have w12 : v.toInt ≠ 12 := fun q => x12 (by rw [i_eq, q]; rfl)
      have w13 : v.toInt ≠ 13 := fun q => x13 (by rw [i_eq, q]; rfl)
      have w14 : v.toInt ≠ 14 := fun q => x14 (by rw [i_eq, q]; rfl)
      have w15 : v.toInt ≠ 15 := fun q => x15 (by rw [i_eq, q]; rfl)
      have w16 : v.toInt ≠ 16 := fun q => x16 (by rw [i_eq, q]; rfl)
      have w17 : v.toInt ≠ 17 := fun q => x17 (by rw [i_eq, q]; rfl)
      have w18 : v.toInt ≠ 18 := fun q => x18 (by rw [i_eq, q]; rfl)
      have w19 : v.toInt ≠ 19 := fun q => x19 (by rw [i_eq, q]; rfl)
      have w20 : v.toInt ≠ 20 := fun q => x20 (by rw [i_eq, q]; rfl)
      have w21 : v.toInt ≠ 21 := fun q => x21 (by rw [i_eq, q]; rfl)
      have w22 : v.toInt ≠ 22 := fun q => x22 (by rw [i_eq, q]; rfl)
      have w23 : v.toInt ≠ 23 := fun q => x23 (by rw [i_eq, q]; rfl)
      have w24 : v.toInt ≠ 24 := fun q => x24 (by rw [i_eq, q]; rfl)
      have w25 : v.toInt ≠ 25 := fun q => x25 (by rw [i_eq, q]; rfl)
      have w26 : v.toInt ≠ 26 := fun q => x26 (by rw [i_eq, q]; rfl)
      have w27 : v.toInt ≠ 27 := fun q => x27 (by rw [i_eq, q]; rfl)
      have w28 : v.toInt ≠ 28 := fun q => x28 (by rw [i_eq, q]; rfl)
      omega
end LAW2
/-- from the entry, for every script, the law comes to its end with true -/
theorem whole_start {p : Program} {e : Env} {s : State} {m : MethodId} {below : List Frame} {meth : Method} {c : Code} (l : Launch) (hflags : l.flags = flags0) {b L : Nat} {xs : Nat → Int32} (hL : L ≤ 2560) (C0 : lw_At p s m meth c b L xs) : W p l e room_1 s m #[Value.ref b] below meth c s.heap [] 0 0 (lw_Z below #[Value.ref b] s) (entryFrame m ([Value.ref b] : List Value).toArray 8) := by
  obtain ⟨hx, hb, hr, hml, hown, hts, hX, hbl, hlocks, hgv⟩ := id C0
  have hbA : ¬ (fun q : Nat => s.heap.size ≤ q) b := Nat.not_le.mpr hbl
  have hd0 := Drawn.sameBut.refl s.drawn lw_cs
  obtain ⟨D, ca, hK⟩ := vK_of hts
  obtain ⟨ts, hT⟩ := jX1_of hts hgv
  have CX : LCx l D ca p e s m below meth c b L xs ts := by
    intro d
    have hw := dr_words hts d
    refine ⟨⟨hx, hb, hml, hown, fun w h => hw w (jAll_tbl h), va_K.moved (u := s) (U := s.setDrawn d) (Vm.Alike.refl s.vm) hK, hlocks, fun _ h => h, hr, fun h => absurd h (by decide), jN_of hw⟩, ⟨rfl, jX1_to (u := s) (U := s.setDrawn d) (Vm.Alike.refl s.vm) (fun _ _ _ => rfl) (fun _ z => z) hT⟩, hX, hbl, hbA⟩
  refine W.base ?_
  have hl := lv_entry ([.ref b]) (n := 8) (Nat.le_of_ble_eq_true rfl)
  rw [lg_entry_eq]
  generalize (lg_sl ([.ref b]) ++ List.replicate (8 - (lg_sl ([.ref b])).length) Slot.unset).toArray = ls at hl ⊢
  have hl : lv_has ls 8 [(0, .ref b)] := hl
  have hP : va_P D vwCl [] s.heap := fun k q h => by simp at h
  have hD : va_D (fun q : Nat => s.heap.size ≤ q) [] := ⟨fun i j p q h => by simp at h, fun k q h => by simp at h⟩
  suffices J0 : J l room_1 D 8 (lX p e s m below meth c b s.drawn) 0 0 [] [(0, .ref b)] [] 0 from J0 s.heap [] ls hP hD va_S.rf hl
  obtain ⟨C, Sx, S0⟩ := CX s.drawn
  refine j_new (ci := 7) C [.null, .null, .null, .null, .null, .null, .int 0, .int 0, .int 0] tyX7 tyX7_ok lay_X7 q_10 q_11 q_1 rfl dv_X7 (Nat.le_of_ble_eq_true rfl) (Nat.le_of_ble_eq_true rfl) dL_law_0 (fun q1 => ?_)
  refine j_dup C dL_law_3 rfl ?_
  refine j_callI (As := []) C g_L_9 (c_X7_init l D ca q1) ⟨Nat.le_of_ble_eq_true rfl, Nat.le_of_ble_eq_true rfl⟩ ⟨Nat.le_of_ble_eq_true rfl, Nat.le_of_ble_eq_true rfl⟩ rfl (Nat.le_of_ble_eq_true rfl) dL_law_4 (fun v w1 hp => ?_)
  obtain ⟨rfl, g, rfl, rfl⟩ := hp
  refine j_astore_n C [(1, .ref (g 0)), (0, .ref b)] dL_law_7 (by decide) rfl ?_
  refine j_new (ci := 8) C [.null, .null, .null, .int 0, .null, .int 0, .null, .int 0, .int 0, .int 0, .null, .int 0, .int 0, .int 0, .int 0] tyX8 tyX8_ok lay_X8 q_616 q_617 q_9 rfl dv_X8 (Nat.le_of_ble_eq_true rfl) (Nat.le_of_ble_eq_true rfl) dL_law_8 (fun q2 => ?_)
  refine j_dup C dL_law_11 rfl ?_
  refine j_callI (As := []) C g_L_12 (c_X8_init l D ca q2) ⟨Nat.le_of_ble_eq_true rfl, Nat.le_of_ble_eq_true rfl⟩ ⟨Nat.le_of_ble_eq_true rfl, Nat.le_of_ble_eq_true rfl⟩ rfl (Nat.le_of_ble_eq_true rfl) dL_law_12 (fun v w1 hp => ?_)
  obtain ⟨rfl, hh, rfl, rfl⟩ := hp
  refine j_astore_n C [(2, .ref (hh 0)), (1, .ref (g 0)), (0, .ref b)] dL_law_15 (by decide) rfl ?_
  refine j_iconst C dL_law_16 0 rfl ?_
  refine j_istore_n C [(3, .int 0), (2, .ref (hh 0)), (1, .ref (g 0)), (0, .ref b)] dL_law_17 (by decide) rfl ?_
  refine j_widen (k' := 600000) (n' := 7302250) (Nat.le_of_ble_eq_true rfl) (Nat.le_of_ble_eq_true rfl) ?_
  exact law_loop hL CX hx hb hr hlocks (L + 1) 0 0 KI mI s.drawn Rel_0 rfl (by omega) (by omega) hd0
set_option maxHeartbeats 4000000 in
theorem lw_walk (l : Launch) (hflags : l.flags = flags0) (b : Addr) (xs : List Int32) : MetFree l x (headSpec (Jvm.Cond.code x code maxLocals ret :: tables_1) room_1) (lw_P b xs) (fun _ _ _ _ _ => True) lw_Q := by
  refine MetFree.of_bodyS (code := code) (maxLocals := maxLocals) (ret := ret) (by decide) ?_ ?_
  · intro args s m h hn
    obtain ⟨meth, c, h1, h2, h3, h4, h5, h6, -, -⟩ := Cond.code_spec hn (atoms_spec (ws := Jvm.Cond.code x code maxLocals ret :: tables_1) h _ List.mem_cons_self)
    exact ⟨meth, c, h1, h2, h3, h4, h5, h6⟩
  · intro p e s m args below meth c s₁ B hml0 hP _
    obtain ⟨rfl, hx, hbd, hgv⟩ := hP
    obtain ⟨scr, harrAt, hlist, hof, hsmall⟩ := hx
    obtain ⟨hcb, hkn, -, -⟩ := State.arrayAt?_spec harrAt
    have hown : s.vm.findClass R_law = some m.cls := findClass_of_methodNamed B.named
    have hts0 : ∀ c ∈ (Jvm.Cond.code x code maxLocals ret :: tables_1), c.before #[Value.ref b] s = true := atoms_spec (ws := Jvm.Cond.code x code maxLocals ret :: tables_1) B.pre
    have hts : ∀ w ∈ lw_tbl, w.before #[Value.ref b] s = true := k2_hts_sels lw_privs (fun w hw => hts0 w (List.mem_cons_of_mem _ hw)) lw_privs_ok
    have hml : c.maxLocals = 8 := B.maxLocals_eq (hts0 _ List.mem_cons_self)
    have X₀ : Stand p l e room_1 s m #[Value.ref b] below meth c s₁ [] 0 0 := Stand.of_body B
    have hh0 : s₁.heap = s.heap := by rw [B.state]; rfl
    have hsz : scr.slots.size = xs.length := by rw [← Array.length_toList, hlist, List.length_map]
    have hval : ∀ j : Nat, j < xs.length → scr.slots[j]? = some (.int (xs.getD j 0)) := fun j hj => by
      rw [← Array.getElem?_toList, hlist]
      simp [hj]
    have hbl : b < s.heap.size := (Array.getElem?_eq_some_iff.mp hcb).1
    have hX : va_X b xs.length (fun j => xs.getD j 0) s s.heap := ⟨scr, hcb, hof, hkn, hsz, hval⟩
    have K : W p l e room_1 s m #[Value.ref b] below meth c s₁.heap [] 0 0 (lw_Z below #[Value.ref b] s) (entryFrame m ([Value.ref b] : List Value).toArray 8) := by
      rw [hh0]
      exact whole_start l hflags hbd ⟨B.exec, B.bytes, B.returns, hml, hown, hts, hX, hbl, B.notSynchronized, hgv⟩
    obtain ⟨t, a1, o, b1, b2, b3⟩ := K s₁ rfl X₀
    exact ⟨t, o, a1, b1, b2, b3⟩
theorem lw_pre_spec {args : Array Value} {s : State} (h : (Jvm.Cond.and given_1 narrow_1).before args s = true) (hr : rest_1_c.before args s = true) : ∃ (b : Addr) (xs : List Int32), lw_P b xs args s := by
  have hs := flat_of_before _ h
  have hq := flat_of_before _ hr
  have hc : (Cond.count 1).before args s = true := hs _ (by decide +kernel)
  have harr : (Cond.arrayOf (.arg 0) .int).before args s = true := hs _ (by decide +kernel)
  have hle : (Cond.le (.length (.arg 0)) (.int 2560)).before args s = true := hs _ (by decide +kernel)
  have hlen : (Cond.isInt (.length (.arg 0))).before args s = true := hq _ (by decide +kernel)
  have hall : (Cond.all (.arg 0) (.isInt (.elem (.arg 0) (.index 0)))).before args s = true := hq _ (by decide +kernel)
  obtain ⟨b, xs, hb, hx⟩ := State.ints_of_pre rfl harr hlen hall
  have hsm : xs.length < 2 ^ 31 := hx.choose_spec.2.2.2
  have hev : (Term.length (.arg 0)).eval args s none [] s = some (.int xs.length.toInt32) := hx.length_eval hb
  have hv := Cond.le_ints hev (show (Term.int 2560).eval args s none [] s = some (.int 2560) from rfl)
  have hd : xs.length.toInt32 ≤ 2560 := by
    simpa [Cond.before, Cond.holds, hv] using hle
  have hN : xs.length ≤ 2560 := (Int32.ofNat_le_ofNat hsm (by decide)).mp (show Int32.ofNat xs.length ≤ Int32.ofNat 2560 from hd)
  exact ⟨b, xs, Cond.one_arg hc (show args[0]? = some (.ref b) from hb), hx, hN, h⟩
theorem lw_comes (l : Launch) (hflags : l.flags = flags0) : Comes l x (Jvm.Cond.code x code maxLocals ret :: tables_1) room_1 (fun tb e args s => Calls_1 tb e args s ∧ rest_1 tb e args s ∧ Pre_1 tb e args s)
    (fun _ _ args s o t => lw_Q args s o t) := by
  intro p e ha hc hk s m args below hf hfit hheap happ hpre
  obtain ⟨b, xs, hP⟩ := lw_pre_spec hpre.2.2 hpre.2.1
  obtain ⟨k, o, h1, h2, h3, hQ⟩ := lw_walk l hflags b xs p e ha hc hk s m args below hf ((Spec.applies_iff_loose hf).mp happ).1 hP trivial
  exact ⟨k, o, h1, h2, h3, hQ⟩
theorem lw_frame {s t : State} {o : Outcome} {args : Array Value} (h : State.butDraws s t lw_cs (fun t1 => Framed s o t1 [] 600000 7302250)) :
    State.butDraws s t [Jvm.Choice.named "NaN.bits"] (fun t1 => Framed s o t1 (fieldLocs frame_1_writes args s ++ arrayLocs frame_1_arrays args s ++ staticLocs frame_1_statics s) 600000 7302250) := h
theorem lw_limb (L : Cond) (hL : ∀ (args : Array Value) (s t : State), L.after args s (.returned (some (.int 1))) t = true) :
    ArmFor flags0 classFile x code maxLocals ret World_1 tables_1 room_1 Calls_1 rest_1 Pre_1
      (fun tb e a s o t => postC L tb e a s o t ∧ State.butDraws s t [Jvm.Choice.named "NaN.bits"] (fun t1 => Framed s o t1 (fieldLocs frame_1_writes a s ++ arrayLocs frame_1_arrays a s ++ staticLocs frame_1_statics s) 600000 7302250)) := by
  intro l hflags _ _ p e ha hc hk s m args below hf hfit hheap happ hpre
  obtain ⟨k, o, h1, h2, h3, rfl, hF⟩ := lw_comes l hflags p e ha hc hk s m args below hf hfit hheap happ hpre
  exact ⟨k, _, h1, h2, h3, hL args s _, lw_frame hF⟩
theorem i_vc : Claimed_1_1 ∧ Claimed_1_2 := ⟨lw_limb limb_1_1 (fun args s t => by simp [limb_1_1, Cond.after, Cond.holds, Cond.value]), lw_limb limb_1_2 (fun args s t => Cond.after_iff.mpr (by
  first | (rw [show limb_1_2 = Cond.eq .result (.int 1) from rfl, Cond.eq_ints (x := 1) (y := 1) rfl rfl]; simp; done) | (simp [limb_1_2, Cond.value, Term.eval]; done)))⟩
