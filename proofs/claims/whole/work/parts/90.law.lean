def R_law : String := "GuildFundLaw"
def lw_P (b : Addr) (xs : List Int32) (args : Array Value) (s : State) : Prop := args = #[.ref b] ∧ s.IntsAt b xs ∧ xs.length ≤ 2560 ∧ (Jvm.Cond.and given_1 narrow_1).before args s = true
/-- what a walk over the start with the record d0 says of its end, said of the start itself -/
theorem lw_closed {s t : State} {o : Outcome} {d0 : Drawn} {L : List Loc} {k n : Nat} (hd0 : s.drawn.sameBut d0 lw_cs) (hv : ∃ v, o = .returned v) (hW : (s.setDrawn d0).WarmedH t.vm) (hs : (s.setDrawn d0).sameButNew ({ t with vm := s.vm } : State) L k n) : State.butDraws s t lw_cs (fun t1 => Framed s o t1 L k n) := by
  have h2 : t.drawn = d0 := congrArg State.drawn hs.1
  refine ⟨⟨hv, hW, State.sameButNew.setDrawn hs s.drawn⟩, ?_, by decide⟩
  rw [h2]
  exact hd0
def lw_Q (_ : Array Value) (s : State) (o : Outcome) (t : State) : Prop := o = .returned (some (.int 1)) ∧ State.butDraws s t lw_cs (fun t1 => Framed s o t1 [] 600000 7302250)
def lw_Z (below : List Frame) (a : Array Value) (s : State) : State → Prop := fun t => ∃ o, t.status = .running ∧ Ended t below o ∧ lw_Q a s o t
/-- the law's own end, with 1 on the stack, nothing written that was there before, its room as the claim has it; d0: the record of draws at this point (at the entry s.drawn: begin with 'refine W.base ?_' and 'have hd0 := Drawn.sameBut.refl s.drawn lw_cs') -/
theorem lw_ret {p : Program} {l : Launch} {e : Env} {s : State} {m : MethodId} {below : List Frame} {meth : Method} {c : Code} {b : Nat} {d0 : Drawn} (hd0 : s.drawn.sameBut d0 lw_cs) (hx : p.tables.exec = Jvm.exec) (hb : c.code = code) (hr : meth.sig.returnType = ret) (hlocks : meth.locks = false) {pc : Nat} {H : Heap} {ls : Array Slot} (hdg : decode code pc = .ok (.ireturn, 1)) : W p l e room_1 (s.setDrawn d0) m #[Value.ref b] below meth c H [] 600000 7302250 (lw_Z below #[Value.ref b] s) (F0 m pc ls [.int 1]) := by
  intro T hT X
  obtain ⟨fs, hret, hrun, hended, hW, hframe⟩ := X.leave (v := some (.int 1)) (hlocks := hlocks) (fun h => by rw [hr] at h; cases h)
  have hmeth' : T.vm.method? m = some meth := X.method'
  refine ⟨T.setFrames fs, ?_, .returned (some (.int 1)), hrun, hended, rfl, lw_closed hd0 ⟨_, rfl⟩ hW hframe⟩
  jvm_step X.here [X.here.top, hx, hb, hdg, hmeth', hr, ret, narrow_b1]
  (try refine ⟨rfl, ?_⟩); (try refine ⟨rfl, ?_⟩)
  first | (intro acts; rw [hret _ acts rfl rfl rfl]) | rw [hret _ _ rfl rfl rfl]
  exact Steps.refl _
/-- what holds at the law's entry: the machine, the code, the tables' words (any of lw_tbl by 'hts w (by decide +kernel)'), the script of L ints xs at the cell b, what the Statement gives of the start (any of its parts by flat_of_before) -/
def lw_At (p : Program) (s : State) (m : MethodId) (meth : Method) (c : Code) (b L : Nat) (xs : Nat → Int32) : Prop :=
  p.tables.exec = Jvm.exec ∧ c.code = code ∧ meth.sig.returnType = ret ∧ c.maxLocals = 8 ∧ s.vm.findClass R_law = some m.cls ∧ (∀ w ∈ lw_tbl, w.before #[Value.ref b] s = true) ∧ va_X b L xs s s.heap ∧ b < s.heap.size ∧ meth.locks = false ∧ (Jvm.Cond.and given_1 narrow_1).before #[Value.ref b] s = true
/-- the law's state as the rows see it, with the record d of draws -/
abbrev lX (p : Program) (e : Env) (s : State) (m : MethodId) (below : List Frame) (meth : Method) (c : Code) (b : Nat) (d : Drawn) : jX := (p, e, s.setDrawn d, m, #[Value.ref b], below, meth, c, (fun q : Nat => s.heap.size ≤ q), s.heap, lw_Z below #[Value.ref b] s)
/-- what holds all through the law -/
def LCx (l : Launch) (D : va_G) (ca : Nat → ClassId) (p : Program) (e : Env) (s : State) (m : MethodId) (below : List Frame) (meth : Method) (c : Code) (b L : Nat) (xs : Nat → Int32) (ts : Nat → Nat) : Prop := ∀ d : Drawn, jK l room_1 D ca 8 (lX p e s m below meth c b d) cL_law yL_law ret ∧ jSX ts (lX p e s m below meth c b d) ∧ jLX b L xs (lX p e s m below meth c b d)
set_option maxRecDepth 16384 in
theorem fW_f (ca : Nat → ClassId) (g : Nat → Nat) (K K' : Nat → jB) : (fW ca g K').map Prod.fst = (fW ca g K).map Prod.fst := rfl
set_option maxRecDepth 16384 in
theorem mW_f (ca : Nat → ClassId) (g : Nat → Nat) (M M' : jB) : (mW ca g M').map Prod.fst = (mW ca g M).map Prod.fst := rfl
set_option maxRecDepth 16384 in
theorem lq_f (ca : Nat → ClassId) (g hh : Nat → Nat) (K : Nat → jB) (M : jB) : (fW ca g K ++ mW ca hh M)[0]? = some (g 0, .inr (7, [.ref (g 10), .ref (g 30), .ref (g 50), .ref (g 1), .ref (g 3), .ref (g 7), .int (K 7 5 5), .int (K 7 5 6), .int (K 7 5 7)])) := rfl
set_option maxRecDepth 16384 in
theorem lq_m (ca : Nat → ClassId) (g hh : Nat → Nat) (K : Nat → jB) (M : jB) : (fW ca g K ++ mW ca hh M)[150]? = some (hh 0, .inr (8, [.ref (hh 1), .ref (hh 2), .ref (hh 3), .int (M 6 0), .ref (hh 4), .int (M 6 1), .ref (hh 5), .int (M 6 2), .int (M 6 3), .int (M 6 4), .ref (hh 6), .int (M 6 5), .int (M 6 6), .int (M 6 7), .int (M 6 8)])) := rfl
theorem char_idem2 (v : Int32) : vp_nar .char ((v.toUInt32 % 65536).toInt32) = (v.toUInt32 % 65536).toInt32 := by
  have h := char_idem v
  have e : v.toUInt32.toUInt16.toUInt32 = v.toUInt32 % 65536 := by simp
  rw [e] at h
  exact h
theorem nan64 (x : UInt64) : isNaN64 x = true ↔ FP.Core.val64 x = FP.Core.Datum.nan := by
  rw [isNaN64_iff]
  have e : x.toNat &&& 0x7fffffffffffffff = x.toNat % 2 ^ 63 := Nat.and_two_pow_sub_one_eq_mod x.toNat 63
  rw [e]
  have h := FP.Core.ne_nan x
  constructor
  · intro q
    exact Classical.byContradiction fun n => by have := h.mp n; omega
  · intro q
    exact Nat.lt_of_not_le fun n => (h.mpr n) q
theorem dcmp_two {r1 r2 v : UInt64} (h1 : alike64 r1 v = true) (h2 : alike64 r2 v = true) : Op.cmpValue (FP.dcmp r1 r2) CmpOp.l = 0 ∨ (¬ (Op.cmpValue (FP.dcmp r1 r1) CmpOp.l = 0) ∧ ¬ (Op.cmpValue (FP.dcmp r2 r2) CmpOp.l = 0)) := by
  by_cases n : FP.Core.val64 v = FP.Core.Datum.nan
  · right
    have nn : ∀ r : UInt64, alike64 r v = true → FP.dcmp r r = none := by
      intro r h
      unfold alike64 at h
      rw [Bool.or_eq_true, Bool.and_eq_true, decide_eq_true_iff] at h
      have : FP.Core.val64 r = FP.Core.Datum.nan := by
        rcases h with h | h
        · rw [h]; exact n
        · exact (nan64 r).mp h.1
      exact (FP.Core.dcmp_none r r).mpr (Or.inl this)
    rw [nn r1 h1, nn r2 h2]
    exact ⟨by decide, by decide⟩
  · left
    have ee : ∀ r : UInt64, alike64 r v = true → r = v := by
      intro r h
      unfold alike64 at h
      rw [Bool.or_eq_true, Bool.and_eq_true, decide_eq_true_iff] at h
      rcases h with h | h
      · exact h
      · exact absurd ((nan64 v).mp h.2) n
    have hs : FP.dcmp v v = some .eq := FP.Core.dcmp_self n
    rw [ee r1 h1, ee r2 h2, hs]
    rfl
section LAW
variable {l : Launch} {D : va_G} {ca : Nat → ClassId} {p : Program} {e : Env} {s : State} {m : MethodId} {below : List Frame} {meth : Method} {c : Code} {b L : Nat} {xs : Nat → Int32} {ts : Nat → Nat}
theorem law_0 (CX : LCx l D ca p e s m below meth c b L xs ts) {n : Nat} {K : Nat → jB} {M : jB} (h : Rel n K M) (hn : n ≤ 800) {g hh : Nat → Nat} {d0 : Drawn} (hd0 : s.drawn.sameBut d0 lw_cs) {i : Int32} (i1 : vp_in (i + 1) L) (i2 : vp_in (i + 2) L) (i3 : vp_in (i + 3) L) (i4 : vp_in (i + 4) L) (nx : ∀ (K' : Nat → jB) (M' : jB) (d1 : Drawn), Rel (n + 1) K' M' → s.drawn.sameBut d1 lw_cs → J l room_1 D 8 (lX p e s m below meth c b d1) 600000 7302250 (fW ca g K' ++ mW ca hh M') [(3, .int i), (2, .ref (hh 0)), (1, .ref (g 0)), (0, .ref b)] [] 1063) : J l room_1 D 8 (lX p e s m below meth c b d0) 600000 7302250 (fW ca g K ++ mW ca hh M) [(3, .int i), (2, .ref (hh 0)), (1, .ref (g 0)), (0, .ref b)] [] 164 := by
  obtain ⟨C, Sx, S0⟩ := CX d0
  obtain ⟨q7, q8, qe, qr⟩ := R_setRate h (xs (i + 1).toNatClampNeg) (xs (i + 2).toNatClampNeg)
  refine j_aload_n C dL_law_164 rfl ?_
  refine j_aload_n C dL_law_165 rfl ?_
  refine j_iload_n C dL_law_166 rfl ?_
  refine j_iconst C dL_law_167 1 rfl ?_
  refine j_iadd C dL_law_168 ?_
  refine j_sld C S0 dL_law_169 i1 ?_
  refine j_aload_n C dL_law_170 rfl ?_
  refine j_iload_n C dL_law_171 rfl ?_
  refine j_iconst C dL_law_172 2 rfl ?_
  refine j_iadd C dL_law_173 ?_
  refine j_sld C S0 dL_law_174 i2 ?_
  refine j_lawPS C Sx g_L_13 (c_X7_setRate l D ca ts g K (xs (i + 1).toNatClampNeg) (xs (i + 2).toNatClampNeg) q7) 0 (lq_f ca g hh K M) hcl_X7 ⟨Nat.le_of_ble_eq_true rfl, Nat.le_of_ble_eq_true rfl⟩ ⟨Nat.le_of_ble_eq_true rfl, Nat.le_of_ble_eq_true rfl⟩ rfl rfl (Nat.le_of_ble_eq_true rfl) dL_law_175 (fW_f ca g K _) ?_
  refine j_aload_n C dL_law_178 rfl ?_
  refine j_aload_n C dL_law_179 rfl ?_
  refine j_iload_n C dL_law_180 rfl ?_
  refine j_iconst C dL_law_181 1 rfl ?_
  refine j_iadd C dL_law_182 ?_
  refine j_sld C S0 dL_law_183 i1 ?_
  refine j_aload_n C dL_law_184 rfl ?_
  refine j_iload_n C dL_law_185 rfl ?_
  refine j_iconst C dL_law_186 2 rfl ?_
  refine j_iadd C dL_law_187 ?_
  refine j_sld C S0 dL_law_188 i2 ?_
  refine j_lawQi C g_L_17 (c_X8_setRate l D ca hh M (xs (i + 1).toNatClampNeg) (xs (i + 2).toNatClampNeg) q8) 150 (lq_m ca g hh (r_X7_setRate K (xs (i + 1).toNatClampNeg) (xs (i + 2).toNatClampNeg)).2 M) hcl_X8 ⟨Nat.le_of_ble_eq_true rfl, Nat.le_of_ble_eq_true rfl⟩ ⟨Nat.le_of_ble_eq_true rfl, Nat.le_of_ble_eq_true rfl⟩ rfl rfl (Nat.le_of_ble_eq_true rfl) dL_law_189 (mW_f ca hh M _) ?_
  exact j_icmp_eq (tgt := 1063) C dL_law_192 rfl (fun _ => nx _ _ d0 qr hd0) (fun q => absurd qe q)
theorem law_1 (CX : LCx l D ca p e s m below meth c b L xs ts) {n : Nat} {K : Nat → jB} {M : jB} (h : Rel n K M) (hn : n ≤ 800) {g hh : Nat → Nat} {d0 : Drawn} (hd0 : s.drawn.sameBut d0 lw_cs) {i : Int32} (i1 : vp_in (i + 1) L) (i2 : vp_in (i + 2) L) (i3 : vp_in (i + 3) L) (i4 : vp_in (i + 4) L) (nx : ∀ (K' : Nat → jB) (M' : jB) (d1 : Drawn), Rel (n + 1) K' M' → s.drawn.sameBut d1 lw_cs → J l room_1 D 8 (lX p e s m below meth c b d1) 600000 7302250 (fW ca g K' ++ mW ca hh M') [(3, .int i), (2, .ref (hh 0)), (1, .ref (g 0)), (0, .ref b)] [] 1063) : J l room_1 D 8 (lX p e s m below meth c b d0) 600000 7302250 (fW ca g K ++ mW ca hh M) [(3, .int i), (2, .ref (hh 0)), (1, .ref (g 0)), (0, .ref b)] [] 197 := by
  obtain ⟨C, Sx, S0⟩ := CX d0
  obtain ⟨q7, q8, qe, qr⟩ := R_setNumber h (xs (i + 1).toNatClampNeg) (xs (i + 2).toNatClampNeg)
  refine j_aload_n C dL_law_197 rfl ?_
  refine j_aload_n C dL_law_198 rfl ?_
  refine j_iload_n C dL_law_199 rfl ?_
  refine j_iconst C dL_law_200 1 rfl ?_
  refine j_iadd C dL_law_201 ?_
  refine j_sld C S0 dL_law_202 i1 ?_
  refine j_aload_n C dL_law_203 rfl ?_
  refine j_iload_n C dL_law_204 rfl ?_
  refine j_iconst C dL_law_205 2 rfl ?_
  refine j_iadd C dL_law_206 ?_
  refine j_sld C S0 dL_law_207 i2 ?_
  refine j_lawPS C Sx g_L_18 (c_X7_setNumber l D ca ts g K (xs (i + 1).toNatClampNeg) (xs (i + 2).toNatClampNeg) q7) 0 (lq_f ca g hh K M) hcl_X7 ⟨Nat.le_of_ble_eq_true rfl, Nat.le_of_ble_eq_true rfl⟩ ⟨Nat.le_of_ble_eq_true rfl, Nat.le_of_ble_eq_true rfl⟩ rfl rfl (Nat.le_of_ble_eq_true rfl) dL_law_208 (fW_f ca g K _) ?_
  refine j_aload_n C dL_law_211 rfl ?_
  refine j_aload_n C dL_law_212 rfl ?_
  refine j_iload_n C dL_law_213 rfl ?_
  refine j_iconst C dL_law_214 1 rfl ?_
  refine j_iadd C dL_law_215 ?_
  refine j_sld C S0 dL_law_216 i1 ?_
  refine j_aload_n C dL_law_217 rfl ?_
  refine j_iload_n C dL_law_218 rfl ?_
  refine j_iconst C dL_law_219 2 rfl ?_
  refine j_iadd C dL_law_220 ?_
  refine j_sld C S0 dL_law_221 i2 ?_
  refine j_lawQi C g_L_21 (c_X8_setNumber l D ca hh M (xs (i + 1).toNatClampNeg) (xs (i + 2).toNatClampNeg) q8) 150 (lq_m ca g hh (r_X7_setNumber K (xs (i + 1).toNatClampNeg) (xs (i + 2).toNatClampNeg)).2 M) hcl_X8 ⟨Nat.le_of_ble_eq_true rfl, Nat.le_of_ble_eq_true rfl⟩ ⟨Nat.le_of_ble_eq_true rfl, Nat.le_of_ble_eq_true rfl⟩ rfl rfl (Nat.le_of_ble_eq_true rfl) dL_law_222 (mW_f ca hh M _) ?_
  exact j_icmp_eq (tgt := 1063) C dL_law_225 rfl (fun _ => nx _ _ d0 qr hd0) (fun q => absurd qe q)
theorem law_2 (CX : LCx l D ca p e s m below meth c b L xs ts) {n : Nat} {K : Nat → jB} {M : jB} (h : Rel n K M) (hn : n ≤ 800) {g hh : Nat → Nat} {d0 : Drawn} (hd0 : s.drawn.sameBut d0 lw_cs) {i : Int32} (i1 : vp_in (i + 1) L) (i2 : vp_in (i + 2) L) (i3 : vp_in (i + 3) L) (i4 : vp_in (i + 4) L) (nx : ∀ (K' : Nat → jB) (M' : jB) (d1 : Drawn), Rel (n + 1) K' M' → s.drawn.sameBut d1 lw_cs → J l room_1 D 8 (lX p e s m below meth c b d1) 600000 7302250 (fW ca g K' ++ mW ca hh M') [(3, .int i), (2, .ref (hh 0)), (1, .ref (g 0)), (0, .ref b)] [] 1063) : J l room_1 D 8 (lX p e s m below meth c b d0) 600000 7302250 (fW ca g K ++ mW ca hh M) [(3, .int i), (2, .ref (hh 0)), (1, .ref (g 0)), (0, .ref b)] [] 230 := by
  obtain ⟨C, Sx, S0⟩ := CX d0
  obtain ⟨q7, q8, qe, qr⟩ := R_addMember h (xs (i + 1).toNatClampNeg)
  refine j_aload_n C dL_law_230 rfl ?_
  refine j_aload_n C dL_law_231 rfl ?_
  refine j_iload_n C dL_law_232 rfl ?_
  refine j_iconst C dL_law_233 1 rfl ?_
  refine j_iadd C dL_law_234 ?_
  refine j_sld C S0 dL_law_235 i1 ?_
  refine j_lawPi C g_L_22 (c_X7_addMember l D ca g K (xs (i + 1).toNatClampNeg) q7) 0 (lq_f ca g hh K M) hcl_X7 ⟨Nat.le_of_ble_eq_true rfl, Nat.le_of_ble_eq_true rfl⟩ ⟨Nat.le_of_ble_eq_true rfl, Nat.le_of_ble_eq_true rfl⟩ rfl rfl (Nat.le_of_ble_eq_true rfl) dL_law_236 (fW_f ca g K _) ?_
  refine j_aload_n C dL_law_239 rfl ?_
  refine j_aload_n C dL_law_240 rfl ?_
  refine j_iload_n C dL_law_241 rfl ?_
  refine j_iconst C dL_law_242 1 rfl ?_
  refine j_iadd C dL_law_243 ?_
  refine j_sld C S0 dL_law_244 i1 ?_
  refine j_lawQi C g_L_26 (c_X8_addMember l D ca hh M (xs (i + 1).toNatClampNeg) q8) 150 (lq_m ca g hh (r_X7_addMember K (xs (i + 1).toNatClampNeg)).2 M) hcl_X8 ⟨Nat.le_of_ble_eq_true rfl, Nat.le_of_ble_eq_true rfl⟩ ⟨Nat.le_of_ble_eq_true rfl, Nat.le_of_ble_eq_true rfl⟩ rfl rfl (Nat.le_of_ble_eq_true rfl) dL_law_245 (mW_f ca hh M _) ?_
  exact j_icmp_eq (tgt := 1063) C dL_law_248 rfl (fun _ => nx _ _ d0 qr hd0) (fun q => absurd qe q)
theorem law_3 (CX : LCx l D ca p e s m below meth c b L xs ts) {n : Nat} {K : Nat → jB} {M : jB} (h : Rel n K M) (hn : n ≤ 800) {g hh : Nat → Nat} {d0 : Drawn} (hd0 : s.drawn.sameBut d0 lw_cs) {i : Int32} (i1 : vp_in (i + 1) L) (i2 : vp_in (i + 2) L) (i3 : vp_in (i + 3) L) (i4 : vp_in (i + 4) L) (nx : ∀ (K' : Nat → jB) (M' : jB) (d1 : Drawn), Rel (n + 1) K' M' → s.drawn.sameBut d1 lw_cs → J l room_1 D 8 (lX p e s m below meth c b d1) 600000 7302250 (fW ca g K' ++ mW ca hh M') [(3, .int i), (2, .ref (hh 0)), (1, .ref (g 0)), (0, .ref b)] [] 1063) : J l room_1 D 8 (lX p e s m below meth c b d0) 600000 7302250 (fW ca g K ++ mW ca hh M) [(3, .int i), (2, .ref (hh 0)), (1, .ref (g 0)), (0, .ref b)] [] 253 := by
  obtain ⟨C, Sx, S0⟩ := CX d0
  obtain ⟨q7, q8, qe, qr⟩ := R_payDues h (xs (i + 1).toNatClampNeg) (xs (i + 2).toNatClampNeg)
  refine j_aload_n C dL_law_253 rfl ?_
  refine j_aload_n C dL_law_254 rfl ?_
  refine j_iload_n C dL_law_255 rfl ?_
  refine j_iconst C dL_law_256 1 rfl ?_
  refine j_iadd C dL_law_257 ?_
  refine j_sld C S0 dL_law_258 i1 ?_
  refine j_aload_n C dL_law_259 rfl ?_
  refine j_iload_n C dL_law_260 rfl ?_
  refine j_iconst C dL_law_261 2 rfl ?_
  refine j_iadd C dL_law_262 ?_
  refine j_sld C S0 dL_law_263 i2 ?_
  refine j_lawPi C g_L_27 (c_X7_payDues l D ca g K (xs (i + 1).toNatClampNeg) (xs (i + 2).toNatClampNeg) q7) 0 (lq_f ca g hh K M) hcl_X7 ⟨Nat.le_of_ble_eq_true rfl, Nat.le_of_ble_eq_true rfl⟩ ⟨Nat.le_of_ble_eq_true rfl, Nat.le_of_ble_eq_true rfl⟩ rfl rfl (Nat.le_of_ble_eq_true rfl) dL_law_264 (fW_f ca g K _) ?_
  refine j_aload_n C dL_law_267 rfl ?_
  refine j_aload_n C dL_law_268 rfl ?_
  refine j_iload_n C dL_law_269 rfl ?_
  refine j_iconst C dL_law_270 1 rfl ?_
  refine j_iadd C dL_law_271 ?_
  refine j_sld C S0 dL_law_272 i1 ?_
  refine j_aload_n C dL_law_273 rfl ?_
  refine j_iload_n C dL_law_274 rfl ?_
  refine j_iconst C dL_law_275 2 rfl ?_
  refine j_iadd C dL_law_276 ?_
  refine j_sld C S0 dL_law_277 i2 ?_
  refine j_lawQi C g_L_30 (c_X8_payDues l D ca hh M (xs (i + 1).toNatClampNeg) (xs (i + 2).toNatClampNeg) q8) 150 (lq_m ca g hh (r_X7_payDues K (xs (i + 1).toNatClampNeg) (xs (i + 2).toNatClampNeg)).2 M) hcl_X8 ⟨Nat.le_of_ble_eq_true rfl, Nat.le_of_ble_eq_true rfl⟩ ⟨Nat.le_of_ble_eq_true rfl, Nat.le_of_ble_eq_true rfl⟩ rfl rfl (Nat.le_of_ble_eq_true rfl) dL_law_278 (mW_f ca hh M _) ?_
  exact j_icmp_eq (tgt := 1063) C dL_law_281 rfl (fun _ => nx _ _ d0 qr hd0) (fun q => absurd qe q)
theorem law_4 (CX : LCx l D ca p e s m below meth c b L xs ts) {n : Nat} {K : Nat → jB} {M : jB} (h : Rel n K M) (hn : n ≤ 800) {g hh : Nat → Nat} {d0 : Drawn} (hd0 : s.drawn.sameBut d0 lw_cs) {i : Int32} (i1 : vp_in (i + 1) L) (i2 : vp_in (i + 2) L) (i3 : vp_in (i + 3) L) (i4 : vp_in (i + 4) L) (nx : ∀ (K' : Nat → jB) (M' : jB) (d1 : Drawn), Rel (n + 1) K' M' → s.drawn.sameBut d1 lw_cs → J l room_1 D 8 (lX p e s m below meth c b d1) 600000 7302250 (fW ca g K' ++ mW ca hh M') [(3, .int i), (2, .ref (hh 0)), (1, .ref (g 0)), (0, .ref b)] [] 1063) : J l room_1 D 8 (lX p e s m below meth c b d0) 600000 7302250 (fW ca g K ++ mW ca hh M) [(3, .int i), (2, .ref (hh 0)), (1, .ref (g 0)), (0, .ref b)] [] 286 := by
  obtain ⟨C, Sx, S0⟩ := CX d0
  obtain ⟨q7, q8, qe, qr⟩ := R_addInvoice h (xs (i + 1).toNatClampNeg) (xs (i + 2).toNatClampNeg) (xs (i + 3).toNatClampNeg) (xs (i + 4).toNatClampNeg)
  refine j_aload_n C dL_law_286 rfl ?_
  refine j_aload_n C dL_law_287 rfl ?_
  refine j_iload_n C dL_law_288 rfl ?_
  refine j_iconst C dL_law_289 1 rfl ?_
  refine j_iadd C dL_law_290 ?_
  refine j_sld C S0 dL_law_291 i1 ?_
  refine j_aload_n C dL_law_292 rfl ?_
  refine j_iload_n C dL_law_293 rfl ?_
  refine j_iconst C dL_law_294 2 rfl ?_
  refine j_iadd C dL_law_295 ?_
  refine j_sld C S0 dL_law_296 i2 ?_
  refine j_aload_n C dL_law_297 rfl ?_
  refine j_iload_n C dL_law_298 rfl ?_
  refine j_iconst C dL_law_299 3 rfl ?_
  refine j_iadd C dL_law_300 ?_
  refine j_sld C S0 dL_law_301 i3 ?_
  refine j_aload_n C dL_law_302 rfl ?_
  refine j_iload_n C dL_law_303 rfl ?_
  refine j_iconst C dL_law_304 4 rfl ?_
  refine j_iadd C dL_law_305 ?_
  refine j_sld C S0 dL_law_306 i4 ?_
  refine j_lawPi C g_L_31 (c_X7_addInvoice l D ca g K (xs (i + 1).toNatClampNeg) (xs (i + 2).toNatClampNeg) (xs (i + 3).toNatClampNeg) (xs (i + 4).toNatClampNeg) q7) 0 (lq_f ca g hh K M) hcl_X7 ⟨Nat.le_of_ble_eq_true rfl, Nat.le_of_ble_eq_true rfl⟩ ⟨Nat.le_of_ble_eq_true rfl, Nat.le_of_ble_eq_true rfl⟩ rfl rfl (Nat.le_of_ble_eq_true rfl) dL_law_307 (fW_f ca g K _) ?_
  refine j_aload_n C dL_law_310 rfl ?_
  refine j_aload_n C dL_law_311 rfl ?_
  refine j_iload_n C dL_law_312 rfl ?_
  refine j_iconst C dL_law_313 1 rfl ?_
  refine j_iadd C dL_law_314 ?_
  refine j_sld C S0 dL_law_315 i1 ?_
  refine j_aload_n C dL_law_316 rfl ?_
  refine j_iload_n C dL_law_317 rfl ?_
  refine j_iconst C dL_law_318 2 rfl ?_
  refine j_iadd C dL_law_319 ?_
  refine j_sld C S0 dL_law_320 i2 ?_
  refine j_aload_n C dL_law_321 rfl ?_
  refine j_iload_n C dL_law_322 rfl ?_
  refine j_iconst C dL_law_323 3 rfl ?_
  refine j_iadd C dL_law_324 ?_
  refine j_sld C S0 dL_law_325 i3 ?_
  refine j_aload_n C dL_law_326 rfl ?_
  refine j_iload_n C dL_law_327 rfl ?_
  refine j_iconst C dL_law_328 4 rfl ?_
  refine j_iadd C dL_law_329 ?_
  refine j_sld C S0 dL_law_330 i4 ?_
  refine j_lawQi C g_L_35 (c_X8_addInvoice l D ca hh M (xs (i + 1).toNatClampNeg) (xs (i + 2).toNatClampNeg) (xs (i + 3).toNatClampNeg) (xs (i + 4).toNatClampNeg) q8) 150 (lq_m ca g hh (r_X7_addInvoice K (xs (i + 1).toNatClampNeg) (xs (i + 2).toNatClampNeg) (xs (i + 3).toNatClampNeg) (xs (i + 4).toNatClampNeg)).2 M) hcl_X8 ⟨Nat.le_of_ble_eq_true rfl, Nat.le_of_ble_eq_true rfl⟩ ⟨Nat.le_of_ble_eq_true rfl, Nat.le_of_ble_eq_true rfl⟩ rfl rfl (Nat.le_of_ble_eq_true rfl) dL_law_331 (mW_f ca hh M _) ?_
  exact j_icmp_eq (tgt := 1063) C dL_law_334 rfl (fun _ => nx _ _ d0 qr hd0) (fun q => absurd qe q)
theorem law_5 (CX : LCx l D ca p e s m below meth c b L xs ts) {n : Nat} {K : Nat → jB} {M : jB} (h : Rel n K M) (hn : n ≤ 800) {g hh : Nat → Nat} {d0 : Drawn} (hd0 : s.drawn.sameBut d0 lw_cs) {i : Int32} (i1 : vp_in (i + 1) L) (i2 : vp_in (i + 2) L) (i3 : vp_in (i + 3) L) (i4 : vp_in (i + 4) L) (nx : ∀ (K' : Nat → jB) (M' : jB) (d1 : Drawn), Rel (n + 1) K' M' → s.drawn.sameBut d1 lw_cs → J l room_1 D 8 (lX p e s m below meth c b d1) 600000 7302250 (fW ca g K' ++ mW ca hh M') [(3, .int i), (2, .ref (hh 0)), (1, .ref (g 0)), (0, .ref b)] [] 1063) : J l room_1 D 8 (lX p e s m below meth c b d0) 600000 7302250 (fW ca g K ++ mW ca hh M) [(3, .int i), (2, .ref (hh 0)), (1, .ref (g 0)), (0, .ref b)] [] 339 := by
  obtain ⟨C, Sx, S0⟩ := CX d0
  obtain ⟨q7, q8, qe, qr⟩ := R_payAhead h (by omega) (xs (i + 1).toNatClampNeg)
  refine j_aload_n C dL_law_339 rfl ?_
  refine j_aload_n C dL_law_340 rfl ?_
  refine j_iload_n C dL_law_341 rfl ?_
  refine j_iconst C dL_law_342 1 rfl ?_
  refine j_iadd C dL_law_343 ?_
  refine j_sld C S0 dL_law_344 i1 ?_
  refine j_lawPi C g_L_36 (c_X7_payAhead l D ca g K (xs (i + 1).toNatClampNeg) q7) 0 (lq_f ca g hh K M) hcl_X7 ⟨Nat.le_of_ble_eq_true rfl, Nat.le_of_ble_eq_true rfl⟩ ⟨Nat.le_of_ble_eq_true rfl, Nat.le_of_ble_eq_true rfl⟩ rfl rfl (Nat.le_of_ble_eq_true rfl) dL_law_345 (fW_f ca g K _) ?_
  refine j_aload_n C dL_law_348 rfl ?_
  refine j_aload_n C dL_law_349 rfl ?_
  refine j_iload_n C dL_law_350 rfl ?_
  refine j_iconst C dL_law_351 1 rfl ?_
  refine j_iadd C dL_law_352 ?_
  refine j_sld C S0 dL_law_353 i1 ?_
  refine j_lawQi C g_L_39 (c_X8_payAhead l D ca hh M (xs (i + 1).toNatClampNeg) q8) 150 (lq_m ca g hh (r_X7_payAhead K (xs (i + 1).toNatClampNeg)).2 M) hcl_X8 ⟨Nat.le_of_ble_eq_true rfl, Nat.le_of_ble_eq_true rfl⟩ ⟨Nat.le_of_ble_eq_true rfl, Nat.le_of_ble_eq_true rfl⟩ rfl rfl (Nat.le_of_ble_eq_true rfl) dL_law_354 (mW_f ca hh M _) ?_
  exact j_icmp_eq (tgt := 1063) C dL_law_357 rfl (fun _ => nx _ _ d0 qr hd0) (fun q => absurd qe q)
theorem law_6 (CX : LCx l D ca p e s m below meth c b L xs ts) {n : Nat} {K : Nat → jB} {M : jB} (h : Rel n K M) (hn : n ≤ 800) {g hh : Nat → Nat} {d0 : Drawn} (hd0 : s.drawn.sameBut d0 lw_cs) {i : Int32} (i1 : vp_in (i + 1) L) (i2 : vp_in (i + 2) L) (i3 : vp_in (i + 3) L) (i4 : vp_in (i + 4) L) (nx : ∀ (K' : Nat → jB) (M' : jB) (d1 : Drawn), Rel (n + 1) K' M' → s.drawn.sameBut d1 lw_cs → J l room_1 D 8 (lX p e s m below meth c b d1) 600000 7302250 (fW ca g K' ++ mW ca hh M') [(3, .int i), (2, .ref (hh 0)), (1, .ref (g 0)), (0, .ref b)] [] 1063) : J l room_1 D 8 (lX p e s m below meth c b d0) 600000 7302250 (fW ca g K ++ mW ca hh M) [(3, .int i), (2, .ref (hh 0)), (1, .ref (g 0)), (0, .ref b)] [] 362 := by
  obtain ⟨C, Sx, S0⟩ := CX d0
  obtain ⟨q7, q8, qe, qr⟩ := R_pay h (by omega) (xs (i + 1).toNatClampNeg) (xs (i + 2).toNatClampNeg)
  refine j_aload_n C dL_law_362 rfl ?_
  refine j_aload_n C dL_law_363 rfl ?_
  refine j_iload_n C dL_law_364 rfl ?_
  refine j_iconst C dL_law_365 1 rfl ?_
  refine j_iadd C dL_law_366 ?_
  refine j_sld C S0 dL_law_367 i1 ?_
  refine j_aload_n C dL_law_368 rfl ?_
  refine j_iload_n C dL_law_369 rfl ?_
  refine j_iconst C dL_law_370 2 rfl ?_
  refine j_iadd C dL_law_371 ?_
  refine j_sld C S0 dL_law_372 i2 ?_
  refine j_lawPi C g_L_40 (c_X7_pay l D ca g K (xs (i + 1).toNatClampNeg) (xs (i + 2).toNatClampNeg) q7) 0 (lq_f ca g hh K M) hcl_X7 ⟨Nat.le_of_ble_eq_true rfl, Nat.le_of_ble_eq_true rfl⟩ ⟨Nat.le_of_ble_eq_true rfl, Nat.le_of_ble_eq_true rfl⟩ rfl rfl (Nat.le_of_ble_eq_true rfl) dL_law_373 (fW_f ca g K _) ?_
  refine j_aload_n C dL_law_376 rfl ?_
  refine j_aload_n C dL_law_377 rfl ?_
  refine j_iload_n C dL_law_378 rfl ?_
  refine j_iconst C dL_law_379 1 rfl ?_
  refine j_iadd C dL_law_380 ?_
  refine j_sld C S0 dL_law_381 i1 ?_
  refine j_aload_n C dL_law_382 rfl ?_
  refine j_iload_n C dL_law_383 rfl ?_
  refine j_iconst C dL_law_384 2 rfl ?_
  refine j_iadd C dL_law_385 ?_
  refine j_sld C S0 dL_law_386 i2 ?_
  refine j_lawQi C g_L_43 (c_X8_pay l D ca hh M (xs (i + 1).toNatClampNeg) (xs (i + 2).toNatClampNeg) q8) 150 (lq_m ca g hh (r_X7_pay K (xs (i + 1).toNatClampNeg) (xs (i + 2).toNatClampNeg)).2 M) hcl_X8 ⟨Nat.le_of_ble_eq_true rfl, Nat.le_of_ble_eq_true rfl⟩ ⟨Nat.le_of_ble_eq_true rfl, Nat.le_of_ble_eq_true rfl⟩ rfl rfl (Nat.le_of_ble_eq_true rfl) dL_law_387 (mW_f ca hh M _) ?_
  exact j_icmp_eq (tgt := 1063) C dL_law_390 rfl (fun _ => nx _ _ d0 qr hd0) (fun q => absurd qe q)
theorem law_7 (CX : LCx l D ca p e s m below meth c b L xs ts) {n : Nat} {K : Nat → jB} {M : jB} (h : Rel n K M) (hn : n ≤ 800) {g hh : Nat → Nat} {d0 : Drawn} (hd0 : s.drawn.sameBut d0 lw_cs) {i : Int32} (i1 : vp_in (i + 1) L) (i2 : vp_in (i + 2) L) (i3 : vp_in (i + 3) L) (i4 : vp_in (i + 4) L) (nx : ∀ (K' : Nat → jB) (M' : jB) (d1 : Drawn), Rel (n + 1) K' M' → s.drawn.sameBut d1 lw_cs → J l room_1 D 8 (lX p e s m below meth c b d1) 600000 7302250 (fW ca g K' ++ mW ca hh M') [(3, .int i), (2, .ref (hh 0)), (1, .ref (g 0)), (0, .ref b)] [] 1063) : J l room_1 D 8 (lX p e s m below meth c b d0) 600000 7302250 (fW ca g K ++ mW ca hh M) [(3, .int i), (2, .ref (hh 0)), (1, .ref (g 0)), (0, .ref b)] [] 395 := by
  obtain ⟨C, Sx, S0⟩ := CX d0
  obtain ⟨q7, q8, qe, qr⟩ := R_giveUp h (by omega) (xs (i + 1).toNatClampNeg)
  refine j_aload_n C dL_law_395 rfl ?_
  refine j_aload_n C dL_law_396 rfl ?_
  refine j_iload_n C dL_law_397 rfl ?_
  refine j_iconst C dL_law_398 1 rfl ?_
  refine j_iadd C dL_law_399 ?_
  refine j_sld C S0 dL_law_400 i1 ?_
  refine j_lawPi C g_L_44 (c_X7_giveUp l D ca g K (xs (i + 1).toNatClampNeg) q7) 0 (lq_f ca g hh K M) hcl_X7 ⟨Nat.le_of_ble_eq_true rfl, Nat.le_of_ble_eq_true rfl⟩ ⟨Nat.le_of_ble_eq_true rfl, Nat.le_of_ble_eq_true rfl⟩ rfl rfl (Nat.le_of_ble_eq_true rfl) dL_law_401 (fW_f ca g K _) ?_
  refine j_aload_n C dL_law_404 rfl ?_
  refine j_aload_n C dL_law_405 rfl ?_
  refine j_iload_n C dL_law_406 rfl ?_
  refine j_iconst C dL_law_407 1 rfl ?_
  refine j_iadd C dL_law_408 ?_
  refine j_sld C S0 dL_law_409 i1 ?_
  refine j_lawQi C g_L_47 (c_X8_giveUp l D ca hh M (xs (i + 1).toNatClampNeg) q8) 150 (lq_m ca g hh (r_X7_giveUp K (xs (i + 1).toNatClampNeg)).2 M) hcl_X8 ⟨Nat.le_of_ble_eq_true rfl, Nat.le_of_ble_eq_true rfl⟩ ⟨Nat.le_of_ble_eq_true rfl, Nat.le_of_ble_eq_true rfl⟩ rfl rfl (Nat.le_of_ble_eq_true rfl) dL_law_410 (mW_f ca hh M _) ?_
  exact j_icmp_eq (tgt := 1063) C dL_law_413 rfl (fun _ => nx _ _ d0 qr hd0) (fun q => absurd qe q)
theorem law_8 (CX : LCx l D ca p e s m below meth c b L xs ts) {n : Nat} {K : Nat → jB} {M : jB} (h : Rel n K M) (hn : n ≤ 800) {g hh : Nat → Nat} {d0 : Drawn} (hd0 : s.drawn.sameBut d0 lw_cs) {i : Int32} (i1 : vp_in (i + 1) L) (i2 : vp_in (i + 2) L) (i3 : vp_in (i + 3) L) (i4 : vp_in (i + 4) L) (nx : ∀ (K' : Nat → jB) (M' : jB) (d1 : Drawn), Rel (n + 1) K' M' → s.drawn.sameBut d1 lw_cs → J l room_1 D 8 (lX p e s m below meth c b d1) 600000 7302250 (fW ca g K' ++ mW ca hh M') [(3, .int i), (2, .ref (hh 0)), (1, .ref (g 0)), (0, .ref b)] [] 1063) : J l room_1 D 8 (lX p e s m below meth c b d0) 600000 7302250 (fW ca g K ++ mW ca hh M) [(3, .int i), (2, .ref (hh 0)), (1, .ref (g 0)), (0, .ref b)] [] 418 := by
  obtain ⟨C, Sx, S0⟩ := CX d0
  obtain ⟨q7, q8, qe, qr⟩ := R_readPayments h (by omega) 
  refine j_aload_n C dL_law_418 rfl ?_
  refine j_lawPi C g_L_48 (c_X7_readPayments l D ca g K  q7) 0 (lq_f ca g hh K M) hcl_X7 ⟨Nat.le_of_ble_eq_true rfl, Nat.le_of_ble_eq_true rfl⟩ ⟨Nat.le_of_ble_eq_true rfl, Nat.le_of_ble_eq_true rfl⟩ rfl rfl (Nat.le_of_ble_eq_true rfl) dL_law_419 (fW_f ca g K _) ?_
  refine j_aload_n C dL_law_422 rfl ?_
  refine j_lawQi C g_L_52 (c_X8_readPayments l D ca hh M  q8) 150 (lq_m ca g hh (r_X7_readPayments K).2 M) hcl_X8 ⟨Nat.le_of_ble_eq_true rfl, Nat.le_of_ble_eq_true rfl⟩ ⟨Nat.le_of_ble_eq_true rfl, Nat.le_of_ble_eq_true rfl⟩ rfl rfl (Nat.le_of_ble_eq_true rfl) dL_law_423 (mW_f ca hh M _) ?_
  exact j_icmp_eq (tgt := 1063) C dL_law_426 rfl (fun _ => nx _ _ d0 qr hd0) (fun q => absurd qe q)
theorem law_9 (CX : LCx l D ca p e s m below meth c b L xs ts) {n : Nat} {K : Nat → jB} {M : jB} (h : Rel n K M) (hn : n ≤ 800) {g hh : Nat → Nat} {d0 : Drawn} (hd0 : s.drawn.sameBut d0 lw_cs) {i : Int32} (i1 : vp_in (i + 1) L) (i2 : vp_in (i + 2) L) (i3 : vp_in (i + 3) L) (i4 : vp_in (i + 4) L) (nx : ∀ (K' : Nat → jB) (M' : jB) (d1 : Drawn), Rel (n + 1) K' M' → s.drawn.sameBut d1 lw_cs → J l room_1 D 8 (lX p e s m below meth c b d1) 600000 7302250 (fW ca g K' ++ mW ca hh M') [(3, .int i), (2, .ref (hh 0)), (1, .ref (g 0)), (0, .ref b)] [] 1063) : J l room_1 D 8 (lX p e s m below meth c b d0) 600000 7302250 (fW ca g K ++ mW ca hh M) [(3, .int i), (2, .ref (hh 0)), (1, .ref (g 0)), (0, .ref b)] [] 431 := by
  obtain ⟨C, Sx, S0⟩ := CX d0
  have qe := R_refusal h (xs (i + 1).toNatClampNeg)
  have qr := Rel_mono h (Nat.le_succ n)
  refine j_aload_n C dL_law_431 rfl ?_
  refine j_aload_n C dL_law_432 rfl ?_
  refine j_iload_n C dL_law_433 rfl ?_
  refine j_iconst C dL_law_434 1 rfl ?_
  refine j_iadd C dL_law_435 ?_
  refine j_sld C S0 dL_law_436 i1 ?_
  refine j_lawPi C g_L_53 (c_X7_refusal l D ca g K (xs (i + 1).toNatClampNeg)) 0 (lq_f ca g hh K M) hcl_X7 ⟨Nat.le_of_ble_eq_true rfl, Nat.le_of_ble_eq_true rfl⟩ ⟨Nat.le_of_ble_eq_true rfl, Nat.le_of_ble_eq_true rfl⟩ rfl rfl (Nat.le_of_ble_eq_true rfl) dL_law_437 (fW_f ca g K _) ?_
  refine j_aload_n C dL_law_440 rfl ?_
  refine j_aload_n C dL_law_441 rfl ?_
  refine j_iload_n C dL_law_442 rfl ?_
  refine j_iconst C dL_law_443 1 rfl ?_
  refine j_iadd C dL_law_444 ?_
  refine j_sld C S0 dL_law_445 i1 ?_
  refine j_lawQi C g_L_56 (c_X8_refusal l D ca hh M (xs (i + 1).toNatClampNeg)) 150 (lq_m ca g hh K M) hcl_X8 ⟨Nat.le_of_ble_eq_true rfl, Nat.le_of_ble_eq_true rfl⟩ ⟨Nat.le_of_ble_eq_true rfl, Nat.le_of_ble_eq_true rfl⟩ rfl rfl (Nat.le_of_ble_eq_true rfl) dL_law_446 (mW_f ca hh M _) ?_
  exact j_icmp_eq (tgt := 1063) C dL_law_449 rfl (fun _ => nx _ _ d0 qr hd0) (fun q => absurd qe q)
theorem law_10 (CX : LCx l D ca p e s m below meth c b L xs ts) {n : Nat} {K : Nat → jB} {M : jB} (h : Rel n K M) (hn : n ≤ 800) {g hh : Nat → Nat} {d0 : Drawn} (hd0 : s.drawn.sameBut d0 lw_cs) {i : Int32} (i1 : vp_in (i + 1) L) (i2 : vp_in (i + 2) L) (i3 : vp_in (i + 3) L) (i4 : vp_in (i + 4) L) (nx : ∀ (K' : Nat → jB) (M' : jB) (d1 : Drawn), Rel (n + 1) K' M' → s.drawn.sameBut d1 lw_cs → J l room_1 D 8 (lX p e s m below meth c b d1) 600000 7302250 (fW ca g K' ++ mW ca hh M') [(3, .int i), (2, .ref (hh 0)), (1, .ref (g 0)), (0, .ref b)] [] 1063) : J l room_1 D 8 (lX p e s m below meth c b d0) 600000 7302250 (fW ca g K ++ mW ca hh M) [(3, .int i), (2, .ref (hh 0)), (1, .ref (g 0)), (0, .ref b)] [] 454 := by
  obtain ⟨C, Sx, S0⟩ := CX d0
  obtain ⟨q7, q8, qe, qr⟩ := R_pass h (xs (i + 1).toNatClampNeg)
  refine j_aload_n C dL_law_454 rfl ?_
  refine j_aload_n C dL_law_455 rfl ?_
  refine j_iload_n C dL_law_456 rfl ?_
  refine j_iconst C dL_law_457 1 rfl ?_
  refine j_iadd C dL_law_458 ?_
  refine j_sld C S0 dL_law_459 i1 ?_
  refine j_lawPi C g_L_57 (c_X7_pass l D ca g K (xs (i + 1).toNatClampNeg) q7) 0 (lq_f ca g hh K M) hcl_X7 ⟨Nat.le_of_ble_eq_true rfl, Nat.le_of_ble_eq_true rfl⟩ ⟨Nat.le_of_ble_eq_true rfl, Nat.le_of_ble_eq_true rfl⟩ rfl rfl (Nat.le_of_ble_eq_true rfl) dL_law_460 (fW_f ca g K _) ?_
  refine j_aload_n C dL_law_463 rfl ?_
  refine j_aload_n C dL_law_464 rfl ?_
  refine j_iload_n C dL_law_465 rfl ?_
  refine j_iconst C dL_law_466 1 rfl ?_
  refine j_iadd C dL_law_467 ?_
  refine j_sld C S0 dL_law_468 i1 ?_
  refine j_lawQi C g_L_60 (c_X8_pass l D ca hh M (xs (i + 1).toNatClampNeg) q8) 150 (lq_m ca g hh (r_X7_pass K (xs (i + 1).toNatClampNeg)).2 M) hcl_X8 ⟨Nat.le_of_ble_eq_true rfl, Nat.le_of_ble_eq_true rfl⟩ ⟨Nat.le_of_ble_eq_true rfl, Nat.le_of_ble_eq_true rfl⟩ rfl rfl (Nat.le_of_ble_eq_true rfl) dL_law_469 (mW_f ca hh M _) ?_
  exact j_icmp_eq (tgt := 1063) C dL_law_472 rfl (fun _ => nx _ _ d0 qr hd0) (fun q => absurd qe q)
theorem law_11 (CX : LCx l D ca p e s m below meth c b L xs ts) {n : Nat} {K : Nat → jB} {M : jB} (h : Rel n K M) (hn : n ≤ 800) {g hh : Nat → Nat} {d0 : Drawn} (hd0 : s.drawn.sameBut d0 lw_cs) {i : Int32} (i1 : vp_in (i + 1) L) (i2 : vp_in (i + 2) L) (i3 : vp_in (i + 3) L) (i4 : vp_in (i + 4) L) (nx : ∀ (K' : Nat → jB) (M' : jB) (d1 : Drawn), Rel (n + 1) K' M' → s.drawn.sameBut d1 lw_cs → J l room_1 D 8 (lX p e s m below meth c b d1) 600000 7302250 (fW ca g K' ++ mW ca hh M') [(3, .int i), (2, .ref (hh 0)), (1, .ref (g 0)), (0, .ref b)] [] 1063) : J l room_1 D 8 (lX p e s m below meth c b d0) 600000 7302250 (fW ca g K ++ mW ca hh M) [(3, .int i), (2, .ref (hh 0)), (1, .ref (g 0)), (0, .ref b)] [] 477 := by
  obtain ⟨C, Sx, S0⟩ := CX d0
  obtain ⟨q8, qe, qr⟩ := R_type h (((xs (i + 1).toNatClampNeg).toUInt32 % 65536).toInt32) (char_idem2 _)
  refine j_aload_n C dL_law_477 rfl ?_
  refine j_aload_n C dL_law_478 rfl ?_
  refine j_iload_n C dL_law_479 rfl ?_
  refine j_iconst C dL_law_480 1 rfl ?_
  refine j_iadd C dL_law_481 ?_
  refine j_sld C S0 dL_law_482 i1 ?_
  refine j_i2c C dL_law_483 ?_
  refine j_lawPi C g_L_61 (c_X7_type l D ca g K (((xs (i + 1).toNatClampNeg).toUInt32 % 65536).toInt32)) 0 (lq_f ca g hh K M) hcl_X7 ⟨Nat.le_of_ble_eq_true rfl, Nat.le_of_ble_eq_true rfl⟩ ⟨Nat.le_of_ble_eq_true rfl, Nat.le_of_ble_eq_true rfl⟩ rfl rfl (Nat.le_of_ble_eq_true rfl) dL_law_484 (fW_f ca g K _) ?_
  refine j_aload_n C dL_law_487 rfl ?_
  refine j_aload_n C dL_law_488 rfl ?_
  refine j_iload_n C dL_law_489 rfl ?_
  refine j_iconst C dL_law_490 1 rfl ?_
  refine j_iadd C dL_law_491 ?_
  refine j_sld C S0 dL_law_492 i1 ?_
  refine j_i2c C dL_law_493 ?_
  refine j_lawQi C g_L_65 (c_X8_type l D ca hh M (((xs (i + 1).toNatClampNeg).toUInt32 % 65536).toInt32) q8) 150 (lq_m ca g hh (r_X7_type K (((xs (i + 1).toNatClampNeg).toUInt32 % 65536).toInt32)).2 M) hcl_X8 ⟨Nat.le_of_ble_eq_true rfl, Nat.le_of_ble_eq_true rfl⟩ ⟨Nat.le_of_ble_eq_true rfl, Nat.le_of_ble_eq_true rfl⟩ rfl rfl (Nat.le_of_ble_eq_true rfl) dL_law_494 (mW_f ca hh M _) ?_
  exact j_icmp_eq (tgt := 1063) C dL_law_497 rfl (fun _ => nx _ _ d0 qr hd0) (fun q => absurd qe q)
theorem law_12 (CX : LCx l D ca p e s m below meth c b L xs ts) {n : Nat} {K : Nat → jB} {M : jB} (h : Rel n K M) (hn : n ≤ 800) {g hh : Nat → Nat} {d0 : Drawn} (hd0 : s.drawn.sameBut d0 lw_cs) {i : Int32} (i1 : vp_in (i + 1) L) (i2 : vp_in (i + 2) L) (i3 : vp_in (i + 3) L) (i4 : vp_in (i + 4) L) (nx : ∀ (K' : Nat → jB) (M' : jB) (d1 : Drawn), Rel (n + 1) K' M' → s.drawn.sameBut d1 lw_cs → J l room_1 D 8 (lX p e s m below meth c b d1) 600000 7302250 (fW ca g K' ++ mW ca hh M') [(3, .int i), (2, .ref (hh 0)), (1, .ref (g 0)), (0, .ref b)] [] 1063) : J l room_1 D 8 (lX p e s m below meth c b d0) 600000 7302250 (fW ca g K ++ mW ca hh M) [(3, .int i), (2, .ref (hh 0)), (1, .ref (g 0)), (0, .ref b)] [] 502 := by
  obtain ⟨C, Sx, S0⟩ := CX d0
  obtain ⟨qe, qr⟩ := R_clearText h 
  refine j_aload_n C dL_law_502 rfl ?_
  refine j_lawPi C g_L_66 (c_X7_clearText l D ca g K ) 0 (lq_f ca g hh K M) hcl_X7 ⟨Nat.le_of_ble_eq_true rfl, Nat.le_of_ble_eq_true rfl⟩ ⟨Nat.le_of_ble_eq_true rfl, Nat.le_of_ble_eq_true rfl⟩ rfl rfl (Nat.le_of_ble_eq_true rfl) dL_law_503 (fW_f ca g K _) ?_
  refine j_aload_n C dL_law_506 rfl ?_
  refine j_lawQi C g_L_69 (c_X8_clearText l D ca hh M ) 150 (lq_m ca g hh (r_X7_clearText K).2 M) hcl_X8 ⟨Nat.le_of_ble_eq_true rfl, Nat.le_of_ble_eq_true rfl⟩ ⟨Nat.le_of_ble_eq_true rfl, Nat.le_of_ble_eq_true rfl⟩ rfl rfl (Nat.le_of_ble_eq_true rfl) dL_law_507 (mW_f ca hh M _) ?_
  exact j_icmp_eq (tgt := 1063) C dL_law_510 rfl (fun _ => nx _ _ d0 qr hd0) (fun q => absurd qe q)
theorem law_13 (CX : LCx l D ca p e s m below meth c b L xs ts) {n : Nat} {K : Nat → jB} {M : jB} (h : Rel n K M) (hn : n ≤ 800) {g hh : Nat → Nat} {d0 : Drawn} (hd0 : s.drawn.sameBut d0 lw_cs) {i : Int32} (i1 : vp_in (i + 1) L) (i2 : vp_in (i + 2) L) (i3 : vp_in (i + 3) L) (i4 : vp_in (i + 4) L) (nx : ∀ (K' : Nat → jB) (M' : jB) (d1 : Drawn), Rel (n + 1) K' M' → s.drawn.sameBut d1 lw_cs → J l room_1 D 8 (lX p e s m below meth c b d1) 600000 7302250 (fW ca g K' ++ mW ca hh M') [(3, .int i), (2, .ref (hh 0)), (1, .ref (g 0)), (0, .ref b)] [] 1063) : J l room_1 D 8 (lX p e s m below meth c b d0) 600000 7302250 (fW ca g K ++ mW ca hh M) [(3, .int i), (2, .ref (hh 0)), (1, .ref (g 0)), (0, .ref b)] [] 515 := by
  obtain ⟨C, Sx, S0⟩ := CX d0
  obtain ⟨q7, q8, qe, qr⟩ := R_undo h 
  refine j_aload_n C dL_law_515 rfl ?_
  refine j_lawPi C g_L_70 (c_X7_undo l D ca g K  q7) 0 (lq_f ca g hh K M) hcl_X7 ⟨Nat.le_of_ble_eq_true rfl, Nat.le_of_ble_eq_true rfl⟩ ⟨Nat.le_of_ble_eq_true rfl, Nat.le_of_ble_eq_true rfl⟩ rfl rfl (Nat.le_of_ble_eq_true rfl) dL_law_516 (fW_f ca g K _) ?_
  refine j_aload_n C dL_law_519 rfl ?_
  refine j_lawQi C g_L_73 (c_X8_undo l D ca hh M  q8) 150 (lq_m ca g hh (r_X7_undo K).2 M) hcl_X8 ⟨Nat.le_of_ble_eq_true rfl, Nat.le_of_ble_eq_true rfl⟩ ⟨Nat.le_of_ble_eq_true rfl, Nat.le_of_ble_eq_true rfl⟩ rfl rfl (Nat.le_of_ble_eq_true rfl) dL_law_520 (mW_f ca hh M _) ?_
  exact j_icmp_eq (tgt := 1063) C dL_law_523 rfl (fun _ => nx _ _ d0 qr hd0) (fun q => absurd qe q)
theorem law_14 (CX : LCx l D ca p e s m below meth c b L xs ts) {n : Nat} {K : Nat → jB} {M : jB} (h : Rel n K M) (hn : n ≤ 800) {g hh : Nat → Nat} {d0 : Drawn} (hd0 : s.drawn.sameBut d0 lw_cs) {i : Int32} (i1 : vp_in (i + 1) L) (i2 : vp_in (i + 2) L) (i3 : vp_in (i + 3) L) (i4 : vp_in (i + 4) L) (nx : ∀ (K' : Nat → jB) (M' : jB) (d1 : Drawn), Rel (n + 1) K' M' → s.drawn.sameBut d1 lw_cs → J l room_1 D 8 (lX p e s m below meth c b d1) 600000 7302250 (fW ca g K' ++ mW ca hh M') [(3, .int i), (2, .ref (hh 0)), (1, .ref (g 0)), (0, .ref b)] [] 1063) : J l room_1 D 8 (lX p e s m below meth c b d0) 600000 7302250 (fW ca g K ++ mW ca hh M) [(3, .int i), (2, .ref (hh 0)), (1, .ref (g 0)), (0, .ref b)] [] 528 := by
  obtain ⟨C, Sx, S0⟩ := CX d0
  obtain ⟨qe, qr⟩ := R_keep h 
  refine j_aload_n C dL_law_528 rfl ?_
  refine j_lawPi C g_L_74 (c_X7_keep l D ca g K ) 0 (lq_f ca g hh K M) hcl_X7 ⟨Nat.le_of_ble_eq_true rfl, Nat.le_of_ble_eq_true rfl⟩ ⟨Nat.le_of_ble_eq_true rfl, Nat.le_of_ble_eq_true rfl⟩ rfl rfl (Nat.le_of_ble_eq_true rfl) dL_law_529 (fW_f ca g K _) ?_
  refine j_aload_n C dL_law_532 rfl ?_
  refine j_lawQi C g_L_77 (c_X8_keep l D ca hh M ) 150 (lq_m ca g hh (r_X7_keep K).2 M) hcl_X8 ⟨Nat.le_of_ble_eq_true rfl, Nat.le_of_ble_eq_true rfl⟩ ⟨Nat.le_of_ble_eq_true rfl, Nat.le_of_ble_eq_true rfl⟩ rfl rfl (Nat.le_of_ble_eq_true rfl) dL_law_533 (mW_f ca hh M _) ?_
  exact j_icmp_eq (tgt := 1063) C dL_law_536 rfl (fun _ => nx _ _ d0 qr hd0) (fun q => absurd qe q)
theorem law_15 (CX : LCx l D ca p e s m below meth c b L xs ts) {n : Nat} {K : Nat → jB} {M : jB} (h : Rel n K M) (hn : n ≤ 800) {g hh : Nat → Nat} {d0 : Drawn} (hd0 : s.drawn.sameBut d0 lw_cs) {i : Int32} (i1 : vp_in (i + 1) L) (i2 : vp_in (i + 2) L) (i3 : vp_in (i + 3) L) (i4 : vp_in (i + 4) L) (nx : ∀ (K' : Nat → jB) (M' : jB) (d1 : Drawn), Rel (n + 1) K' M' → s.drawn.sameBut d1 lw_cs → J l room_1 D 8 (lX p e s m below meth c b d1) 600000 7302250 (fW ca g K' ++ mW ca hh M') [(3, .int i), (2, .ref (hh 0)), (1, .ref (g 0)), (0, .ref b)] [] 1063) : J l room_1 D 8 (lX p e s m below meth c b d0) 600000 7302250 (fW ca g K ++ mW ca hh M) [(3, .int i), (2, .ref (hh 0)), (1, .ref (g 0)), (0, .ref b)] [] 541 := by
  obtain ⟨C, Sx, S0⟩ := CX d0
  obtain ⟨q7, q8, qe, qr⟩ := R_restore h 
  refine j_aload_n C dL_law_541 rfl ?_
  refine j_lawPi C g_L_78 (c_X7_restore l D ca g K  q7) 0 (lq_f ca g hh K M) hcl_X7 ⟨Nat.le_of_ble_eq_true rfl, Nat.le_of_ble_eq_true rfl⟩ ⟨Nat.le_of_ble_eq_true rfl, Nat.le_of_ble_eq_true rfl⟩ rfl rfl (Nat.le_of_ble_eq_true rfl) dL_law_542 (fW_f ca g K _) ?_
  refine j_aload_n C dL_law_545 rfl ?_
  refine j_lawQi C g_L_81 (c_X8_restore l D ca hh M  q8) 150 (lq_m ca g hh (r_X7_restore K).2 M) hcl_X8 ⟨Nat.le_of_ble_eq_true rfl, Nat.le_of_ble_eq_true rfl⟩ ⟨Nat.le_of_ble_eq_true rfl, Nat.le_of_ble_eq_true rfl⟩ rfl rfl (Nat.le_of_ble_eq_true rfl) dL_law_546 (mW_f ca hh M _) ?_
  exact j_icmp_eq (tgt := 1063) C dL_law_549 rfl (fun _ => nx _ _ d0 qr hd0) (fun q => absurd qe q)
theorem law_16 (CX : LCx l D ca p e s m below meth c b L xs ts) {n : Nat} {K : Nat → jB} {M : jB} (h : Rel n K M) (hn : n ≤ 800) {g hh : Nat → Nat} {d0 : Drawn} (hd0 : s.drawn.sameBut d0 lw_cs) {i : Int32} (i1 : vp_in (i + 1) L) (i2 : vp_in (i + 2) L) (i3 : vp_in (i + 3) L) (i4 : vp_in (i + 4) L) (nx : ∀ (K' : Nat → jB) (M' : jB) (d1 : Drawn), Rel (n + 1) K' M' → s.drawn.sameBut d1 lw_cs → J l room_1 D 8 (lX p e s m below meth c b d1) 600000 7302250 (fW ca g K' ++ mW ca hh M') [(3, .int i), (2, .ref (hh 0)), (1, .ref (g 0)), (0, .ref b)] [] 1063) : J l room_1 D 8 (lX p e s m below meth c b d0) 600000 7302250 (fW ca g K ++ mW ca hh M) [(3, .int i), (2, .ref (hh 0)), (1, .ref (g 0)), (0, .ref b)] [] 554 := by
  obtain ⟨C, Sx, S0⟩ := CX d0
  obtain ⟨q8, qe⟩ := Q_rate h (xs (i + 1).toNatClampNeg)
  have qr := Rel_mono h (Nat.le_succ n)
  refine j_aload_n C dL_law_554 rfl ?_
  refine j_aload_n C dL_law_555 rfl ?_
  refine j_iload_n C dL_law_556 rfl ?_
  refine j_iconst C dL_law_557 1 rfl ?_
  refine j_iadd C dL_law_558 ?_
  refine j_sld C S0 dL_law_559 i1 ?_
  refine j_lawPf C g_L_82 (c_X7_rate l D ca g K (xs (i + 1).toNatClampNeg)) 0 (lq_f ca g hh K M) hcl_X7 ⟨Nat.le_of_ble_eq_true rfl, Nat.le_of_ble_eq_true rfl⟩ ⟨Nat.le_of_ble_eq_true rfl, Nat.le_of_ble_eq_true rfl⟩ rfl rfl (Nat.le_of_ble_eq_true rfl) dL_law_560 (fW_f ca g K _) ?_
  refine j_f2d hd0 C dL_law_563 (fun v1 d1 al1 hd1 => ?_)
  obtain ⟨C1, Sx1, S1⟩ := CX d1
  refine j_dstore C1 [(4, .double v1), (3, .int i), (2, .ref (hh 0)), (1, .ref (g 0)), (0, .ref b)] dL_law_564 (by decide) rfl ?_
  refine j_aload_n C1 dL_law_566 rfl ?_
  refine j_aload_n C1 dL_law_567 rfl ?_
  refine j_iload_n C1 dL_law_568 rfl ?_
  refine j_iconst C1 dL_law_569 1 rfl ?_
  refine j_iadd C1 dL_law_570 ?_
  refine j_sld C1 S1 dL_law_571 i1 ?_
  refine j_lawQf C1 g_L_86 (c_X8_rate l D ca hh M (xs (i + 1).toNatClampNeg) q8) 150 (lq_m ca g hh K M) hcl_X8 ⟨Nat.le_of_ble_eq_true rfl, Nat.le_of_ble_eq_true rfl⟩ ⟨Nat.le_of_ble_eq_true rfl, Nat.le_of_ble_eq_true rfl⟩ rfl rfl (Nat.le_of_ble_eq_true rfl) dL_law_572 (mW_f ca hh M _) ?_
  refine j_f2d hd1 C1 dL_law_575 (fun v2 d2 al2 hd2 => ?_)
  obtain ⟨C2, Sx2, S2⟩ := CX d2
  refine j_dstore C2 [(6, .double v2), (4, .double v1), (3, .int i), (2, .ref (hh 0)), (1, .ref (g 0)), (0, .ref b)] dL_law_576 (by decide) rfl ?_
  refine j_dload C2 dL_law_578 rfl ?_
  refine j_dload C2 dL_law_580 rfl ?_
  refine j_dcmp C2 dL_law_582 ?_
  rw [qe] at al1
  have dt := dcmp_two al1 al2
  have fin : J l room_1 D 8 (lX p e s m below meth c b d2) 600000 7302250 (fW ca g K ++ mW ca hh M) [(6, .double v2), (4, .double v1), (3, .int i), (2, .ref (hh 0)), (1, .ref (g 0)), (0, .ref b)] [] 604 := j_goto (tgt := 1063) C2 dL_law_604 rfl (j_lv [(3, .int i), (2, .ref (hh 0)), (1, .ref (g 0)), (0, .ref b)] rfl (nx _ _ d2 qr hd2))
  refine j_if_eq (tgt := 604) C2 dL_law_583 rfl (fun _ => fin) (fun z1 => ?_)
  have z2 := dt.resolve_left z1
  refine j_dload C2 dL_law_586 rfl ?_
  refine j_dload C2 dL_law_588 rfl ?_
  refine j_dcmp C2 dL_law_590 ?_
  refine j_if_eq (tgt := 602) C2 dL_law_591 rfl (fun z3 => absurd z3 z2.1) (fun _ => ?_)
  refine j_dload C2 dL_law_594 rfl ?_
  refine j_dload C2 dL_law_596 rfl ?_
  refine j_dcmp C2 dL_law_598 ?_
  exact j_if_ne (tgt := 604) C2 dL_law_599 rfl (fun _ => fin) (fun z4 => absurd z4 z2.2)
theorem law_17 (CX : LCx l D ca p e s m below meth c b L xs ts) {n : Nat} {K : Nat → jB} {M : jB} (h : Rel n K M) (hn : n ≤ 800) {g hh : Nat → Nat} {d0 : Drawn} (hd0 : s.drawn.sameBut d0 lw_cs) {i : Int32} (i1 : vp_in (i + 1) L) (i2 : vp_in (i + 2) L) (i3 : vp_in (i + 3) L) (i4 : vp_in (i + 4) L) (nx : ∀ (K' : Nat → jB) (M' : jB) (d1 : Drawn), Rel (n + 1) K' M' → s.drawn.sameBut d1 lw_cs → J l room_1 D 8 (lX p e s m below meth c b d1) 600000 7302250 (fW ca g K' ++ mW ca hh M') [(3, .int i), (2, .ref (hh 0)), (1, .ref (g 0)), (0, .ref b)] [] 1063) : J l room_1 D 8 (lX p e s m below meth c b d0) 600000 7302250 (fW ca g K ++ mW ca hh M) [(3, .int i), (2, .ref (hh 0)), (1, .ref (g 0)), (0, .ref b)] [] 607 := by
  obtain ⟨C, Sx, S0⟩ := CX d0
  obtain ⟨q8, qe⟩ := Q_number h (xs (i + 1).toNatClampNeg)
  have qr := Rel_mono h (Nat.le_succ n)
  refine j_aload_n C dL_law_607 rfl ?_
  refine j_aload_n C dL_law_608 rfl ?_
  refine j_iload_n C dL_law_609 rfl ?_
  refine j_iconst C dL_law_610 1 rfl ?_
  refine j_iadd C dL_law_611 ?_
  refine j_sld C S0 dL_law_612 i1 ?_
  refine j_lawPi C g_L_87 (c_X7_number l D ca g K (xs (i + 1).toNatClampNeg)) 0 (lq_f ca g hh K M) hcl_X7 ⟨Nat.le_of_ble_eq_true rfl, Nat.le_of_ble_eq_true rfl⟩ ⟨Nat.le_of_ble_eq_true rfl, Nat.le_of_ble_eq_true rfl⟩ rfl rfl (Nat.le_of_ble_eq_true rfl) dL_law_613 (fW_f ca g K _) ?_
  refine j_aload_n C dL_law_616 rfl ?_
  refine j_aload_n C dL_law_617 rfl ?_
  refine j_iload_n C dL_law_618 rfl ?_
  refine j_iconst C dL_law_619 1 rfl ?_
  refine j_iadd C dL_law_620 ?_
  refine j_sld C S0 dL_law_621 i1 ?_
  refine j_lawQi C g_L_90 (c_X8_number_ l D ca hh M (xs (i + 1).toNatClampNeg) q8) 150 (lq_m ca g hh K M) hcl_X8 ⟨Nat.le_of_ble_eq_true rfl, Nat.le_of_ble_eq_true rfl⟩ ⟨Nat.le_of_ble_eq_true rfl, Nat.le_of_ble_eq_true rfl⟩ rfl rfl (Nat.le_of_ble_eq_true rfl) dL_law_622 (mW_f ca hh M _) ?_
  exact j_icmp_eq (tgt := 1063) C dL_law_625 rfl (fun _ => nx _ _ d0 qr hd0) (fun q => absurd qe q)
theorem law_18 (CX : LCx l D ca p e s m below meth c b L xs ts) {n : Nat} {K : Nat → jB} {M : jB} (h : Rel n K M) (hn : n ≤ 800) {g hh : Nat → Nat} {d0 : Drawn} (hd0 : s.drawn.sameBut d0 lw_cs) {i : Int32} (i1 : vp_in (i + 1) L) (i2 : vp_in (i + 2) L) (i3 : vp_in (i + 3) L) (i4 : vp_in (i + 4) L) (nx : ∀ (K' : Nat → jB) (M' : jB) (d1 : Drawn), Rel (n + 1) K' M' → s.drawn.sameBut d1 lw_cs → J l room_1 D 8 (lX p e s m below meth c b d1) 600000 7302250 (fW ca g K' ++ mW ca hh M') [(3, .int i), (2, .ref (hh 0)), (1, .ref (g 0)), (0, .ref b)] [] 1063) : J l room_1 D 8 (lX p e s m below meth c b d0) 600000 7302250 (fW ca g K ++ mW ca hh M) [(3, .int i), (2, .ref (hh 0)), (1, .ref (g 0)), (0, .ref b)] [] 630 := by
  obtain ⟨C, Sx, S0⟩ := CX d0
  obtain ⟨q8, qe⟩ := Q_member h (xs (i + 1).toNatClampNeg) (xs (i + 2).toNatClampNeg)
  have qr := Rel_mono h (Nat.le_succ n)
  refine j_aload_n C dL_law_630 rfl ?_
  refine j_aload_n C dL_law_631 rfl ?_
  refine j_iload_n C dL_law_632 rfl ?_
  refine j_iconst C dL_law_633 1 rfl ?_
  refine j_iadd C dL_law_634 ?_
  refine j_sld C S0 dL_law_635 i1 ?_
  refine j_aload_n C dL_law_636 rfl ?_
  refine j_iload_n C dL_law_637 rfl ?_
  refine j_iconst C dL_law_638 2 rfl ?_
  refine j_iadd C dL_law_639 ?_
  refine j_sld C S0 dL_law_640 i2 ?_
  refine j_lawPi C g_L_91 (c_X7_member l D ca g K (xs (i + 1).toNatClampNeg) (xs (i + 2).toNatClampNeg)) 0 (lq_f ca g hh K M) hcl_X7 ⟨Nat.le_of_ble_eq_true rfl, Nat.le_of_ble_eq_true rfl⟩ ⟨Nat.le_of_ble_eq_true rfl, Nat.le_of_ble_eq_true rfl⟩ rfl rfl (Nat.le_of_ble_eq_true rfl) dL_law_641 (fW_f ca g K _) ?_
  refine j_aload_n C dL_law_644 rfl ?_
  refine j_aload_n C dL_law_645 rfl ?_
  refine j_iload_n C dL_law_646 rfl ?_
  refine j_iconst C dL_law_647 1 rfl ?_
  refine j_iadd C dL_law_648 ?_
  refine j_sld C S0 dL_law_649 i1 ?_
  refine j_aload_n C dL_law_650 rfl ?_
  refine j_iload_n C dL_law_651 rfl ?_
  refine j_iconst C dL_law_652 2 rfl ?_
  refine j_iadd C dL_law_653 ?_
  refine j_sld C S0 dL_law_654 i2 ?_
  refine j_lawQi C g_L_94 (c_X8_member l D ca hh M (xs (i + 1).toNatClampNeg) (xs (i + 2).toNatClampNeg) q8) 150 (lq_m ca g hh K M) hcl_X8 ⟨Nat.le_of_ble_eq_true rfl, Nat.le_of_ble_eq_true rfl⟩ ⟨Nat.le_of_ble_eq_true rfl, Nat.le_of_ble_eq_true rfl⟩ rfl rfl (Nat.le_of_ble_eq_true rfl) dL_law_655 (mW_f ca hh M _) ?_
  exact j_icmp_eq (tgt := 1063) C dL_law_658 rfl (fun _ => nx _ _ d0 qr hd0) (fun q => absurd qe q)
theorem law_19 (CX : LCx l D ca p e s m below meth c b L xs ts) {n : Nat} {K : Nat → jB} {M : jB} (h : Rel n K M) (hn : n ≤ 800) {g hh : Nat → Nat} {d0 : Drawn} (hd0 : s.drawn.sameBut d0 lw_cs) {i : Int32} (i1 : vp_in (i + 1) L) (i2 : vp_in (i + 2) L) (i3 : vp_in (i + 3) L) (i4 : vp_in (i + 4) L) (nx : ∀ (K' : Nat → jB) (M' : jB) (d1 : Drawn), Rel (n + 1) K' M' → s.drawn.sameBut d1 lw_cs → J l room_1 D 8 (lX p e s m below meth c b d1) 600000 7302250 (fW ca g K' ++ mW ca hh M') [(3, .int i), (2, .ref (hh 0)), (1, .ref (g 0)), (0, .ref b)] [] 1063) : J l room_1 D 8 (lX p e s m below meth c b d0) 600000 7302250 (fW ca g K ++ mW ca hh M) [(3, .int i), (2, .ref (hh 0)), (1, .ref (g 0)), (0, .ref b)] [] 663 := by
  obtain ⟨C, Sx, S0⟩ := CX d0
  obtain ⟨q8, qe⟩ := Q_client h (xs (i + 1).toNatClampNeg) (xs (i + 2).toNatClampNeg)
  have qr := Rel_mono h (Nat.le_succ n)
  refine j_aload_n C dL_law_663 rfl ?_
  refine j_aload_n C dL_law_664 rfl ?_
  refine j_iload_n C dL_law_665 rfl ?_
  refine j_iconst C dL_law_666 1 rfl ?_
  refine j_iadd C dL_law_667 ?_
  refine j_sld C S0 dL_law_668 i1 ?_
  refine j_aload_n C dL_law_669 rfl ?_
  refine j_iload_n C dL_law_670 rfl ?_
  refine j_iconst C dL_law_671 2 rfl ?_
  refine j_iadd C dL_law_672 ?_
  refine j_sld C S0 dL_law_673 i2 ?_
  refine j_lawPi C g_L_95 (c_X7_client l D ca g K (xs (i + 1).toNatClampNeg) (xs (i + 2).toNatClampNeg)) 0 (lq_f ca g hh K M) hcl_X7 ⟨Nat.le_of_ble_eq_true rfl, Nat.le_of_ble_eq_true rfl⟩ ⟨Nat.le_of_ble_eq_true rfl, Nat.le_of_ble_eq_true rfl⟩ rfl rfl (Nat.le_of_ble_eq_true rfl) dL_law_674 (fW_f ca g K _) ?_
  refine j_aload_n C dL_law_677 rfl ?_
  refine j_aload_n C dL_law_678 rfl ?_
  refine j_iload_n C dL_law_679 rfl ?_
  refine j_iconst C dL_law_680 1 rfl ?_
  refine j_iadd C dL_law_681 ?_
  refine j_sld C S0 dL_law_682 i1 ?_
  refine j_aload_n C dL_law_683 rfl ?_
  refine j_iload_n C dL_law_684 rfl ?_
  refine j_iconst C dL_law_685 2 rfl ?_
  refine j_iadd C dL_law_686 ?_
  refine j_sld C S0 dL_law_687 i2 ?_
  refine j_lawQi C g_L_98 (c_X8_client l D ca hh M (xs (i + 1).toNatClampNeg) (xs (i + 2).toNatClampNeg) q8) 150 (lq_m ca g hh K M) hcl_X8 ⟨Nat.le_of_ble_eq_true rfl, Nat.le_of_ble_eq_true rfl⟩ ⟨Nat.le_of_ble_eq_true rfl, Nat.le_of_ble_eq_true rfl⟩ rfl rfl (Nat.le_of_ble_eq_true rfl) dL_law_688 (mW_f ca hh M _) ?_
  exact j_icmp_eq (tgt := 1063) C dL_law_691 rfl (fun _ => nx _ _ d0 qr hd0) (fun q => absurd qe q)
theorem law_20 (CX : LCx l D ca p e s m below meth c b L xs ts) {n : Nat} {K : Nat → jB} {M : jB} (h : Rel n K M) (hn : n ≤ 800) {g hh : Nat → Nat} {d0 : Drawn} (hd0 : s.drawn.sameBut d0 lw_cs) {i : Int32} (i1 : vp_in (i + 1) L) (i2 : vp_in (i + 2) L) (i3 : vp_in (i + 3) L) (i4 : vp_in (i + 4) L) (nx : ∀ (K' : Nat → jB) (M' : jB) (d1 : Drawn), Rel (n + 1) K' M' → s.drawn.sameBut d1 lw_cs → J l room_1 D 8 (lX p e s m below meth c b d1) 600000 7302250 (fW ca g K' ++ mW ca hh M') [(3, .int i), (2, .ref (hh 0)), (1, .ref (g 0)), (0, .ref b)] [] 1063) : J l room_1 D 8 (lX p e s m below meth c b d0) 600000 7302250 (fW ca g K ++ mW ca hh M) [(3, .int i), (2, .ref (hh 0)), (1, .ref (g 0)), (0, .ref b)] [] 696 := by
  obtain ⟨C, Sx, S0⟩ := CX d0
  obtain ⟨q7, q8, qe⟩ := Q_risk h (by omega) (xs (i + 1).toNatClampNeg)
  have qr := Rel_mono h (Nat.le_succ n)
  refine j_aload_n C dL_law_696 rfl ?_
  refine j_aload_n C dL_law_697 rfl ?_
  refine j_iload_n C dL_law_698 rfl ?_
  refine j_iconst C dL_law_699 1 rfl ?_
  refine j_iadd C dL_law_700 ?_
  refine j_sld C S0 dL_law_701 i1 ?_
  refine j_lawPf C g_L_99 (c_X7_risk l D ca g K (xs (i + 1).toNatClampNeg) q7) 0 (lq_f ca g hh K M) hcl_X7 ⟨Nat.le_of_ble_eq_true rfl, Nat.le_of_ble_eq_true rfl⟩ ⟨Nat.le_of_ble_eq_true rfl, Nat.le_of_ble_eq_true rfl⟩ rfl rfl (Nat.le_of_ble_eq_true rfl) dL_law_702 (fW_f ca g K _) ?_
  refine j_f2d hd0 C dL_law_705 (fun v1 d1 al1 hd1 => ?_)
  obtain ⟨C1, Sx1, S1⟩ := CX d1
  refine j_dstore C1 [(4, .double v1), (3, .int i), (2, .ref (hh 0)), (1, .ref (g 0)), (0, .ref b)] dL_law_706 (by decide) rfl ?_
  refine j_aload_n C1 dL_law_708 rfl ?_
  refine j_aload_n C1 dL_law_709 rfl ?_
  refine j_iload_n C1 dL_law_710 rfl ?_
  refine j_iconst C1 dL_law_711 1 rfl ?_
  refine j_iadd C1 dL_law_712 ?_
  refine j_sld C1 S1 dL_law_713 i1 ?_
  refine j_lawQf C1 g_L_102 (c_X8_risk l D ca hh M (xs (i + 1).toNatClampNeg) q8) 150 (lq_m ca g hh K M) hcl_X8 ⟨Nat.le_of_ble_eq_true rfl, Nat.le_of_ble_eq_true rfl⟩ ⟨Nat.le_of_ble_eq_true rfl, Nat.le_of_ble_eq_true rfl⟩ rfl rfl (Nat.le_of_ble_eq_true rfl) dL_law_714 (mW_f ca hh M _) ?_
  refine j_f2d hd1 C1 dL_law_717 (fun v2 d2 al2 hd2 => ?_)
  obtain ⟨C2, Sx2, S2⟩ := CX d2
  refine j_dstore C2 [(6, .double v2), (4, .double v1), (3, .int i), (2, .ref (hh 0)), (1, .ref (g 0)), (0, .ref b)] dL_law_718 (by decide) rfl ?_
  refine j_dload C2 dL_law_720 rfl ?_
  refine j_dload C2 dL_law_722 rfl ?_
  refine j_dcmp C2 dL_law_724 ?_
  rw [qe] at al1
  have dt := dcmp_two al1 al2
  have fin : J l room_1 D 8 (lX p e s m below meth c b d2) 600000 7302250 (fW ca g K ++ mW ca hh M) [(6, .double v2), (4, .double v1), (3, .int i), (2, .ref (hh 0)), (1, .ref (g 0)), (0, .ref b)] [] 746 := j_goto (tgt := 1063) C2 dL_law_746 rfl (j_lv [(3, .int i), (2, .ref (hh 0)), (1, .ref (g 0)), (0, .ref b)] rfl (nx _ _ d2 qr hd2))
  refine j_if_eq (tgt := 746) C2 dL_law_725 rfl (fun _ => fin) (fun z1 => ?_)
  have z2 := dt.resolve_left z1
  refine j_dload C2 dL_law_728 rfl ?_
  refine j_dload C2 dL_law_730 rfl ?_
  refine j_dcmp C2 dL_law_732 ?_
  refine j_if_eq (tgt := 744) C2 dL_law_733 rfl (fun z3 => absurd z3 z2.1) (fun _ => ?_)
  refine j_dload C2 dL_law_736 rfl ?_
  refine j_dload C2 dL_law_738 rfl ?_
  refine j_dcmp C2 dL_law_740 ?_
  exact j_if_ne (tgt := 746) C2 dL_law_741 rfl (fun _ => fin) (fun z4 => absurd z4 z2.2)
theorem law_21 (CX : LCx l D ca p e s m below meth c b L xs ts) {n : Nat} {K : Nat → jB} {M : jB} (h : Rel n K M) (hn : n ≤ 800) {g hh : Nat → Nat} {d0 : Drawn} (hd0 : s.drawn.sameBut d0 lw_cs) {i : Int32} (i1 : vp_in (i + 1) L) (i2 : vp_in (i + 2) L) (i3 : vp_in (i + 3) L) (i4 : vp_in (i + 4) L) (nx : ∀ (K' : Nat → jB) (M' : jB) (d1 : Drawn), Rel (n + 1) K' M' → s.drawn.sameBut d1 lw_cs → J l room_1 D 8 (lX p e s m below meth c b d1) 600000 7302250 (fW ca g K' ++ mW ca hh M') [(3, .int i), (2, .ref (hh 0)), (1, .ref (g 0)), (0, .ref b)] [] 1063) : J l room_1 D 8 (lX p e s m below meth c b d0) 600000 7302250 (fW ca g K ++ mW ca hh M) [(3, .int i), (2, .ref (hh 0)), (1, .ref (g 0)), (0, .ref b)] [] 749 := by
  obtain ⟨C, Sx, S0⟩ := CX d0
  obtain ⟨q7, q8, qe⟩ := Q_lateness h (xs (i + 1).toNatClampNeg)
  have qr := Rel_mono h (Nat.le_succ n)
  refine j_aload_n C dL_law_749 rfl ?_
  refine j_aload_n C dL_law_750 rfl ?_
  refine j_iload_n C dL_law_751 rfl ?_
  refine j_iconst C dL_law_752 1 rfl ?_
  refine j_iadd C dL_law_753 ?_
  refine j_sld C S0 dL_law_754 i1 ?_
  refine j_lawPf C g_L_103 (c_X7_lateness l D ca g K (xs (i + 1).toNatClampNeg) q7) 0 (lq_f ca g hh K M) hcl_X7 ⟨Nat.le_of_ble_eq_true rfl, Nat.le_of_ble_eq_true rfl⟩ ⟨Nat.le_of_ble_eq_true rfl, Nat.le_of_ble_eq_true rfl⟩ rfl rfl (Nat.le_of_ble_eq_true rfl) dL_law_755 (fW_f ca g K _) ?_
  refine j_f2d hd0 C dL_law_758 (fun v1 d1 al1 hd1 => ?_)
  obtain ⟨C1, Sx1, S1⟩ := CX d1
  refine j_dstore C1 [(4, .double v1), (3, .int i), (2, .ref (hh 0)), (1, .ref (g 0)), (0, .ref b)] dL_law_759 (by decide) rfl ?_
  refine j_aload_n C1 dL_law_761 rfl ?_
  refine j_aload_n C1 dL_law_762 rfl ?_
  refine j_iload_n C1 dL_law_763 rfl ?_
  refine j_iconst C1 dL_law_764 1 rfl ?_
  refine j_iadd C1 dL_law_765 ?_
  refine j_sld C1 S1 dL_law_766 i1 ?_
  refine j_lawQf C1 g_L_106 (c_X8_lateness l D ca hh M (xs (i + 1).toNatClampNeg) q8) 150 (lq_m ca g hh K M) hcl_X8 ⟨Nat.le_of_ble_eq_true rfl, Nat.le_of_ble_eq_true rfl⟩ ⟨Nat.le_of_ble_eq_true rfl, Nat.le_of_ble_eq_true rfl⟩ rfl rfl (Nat.le_of_ble_eq_true rfl) dL_law_767 (mW_f ca hh M _) ?_
  refine j_f2d hd1 C1 dL_law_770 (fun v2 d2 al2 hd2 => ?_)
  obtain ⟨C2, Sx2, S2⟩ := CX d2
  refine j_dstore C2 [(6, .double v2), (4, .double v1), (3, .int i), (2, .ref (hh 0)), (1, .ref (g 0)), (0, .ref b)] dL_law_771 (by decide) rfl ?_
  refine j_dload C2 dL_law_773 rfl ?_
  refine j_dload C2 dL_law_775 rfl ?_
  refine j_dcmp C2 dL_law_777 ?_
  rw [qe] at al1
  have dt := dcmp_two al1 al2
  have fin : J l room_1 D 8 (lX p e s m below meth c b d2) 600000 7302250 (fW ca g K ++ mW ca hh M) [(6, .double v2), (4, .double v1), (3, .int i), (2, .ref (hh 0)), (1, .ref (g 0)), (0, .ref b)] [] 799 := j_goto (tgt := 1063) C2 dL_law_799 rfl (j_lv [(3, .int i), (2, .ref (hh 0)), (1, .ref (g 0)), (0, .ref b)] rfl (nx _ _ d2 qr hd2))
  refine j_if_eq (tgt := 799) C2 dL_law_778 rfl (fun _ => fin) (fun z1 => ?_)
  have z2 := dt.resolve_left z1
  refine j_dload C2 dL_law_781 rfl ?_
  refine j_dload C2 dL_law_783 rfl ?_
  refine j_dcmp C2 dL_law_785 ?_
  refine j_if_eq (tgt := 797) C2 dL_law_786 rfl (fun z3 => absurd z3 z2.1) (fun _ => ?_)
  refine j_dload C2 dL_law_789 rfl ?_
  refine j_dload C2 dL_law_791 rfl ?_
  refine j_dcmp C2 dL_law_793 ?_
  exact j_if_ne (tgt := 799) C2 dL_law_794 rfl (fun _ => fin) (fun z4 => absurd z4 z2.2)
theorem law_22 (CX : LCx l D ca p e s m below meth c b L xs ts) {n : Nat} {K : Nat → jB} {M : jB} (h : Rel n K M) (hn : n ≤ 800) {g hh : Nat → Nat} {d0 : Drawn} (hd0 : s.drawn.sameBut d0 lw_cs) {i : Int32} (i1 : vp_in (i + 1) L) (i2 : vp_in (i + 2) L) (i3 : vp_in (i + 3) L) (i4 : vp_in (i + 4) L) (nx : ∀ (K' : Nat → jB) (M' : jB) (d1 : Drawn), Rel (n + 1) K' M' → s.drawn.sameBut d1 lw_cs → J l room_1 D 8 (lX p e s m below meth c b d1) 600000 7302250 (fW ca g K' ++ mW ca hh M') [(3, .int i), (2, .ref (hh 0)), (1, .ref (g 0)), (0, .ref b)] [] 1063) : J l room_1 D 8 (lX p e s m below meth c b d0) 600000 7302250 (fW ca g K ++ mW ca hh M) [(3, .int i), (2, .ref (hh 0)), (1, .ref (g 0)), (0, .ref b)] [] 802 := by
  obtain ⟨C, Sx, S0⟩ := CX d0
  obtain ⟨q7, q8, qe⟩ := Q_invoice h (by omega) (xs (i + 1).toNatClampNeg) (xs (i + 2).toNatClampNeg)
  have qr := Rel_mono h (Nat.le_succ n)
  refine j_aload_n C dL_law_802 rfl ?_
  refine j_aload_n C dL_law_803 rfl ?_
  refine j_iload_n C dL_law_804 rfl ?_
  refine j_iconst C dL_law_805 1 rfl ?_
  refine j_iadd C dL_law_806 ?_
  refine j_sld C S0 dL_law_807 i1 ?_
  refine j_aload_n C dL_law_808 rfl ?_
  refine j_iload_n C dL_law_809 rfl ?_
  refine j_iconst C dL_law_810 2 rfl ?_
  refine j_iadd C dL_law_811 ?_
  refine j_sld C S0 dL_law_812 i2 ?_
  refine j_lawPi C g_L_107 (c_X7_invoice l D ca g K (xs (i + 1).toNatClampNeg) (xs (i + 2).toNatClampNeg) q7) 0 (lq_f ca g hh K M) hcl_X7 ⟨Nat.le_of_ble_eq_true rfl, Nat.le_of_ble_eq_true rfl⟩ ⟨Nat.le_of_ble_eq_true rfl, Nat.le_of_ble_eq_true rfl⟩ rfl rfl (Nat.le_of_ble_eq_true rfl) dL_law_813 (fW_f ca g K _) ?_
  refine j_aload_n C dL_law_816 rfl ?_
  refine j_aload_n C dL_law_817 rfl ?_
  refine j_iload_n C dL_law_818 rfl ?_
  refine j_iconst C dL_law_819 1 rfl ?_
  refine j_iadd C dL_law_820 ?_
  refine j_sld C S0 dL_law_821 i1 ?_
  refine j_aload_n C dL_law_822 rfl ?_
  refine j_iload_n C dL_law_823 rfl ?_
  refine j_iconst C dL_law_824 2 rfl ?_
  refine j_iadd C dL_law_825 ?_
  refine j_sld C S0 dL_law_826 i2 ?_
  refine j_lawQi C g_L_110 (c_X8_invoice l D ca hh M (xs (i + 1).toNatClampNeg) (xs (i + 2).toNatClampNeg) q8) 150 (lq_m ca g hh K M) hcl_X8 ⟨Nat.le_of_ble_eq_true rfl, Nat.le_of_ble_eq_true rfl⟩ ⟨Nat.le_of_ble_eq_true rfl, Nat.le_of_ble_eq_true rfl⟩ rfl rfl (Nat.le_of_ble_eq_true rfl) dL_law_827 (mW_f ca hh M _) ?_
  exact j_icmp_eq (tgt := 1063) C dL_law_830 rfl (fun _ => nx _ _ d0 qr hd0) (fun q => absurd qe q)
theorem law_23 (CX : LCx l D ca p e s m below meth c b L xs ts) {n : Nat} {K : Nat → jB} {M : jB} (h : Rel n K M) (hn : n ≤ 800) {g hh : Nat → Nat} {d0 : Drawn} (hd0 : s.drawn.sameBut d0 lw_cs) {i : Int32} (i1 : vp_in (i + 1) L) (i2 : vp_in (i + 2) L) (i3 : vp_in (i + 3) L) (i4 : vp_in (i + 4) L) (nx : ∀ (K' : Nat → jB) (M' : jB) (d1 : Drawn), Rel (n + 1) K' M' → s.drawn.sameBut d1 lw_cs → J l room_1 D 8 (lX p e s m below meth c b d1) 600000 7302250 (fW ca g K' ++ mW ca hh M') [(3, .int i), (2, .ref (hh 0)), (1, .ref (g 0)), (0, .ref b)] [] 1063) : J l room_1 D 8 (lX p e s m below meth c b d0) 600000 7302250 (fW ca g K ++ mW ca hh M) [(3, .int i), (2, .ref (hh 0)), (1, .ref (g 0)), (0, .ref b)] [] 835 := by
  obtain ⟨C, Sx, S0⟩ := CX d0
  obtain ⟨q7, q8, qe⟩ := Q_rateIn h (by omega) (xs (i + 1).toNatClampNeg) (xs (i + 2).toNatClampNeg)
  have qr := Rel_mono h (Nat.le_succ n)
  refine j_aload_n C dL_law_835 rfl ?_
  refine j_aload_n C dL_law_836 rfl ?_
  refine j_iload_n C dL_law_837 rfl ?_
  refine j_iconst C dL_law_838 1 rfl ?_
  refine j_iadd C dL_law_839 ?_
  refine j_sld C S0 dL_law_840 i1 ?_
  refine j_aload_n C dL_law_841 rfl ?_
  refine j_iload_n C dL_law_842 rfl ?_
  refine j_iconst C dL_law_843 2 rfl ?_
  refine j_iadd C dL_law_844 ?_
  refine j_sld C S0 dL_law_845 i2 ?_
  refine j_lawPf C g_L_111 (c_X7_rateIn l D ca g K (xs (i + 1).toNatClampNeg) (xs (i + 2).toNatClampNeg) q7) 0 (lq_f ca g hh K M) hcl_X7 ⟨Nat.le_of_ble_eq_true rfl, Nat.le_of_ble_eq_true rfl⟩ ⟨Nat.le_of_ble_eq_true rfl, Nat.le_of_ble_eq_true rfl⟩ rfl rfl (Nat.le_of_ble_eq_true rfl) dL_law_846 (fW_f ca g K _) ?_
  refine j_f2d hd0 C dL_law_849 (fun v1 d1 al1 hd1 => ?_)
  obtain ⟨C1, Sx1, S1⟩ := CX d1
  refine j_dstore C1 [(4, .double v1), (3, .int i), (2, .ref (hh 0)), (1, .ref (g 0)), (0, .ref b)] dL_law_850 (by decide) rfl ?_
  refine j_aload_n C1 dL_law_852 rfl ?_
  refine j_aload_n C1 dL_law_853 rfl ?_
  refine j_iload_n C1 dL_law_854 rfl ?_
  refine j_iconst C1 dL_law_855 1 rfl ?_
  refine j_iadd C1 dL_law_856 ?_
  refine j_sld C1 S1 dL_law_857 i1 ?_
  refine j_aload_n C1 dL_law_858 rfl ?_
  refine j_iload_n C1 dL_law_859 rfl ?_
  refine j_iconst C1 dL_law_860 2 rfl ?_
  refine j_iadd C1 dL_law_861 ?_
  refine j_sld C1 S1 dL_law_862 i2 ?_
  refine j_lawQf C1 g_L_115 (c_X8_rateIn l D ca hh M (xs (i + 1).toNatClampNeg) (xs (i + 2).toNatClampNeg) q8) 150 (lq_m ca g hh K M) hcl_X8 ⟨Nat.le_of_ble_eq_true rfl, Nat.le_of_ble_eq_true rfl⟩ ⟨Nat.le_of_ble_eq_true rfl, Nat.le_of_ble_eq_true rfl⟩ rfl rfl (Nat.le_of_ble_eq_true rfl) dL_law_863 (mW_f ca hh M _) ?_
  refine j_f2d hd1 C1 dL_law_866 (fun v2 d2 al2 hd2 => ?_)
  obtain ⟨C2, Sx2, S2⟩ := CX d2
  refine j_dstore C2 [(6, .double v2), (4, .double v1), (3, .int i), (2, .ref (hh 0)), (1, .ref (g 0)), (0, .ref b)] dL_law_867 (by decide) rfl ?_
  refine j_dload C2 dL_law_869 rfl ?_
  refine j_dload C2 dL_law_871 rfl ?_
  refine j_dcmp C2 dL_law_873 ?_
  rw [qe] at al1
  have dt := dcmp_two al1 al2
  have fin : J l room_1 D 8 (lX p e s m below meth c b d2) 600000 7302250 (fW ca g K ++ mW ca hh M) [(6, .double v2), (4, .double v1), (3, .int i), (2, .ref (hh 0)), (1, .ref (g 0)), (0, .ref b)] [] 895 := j_goto (tgt := 1063) C2 dL_law_895 rfl (j_lv [(3, .int i), (2, .ref (hh 0)), (1, .ref (g 0)), (0, .ref b)] rfl (nx _ _ d2 qr hd2))
  refine j_if_eq (tgt := 895) C2 dL_law_874 rfl (fun _ => fin) (fun z1 => ?_)
  have z2 := dt.resolve_left z1
  refine j_dload C2 dL_law_877 rfl ?_
  refine j_dload C2 dL_law_879 rfl ?_
  refine j_dcmp C2 dL_law_881 ?_
  refine j_if_eq (tgt := 893) C2 dL_law_882 rfl (fun z3 => absurd z3 z2.1) (fun _ => ?_)
  refine j_dload C2 dL_law_885 rfl ?_
  refine j_dload C2 dL_law_887 rfl ?_
  refine j_dcmp C2 dL_law_889 ?_
  exact j_if_ne (tgt := 895) C2 dL_law_890 rfl (fun _ => fin) (fun z4 => absurd z4 z2.2)
theorem law_24 (CX : LCx l D ca p e s m below meth c b L xs ts) {n : Nat} {K : Nat → jB} {M : jB} (h : Rel n K M) (hn : n ≤ 800) {g hh : Nat → Nat} {d0 : Drawn} (hd0 : s.drawn.sameBut d0 lw_cs) {i : Int32} (i1 : vp_in (i + 1) L) (i2 : vp_in (i + 2) L) (i3 : vp_in (i + 3) L) (i4 : vp_in (i + 4) L) (nx : ∀ (K' : Nat → jB) (M' : jB) (d1 : Drawn), Rel (n + 1) K' M' → s.drawn.sameBut d1 lw_cs → J l room_1 D 8 (lX p e s m below meth c b d1) 600000 7302250 (fW ca g K' ++ mW ca hh M') [(3, .int i), (2, .ref (hh 0)), (1, .ref (g 0)), (0, .ref b)] [] 1063) : J l room_1 D 8 (lX p e s m below meth c b d0) 600000 7302250 (fW ca g K ++ mW ca hh M) [(3, .int i), (2, .ref (hh 0)), (1, .ref (g 0)), (0, .ref b)] [] 898 := by
  obtain ⟨C, Sx, S0⟩ := CX d0
  obtain ⟨q7, q8, qe⟩ := Q_worth h (by omega) (xs (i + 1).toNatClampNeg)
  have qr := Rel_mono h (Nat.le_succ n)
  refine j_aload_n C dL_law_898 rfl ?_
  refine j_aload_n C dL_law_899 rfl ?_
  refine j_iload_n C dL_law_900 rfl ?_
  refine j_iconst C dL_law_901 1 rfl ?_
  refine j_iadd C dL_law_902 ?_
  refine j_sld C S0 dL_law_903 i1 ?_
  refine j_lawPf C g_L_116 (c_X7_worth l D ca g K (xs (i + 1).toNatClampNeg) q7) 0 (lq_f ca g hh K M) hcl_X7 ⟨Nat.le_of_ble_eq_true rfl, Nat.le_of_ble_eq_true rfl⟩ ⟨Nat.le_of_ble_eq_true rfl, Nat.le_of_ble_eq_true rfl⟩ rfl rfl (Nat.le_of_ble_eq_true rfl) dL_law_904 (fW_f ca g K _) ?_
  refine j_f2d hd0 C dL_law_907 (fun v1 d1 al1 hd1 => ?_)
  obtain ⟨C1, Sx1, S1⟩ := CX d1
  refine j_dstore C1 [(4, .double v1), (3, .int i), (2, .ref (hh 0)), (1, .ref (g 0)), (0, .ref b)] dL_law_908 (by decide) rfl ?_
  refine j_aload_n C1 dL_law_910 rfl ?_
  refine j_aload_n C1 dL_law_911 rfl ?_
  refine j_iload_n C1 dL_law_912 rfl ?_
  refine j_iconst C1 dL_law_913 1 rfl ?_
  refine j_iadd C1 dL_law_914 ?_
  refine j_sld C1 S1 dL_law_915 i1 ?_
  refine j_lawQf C1 g_L_119 (c_X8_worth l D ca hh M (xs (i + 1).toNatClampNeg) q8) 150 (lq_m ca g hh K M) hcl_X8 ⟨Nat.le_of_ble_eq_true rfl, Nat.le_of_ble_eq_true rfl⟩ ⟨Nat.le_of_ble_eq_true rfl, Nat.le_of_ble_eq_true rfl⟩ rfl rfl (Nat.le_of_ble_eq_true rfl) dL_law_916 (mW_f ca hh M _) ?_
  refine j_f2d hd1 C1 dL_law_919 (fun v2 d2 al2 hd2 => ?_)
  obtain ⟨C2, Sx2, S2⟩ := CX d2
  refine j_dstore C2 [(6, .double v2), (4, .double v1), (3, .int i), (2, .ref (hh 0)), (1, .ref (g 0)), (0, .ref b)] dL_law_920 (by decide) rfl ?_
  refine j_dload C2 dL_law_922 rfl ?_
  refine j_dload C2 dL_law_924 rfl ?_
  refine j_dcmp C2 dL_law_926 ?_
  rw [qe] at al1
  have dt := dcmp_two al1 al2
  have fin : J l room_1 D 8 (lX p e s m below meth c b d2) 600000 7302250 (fW ca g K ++ mW ca hh M) [(6, .double v2), (4, .double v1), (3, .int i), (2, .ref (hh 0)), (1, .ref (g 0)), (0, .ref b)] [] 948 := j_goto (tgt := 1063) C2 dL_law_948 rfl (j_lv [(3, .int i), (2, .ref (hh 0)), (1, .ref (g 0)), (0, .ref b)] rfl (nx _ _ d2 qr hd2))
  refine j_if_eq (tgt := 948) C2 dL_law_927 rfl (fun _ => fin) (fun z1 => ?_)
  have z2 := dt.resolve_left z1
  refine j_dload C2 dL_law_930 rfl ?_
  refine j_dload C2 dL_law_932 rfl ?_
  refine j_dcmp C2 dL_law_934 ?_
  refine j_if_eq (tgt := 946) C2 dL_law_935 rfl (fun z3 => absurd z3 z2.1) (fun _ => ?_)
  refine j_dload C2 dL_law_938 rfl ?_
  refine j_dload C2 dL_law_940 rfl ?_
  refine j_dcmp C2 dL_law_942 ?_
  exact j_if_ne (tgt := 948) C2 dL_law_943 rfl (fun _ => fin) (fun z4 => absurd z4 z2.2)
theorem law_25 (CX : LCx l D ca p e s m below meth c b L xs ts) {n : Nat} {K : Nat → jB} {M : jB} (h : Rel n K M) (hn : n ≤ 800) {g hh : Nat → Nat} {d0 : Drawn} (hd0 : s.drawn.sameBut d0 lw_cs) {i : Int32} (i1 : vp_in (i + 1) L) (i2 : vp_in (i + 2) L) (i3 : vp_in (i + 3) L) (i4 : vp_in (i + 4) L) (nx : ∀ (K' : Nat → jB) (M' : jB) (d1 : Drawn), Rel (n + 1) K' M' → s.drawn.sameBut d1 lw_cs → J l room_1 D 8 (lX p e s m below meth c b d1) 600000 7302250 (fW ca g K' ++ mW ca hh M') [(3, .int i), (2, .ref (hh 0)), (1, .ref (g 0)), (0, .ref b)] [] 1063) : J l room_1 D 8 (lX p e s m below meth c b d0) 600000 7302250 (fW ca g K ++ mW ca hh M) [(3, .int i), (2, .ref (hh 0)), (1, .ref (g 0)), (0, .ref b)] [] 951 := by
  obtain ⟨C, Sx, S0⟩ := CX d0
  obtain ⟨q7, q8, qe, qr⟩ := R_best h (by omega) (xs (i + 1).toNatClampNeg)
  refine j_aload_n C dL_law_951 rfl ?_
  refine j_aload_n C dL_law_952 rfl ?_
  refine j_iload_n C dL_law_953 rfl ?_
  refine j_iconst C dL_law_954 1 rfl ?_
  refine j_iadd C dL_law_955 ?_
  refine j_sld C S0 dL_law_956 i1 ?_
  refine j_lawPi C g_L_120 (c_X7_best l D ca g K (xs (i + 1).toNatClampNeg) q7) 0 (lq_f ca g hh K M) hcl_X7 ⟨Nat.le_of_ble_eq_true rfl, Nat.le_of_ble_eq_true rfl⟩ ⟨Nat.le_of_ble_eq_true rfl, Nat.le_of_ble_eq_true rfl⟩ rfl rfl (Nat.le_of_ble_eq_true rfl) dL_law_957 (fW_f ca g K _) ?_
  refine j_aload_n C dL_law_960 rfl ?_
  refine j_aload_n C dL_law_961 rfl ?_
  refine j_iload_n C dL_law_962 rfl ?_
  refine j_iconst C dL_law_963 1 rfl ?_
  refine j_iadd C dL_law_964 ?_
  refine j_sld C S0 dL_law_965 i1 ?_
  refine j_lawQi C g_L_123 (c_X8_best l D ca hh M (xs (i + 1).toNatClampNeg) q8) 150 (lq_m ca g hh (r_X7_best K (xs (i + 1).toNatClampNeg)).2 M) hcl_X8 ⟨Nat.le_of_ble_eq_true rfl, Nat.le_of_ble_eq_true rfl⟩ ⟨Nat.le_of_ble_eq_true rfl, Nat.le_of_ble_eq_true rfl⟩ rfl rfl (Nat.le_of_ble_eq_true rfl) dL_law_966 (mW_f ca hh M _) ?_
  exact j_icmp_eq (tgt := 1063) C dL_law_969 rfl (fun _ => nx _ _ d0 qr hd0) (fun q => absurd qe q)
theorem law_26 (CX : LCx l D ca p e s m below meth c b L xs ts) {n : Nat} {K : Nat → jB} {M : jB} (h : Rel n K M) (hn : n ≤ 800) {g hh : Nat → Nat} {d0 : Drawn} (hd0 : s.drawn.sameBut d0 lw_cs) {i : Int32} (i1 : vp_in (i + 1) L) (i2 : vp_in (i + 2) L) (i3 : vp_in (i + 3) L) (i4 : vp_in (i + 4) L) (nx : ∀ (K' : Nat → jB) (M' : jB) (d1 : Drawn), Rel (n + 1) K' M' → s.drawn.sameBut d1 lw_cs → J l room_1 D 8 (lX p e s m below meth c b d1) 600000 7302250 (fW ca g K' ++ mW ca hh M') [(3, .int i), (2, .ref (hh 0)), (1, .ref (g 0)), (0, .ref b)] [] 1063) : J l room_1 D 8 (lX p e s m below meth c b d0) 600000 7302250 (fW ca g K ++ mW ca hh M) [(3, .int i), (2, .ref (hh 0)), (1, .ref (g 0)), (0, .ref b)] [] 974 := by
  obtain ⟨C, Sx, S0⟩ := CX d0
  obtain ⟨q7, q8, qe⟩ := Q_worthlessIn h (by omega) (xs (i + 1).toNatClampNeg)
  have qr := Rel_mono h (Nat.le_succ n)
  refine j_aload_n C dL_law_974 rfl ?_
  refine j_aload_n C dL_law_975 rfl ?_
  refine j_iload_n C dL_law_976 rfl ?_
  refine j_iconst C dL_law_977 1 rfl ?_
  refine j_iadd C dL_law_978 ?_
  refine j_sld C S0 dL_law_979 i1 ?_
  refine j_lawPi C g_L_124 (c_X7_worthlessIn l D ca g K (xs (i + 1).toNatClampNeg) q7) 0 (lq_f ca g hh K M) hcl_X7 ⟨Nat.le_of_ble_eq_true rfl, Nat.le_of_ble_eq_true rfl⟩ ⟨Nat.le_of_ble_eq_true rfl, Nat.le_of_ble_eq_true rfl⟩ rfl rfl (Nat.le_of_ble_eq_true rfl) dL_law_980 (fW_f ca g K _) ?_
  refine j_aload_n C dL_law_983 rfl ?_
  refine j_aload_n C dL_law_984 rfl ?_
  refine j_iload_n C dL_law_985 rfl ?_
  refine j_iconst C dL_law_986 1 rfl ?_
  refine j_iadd C dL_law_987 ?_
  refine j_sld C S0 dL_law_988 i1 ?_
  refine j_lawQi C g_L_127 (c_X8_worthlessIn l D ca hh M (xs (i + 1).toNatClampNeg) q8) 150 (lq_m ca g hh K M) hcl_X8 ⟨Nat.le_of_ble_eq_true rfl, Nat.le_of_ble_eq_true rfl⟩ ⟨Nat.le_of_ble_eq_true rfl, Nat.le_of_ble_eq_true rfl⟩ rfl rfl (Nat.le_of_ble_eq_true rfl) dL_law_989 (mW_f ca hh M _) ?_
  exact j_icmp_eq (tgt := 1063) C dL_law_992 rfl (fun _ => nx _ _ d0 qr hd0) (fun q => absurd qe q)
theorem law_27 (CX : LCx l D ca p e s m below meth c b L xs ts) {n : Nat} {K : Nat → jB} {M : jB} (h : Rel n K M) (hn : n ≤ 800) {g hh : Nat → Nat} {d0 : Drawn} (hd0 : s.drawn.sameBut d0 lw_cs) {i : Int32} (i1 : vp_in (i + 1) L) (i2 : vp_in (i + 2) L) (i3 : vp_in (i + 3) L) (i4 : vp_in (i + 4) L) (nx : ∀ (K' : Nat → jB) (M' : jB) (d1 : Drawn), Rel (n + 1) K' M' → s.drawn.sameBut d1 lw_cs → J l room_1 D 8 (lX p e s m below meth c b d1) 600000 7302250 (fW ca g K' ++ mW ca hh M') [(3, .int i), (2, .ref (hh 0)), (1, .ref (g 0)), (0, .ref b)] [] 1063) : J l room_1 D 8 (lX p e s m below meth c b d0) 600000 7302250 (fW ca g K ++ mW ca hh M) [(3, .int i), (2, .ref (hh 0)), (1, .ref (g 0)), (0, .ref b)] [] 997 := by
  obtain ⟨C, Sx, S0⟩ := CX d0
  obtain ⟨q7, q8, qe⟩ := Q_exposure h 
  have qr := Rel_mono h (Nat.le_succ n)
  refine j_aload_n C dL_law_997 rfl ?_
  refine j_lawPf C g_L_128 (c_X7_exposure l D ca g K  q7) 0 (lq_f ca g hh K M) hcl_X7 ⟨Nat.le_of_ble_eq_true rfl, Nat.le_of_ble_eq_true rfl⟩ ⟨Nat.le_of_ble_eq_true rfl, Nat.le_of_ble_eq_true rfl⟩ rfl rfl (Nat.le_of_ble_eq_true rfl) dL_law_998 (fW_f ca g K _) ?_
  refine j_f2d hd0 C dL_law_1001 (fun v1 d1 al1 hd1 => ?_)
  obtain ⟨C1, Sx1, S1⟩ := CX d1
  refine j_dstore C1 [(4, .double v1), (3, .int i), (2, .ref (hh 0)), (1, .ref (g 0)), (0, .ref b)] dL_law_1002 (by decide) rfl ?_
  refine j_aload_n C1 dL_law_1004 rfl ?_
  refine j_lawQf C1 g_L_132 (c_X8_exposure l D ca hh M  q8) 150 (lq_m ca g hh K M) hcl_X8 ⟨Nat.le_of_ble_eq_true rfl, Nat.le_of_ble_eq_true rfl⟩ ⟨Nat.le_of_ble_eq_true rfl, Nat.le_of_ble_eq_true rfl⟩ rfl rfl (Nat.le_of_ble_eq_true rfl) dL_law_1005 (mW_f ca hh M _) ?_
  refine j_f2d hd1 C1 dL_law_1008 (fun v2 d2 al2 hd2 => ?_)
  obtain ⟨C2, Sx2, S2⟩ := CX d2
  refine j_dstore C2 [(6, .double v2), (4, .double v1), (3, .int i), (2, .ref (hh 0)), (1, .ref (g 0)), (0, .ref b)] dL_law_1009 (by decide) rfl ?_
  refine j_dload C2 dL_law_1011 rfl ?_
  refine j_dload C2 dL_law_1013 rfl ?_
  refine j_dcmp C2 dL_law_1015 ?_
  rw [qe] at al1
  have dt := dcmp_two al1 al2
  have fin : J l room_1 D 8 (lX p e s m below meth c b d2) 600000 7302250 (fW ca g K ++ mW ca hh M) [(6, .double v2), (4, .double v1), (3, .int i), (2, .ref (hh 0)), (1, .ref (g 0)), (0, .ref b)] [] 1037 := j_goto (tgt := 1063) C2 dL_law_1037 rfl (j_lv [(3, .int i), (2, .ref (hh 0)), (1, .ref (g 0)), (0, .ref b)] rfl (nx _ _ d2 qr hd2))
  refine j_if_eq (tgt := 1037) C2 dL_law_1016 rfl (fun _ => fin) (fun z1 => ?_)
  have z2 := dt.resolve_left z1
  refine j_dload C2 dL_law_1019 rfl ?_
  refine j_dload C2 dL_law_1021 rfl ?_
  refine j_dcmp C2 dL_law_1023 ?_
  refine j_if_eq (tgt := 1035) C2 dL_law_1024 rfl (fun z3 => absurd z3 z2.1) (fun _ => ?_)
  refine j_dload C2 dL_law_1027 rfl ?_
  refine j_dload C2 dL_law_1029 rfl ?_
  refine j_dcmp C2 dL_law_1031 ?_
  exact j_if_ne (tgt := 1037) C2 dL_law_1032 rfl (fun _ => fin) (fun z4 => absurd z4 z2.2)
theorem law_28 (CX : LCx l D ca p e s m below meth c b L xs ts) {n : Nat} {K : Nat → jB} {M : jB} (h : Rel n K M) (hn : n ≤ 800) {g hh : Nat → Nat} {d0 : Drawn} (hd0 : s.drawn.sameBut d0 lw_cs) {i : Int32} (i1 : vp_in (i + 1) L) (i2 : vp_in (i + 2) L) (i3 : vp_in (i + 3) L) (i4 : vp_in (i + 4) L) (nx : ∀ (K' : Nat → jB) (M' : jB) (d1 : Drawn), Rel (n + 1) K' M' → s.drawn.sameBut d1 lw_cs → J l room_1 D 8 (lX p e s m below meth c b d1) 600000 7302250 (fW ca g K' ++ mW ca hh M') [(3, .int i), (2, .ref (hh 0)), (1, .ref (g 0)), (0, .ref b)] [] 1063) : J l room_1 D 8 (lX p e s m below meth c b d0) 600000 7302250 (fW ca g K ++ mW ca hh M) [(3, .int i), (2, .ref (hh 0)), (1, .ref (g 0)), (0, .ref b)] [] 1040 := by
  obtain ⟨C, Sx, S0⟩ := CX d0
  obtain ⟨q8, qe⟩ := Q_count h (xs (i + 1).toNatClampNeg)
  have qr := Rel_mono h (Nat.le_succ n)
  refine j_aload_n C dL_law_1040 rfl ?_
  refine j_aload_n C dL_law_1041 rfl ?_
  refine j_iload_n C dL_law_1042 rfl ?_
  refine j_iconst C dL_law_1043 1 rfl ?_
  refine j_iadd C dL_law_1044 ?_
  refine j_sld C S0 dL_law_1045 i1 ?_
  refine j_lawPi C g_L_133 (c_X7_count l D ca g K (xs (i + 1).toNatClampNeg)) 0 (lq_f ca g hh K M) hcl_X7 ⟨Nat.le_of_ble_eq_true rfl, Nat.le_of_ble_eq_true rfl⟩ ⟨Nat.le_of_ble_eq_true rfl, Nat.le_of_ble_eq_true rfl⟩ rfl rfl (Nat.le_of_ble_eq_true rfl) dL_law_1046 (fW_f ca g K _) ?_
  refine j_aload_n C dL_law_1049 rfl ?_
  refine j_aload_n C dL_law_1050 rfl ?_
  refine j_iload_n C dL_law_1051 rfl ?_
  refine j_iconst C dL_law_1052 1 rfl ?_
  refine j_iadd C dL_law_1053 ?_
  refine j_sld C S0 dL_law_1054 i1 ?_
  refine j_lawQi C g_L_136 (c_X8_count l D ca hh M (xs (i + 1).toNatClampNeg) q8) 150 (lq_m ca g hh K M) hcl_X8 ⟨Nat.le_of_ble_eq_true rfl, Nat.le_of_ble_eq_true rfl⟩ ⟨Nat.le_of_ble_eq_true rfl, Nat.le_of_ble_eq_true rfl⟩ rfl rfl (Nat.le_of_ble_eq_true rfl) dL_law_1055 (mW_f ca hh M _) ?_
  exact j_icmp_eq (tgt := 1063) C dL_law_1058 rfl (fun _ => nx _ _ d0 qr hd0) (fun q => absurd qe q)
end LAW
