/-- fewer cells, in any order -/
theorem j_perm {l : Launch} {R : Room} {D : va_G} {nL : Nat} {X : jX} {k n pc : Nat} {ws : va_W} {lv : jLv} {st : List Value} (ws' : va_W) (is : List Nat) (hn : va_nd is = true) (hs : is.map (fun i => ws[i]?) = ws'.map some) (h : J l R D nL X k n ws' lv st pc) : J l R D nL X k n ws lv st pc := by
  obtain ⟨p, e, s, m, args, below, meth, c, A, H0, Q⟩ := X
  intro H locs ls hP hD hS hl
  exact h H locs ls (hP.sub is (j_fm hs)) (hD.sub is hn hs) hS hl
theorem va_at_extQ {cA N : Nat} {f g : Nat → Option Nat} (h : ∀ j, j < N → f j = g j) : (vp_cell cA (N, .inr (.inr (.inr (.inr f))))) = (vp_cell cA (N, .inr (.inr (.inr (.inr g))))) := by
  show arrV cA N (fun j => va_rf (f j)) = arrV cA N (fun j => va_rf (g j))
  unfold arrV
  congr 1
  apply Array.ext
  · simp
  · intro i h1 h2
    simp at h1
    simp [h i h1]
theorem j_extQ {l : Launch} {R : Room} {D : va_G} {nL : Nat} {X : jX} {k n pc : Nat} {ws : va_W} {lv : jLv} {st : List Value} (q0 : Nat) {a cA N : Nat} {f : Nat → Option Nat} (g : Nat → Option Nat) (he : ws[q0]? = some (a, .inl (cA, N, .inr (.inr (.inr (.inr f)))))) (h : ∀ j, j < N → f j = g j) (h1 : J l R D nL X k n (ws.set q0 (a, .inl (cA, N, .inr (.inr (.inr (.inr g)))))) lv st pc) : J l R D nL X k n ws lv st pc := by
  have hl := (List.getElem?_eq_some_iff.mp he).1
  refine j_wsP (ws' := ws.set q0 (a, .inl (cA, N, .inr (.inr (.inr (.inr g)))))) (fun H hP i q hq => ?_) ?_ h1
  · by_cases hi : i = q0
    · subst hi
      rw [List.getElem?_set_self hl] at hq
      cases hq
      have := hP i _ he
      show H[a]? = some (vp_cell cA (N, .inr (.inr (.inr (.inr g)))))
      rw [← va_at_extQ h]
      exact this
    · rw [List.getElem?_set_ne (Ne.symm hi)] at hq
      exact hP i q hq
  · apply List.ext_getElem?
    intro i
    rw [List.getElem?_map, List.getElem?_map]
    by_cases hi : i = q0
    · subst hi
      rw [List.getElem?_set_self hl, he]
      rfl
    · rw [List.getElem?_set_ne (Ne.symm hi)]
theorem j_newq {l : Launch} {R : Room} {D : va_G} {ca : Nat → ClassId} {nL : Nat} {X : jX} {cc : ByteArray} {y0 : MethodName} {ret0 : Option FieldType} {k n pc : Nat} {ws : va_W} {lv : jLv} {st : List Value} (C : jK l R D ca nL X cc y0 ret0) (N : Nat) {idx : Nat} {v : Int32} (hw : Cond.classLink y0.cls idx RX0 ∈ jAll) (hn : ¬ v < 0) (hN : v.toNatClampNeg = N) (hbt : N * 4 ≤ 536870912) (h1 : k + 1 ≤ R.cells) (h2 : n + N ≤ R.slots) (hd : decode cc pc = .ok (.anewarray idx, 3)) (h : ∀ q, J l R D nL X (k + 1) (n + N) (ws ++ [(q, .inl (ca 3, N, .inr (.inr (.inr (.inr (fun _ => none))))))]) lv (.ref q :: st) (pc + 3)) : J l R D nL X k n ws lv (.int v :: st) pc := by
  obtain ⟨p, e, s, m, args, below, meth, c, A, H0, Q⟩ := X
  obtain ⟨hx, hb, hml, hown, hts, hK, hlk, hA, hr, hnm0, hjn⟩ := C
  intro H locs ls hP hD hS hl
  refine va_newq hx hb hown (hts _ hw) hjn.2 hK hP hD hS hA hn hN hbt h1 h2 hd (fun q cA H1 hK1 hP1 hD1 hS1 => ?_)
  obtain ⟨k1, c1, a1, a2, a3, a4⟩ := (hK1.2 4 (cA, .object RX0) rfl).2
  obtain ⟨k2, c2, b1, b2, b3, b4⟩ := (hK.2 3 (ca 3, .object RX0) rfl).2
  have e3 : cA = ca 3 := Option.some.inj (a4.symm.trans b4)
  subst e3
  exact h q H1 locs ls hP1 hD1 hS1 hl
/-- behind a constructor: what it made stands behind the rest -/
theorem j_app {A : Nat → Prop} {D : va_G} {wr w0 w1 : va_W} {H H1 : Heap} (hP : va_P D vwCl (wr ++ w0) H) (hD : va_D A (wr ++ w0)) (hk : ∀ q : Nat, q < H.size → ¬ va_A w0 H.size q → H1[q]? = H[q]?) (hF : ∀ q, va_A w0 H.size q → A q) (hP1 : va_P D vwCl w1 H1) (hD1 : va_D (va_A w0 H.size) w1) : va_P D vwCl (wr ++ w1) H1 ∧ va_D A (wr ++ w1) := by
  have e1 : ((List.range w0.length).map (fun i => i + wr.length)).map (fun i => (wr ++ w0)[i]?) = w0.map some := by
    rw [List.map_map, ← j_all w0]
    apply List.map_congr_left
    intro i hi
    show (wr ++ w0)[i + wr.length]? = w0[i]?
    rw [List.getElem?_append_right (by omega), Nat.add_sub_cancel]
  have e2 : (List.range wr.length).map (fun i => (wr ++ w0)[i]?) = wr.map some := by
    rw [← j_all wr]
    apply List.map_congr_left
    intro i hi
    exact List.getElem?_append_left (List.mem_range.mp hi)
  exact va_join hP hD _ _ e1 e2 (va_nd_range _) (fun i hi hj => by
    obtain ⟨a, _, rfl⟩ := List.mem_map.mp hj
    have := List.mem_range.mp hi
    omega) hk hF hP1 hD1
theorem j_plcA {wr w0 : va_W} : ((List.range w0.length).map (fun i => i + wr.length)).map (fun i => (wr ++ w0)[i]?) = w0.map some := by
  rw [List.map_map, ← j_all w0]
  apply List.map_congr_left
  intro i hi
  show (wr ++ w0)[i + wr.length]? = w0[i]?
  rw [List.getElem?_append_right (by omega), Nat.add_sub_cancel]
theorem va_ndA (n b : Nat) : va_nd ((List.range n).map (fun i => i + b)) = true := by
  have key : ∀ l : List Nat, l.Nodup → va_nd l = true := by
    intro l h
    induction h with
    | nil => rfl
    | cons h1 _ ih =>
      unfold va_nd
      rw [ih, Bool.and_true, decide_eq_true_eq]
      exact fun z => h1 _ z rfl
  refine key _ ?_
  have h := List.nodup_range (n := n)
  rw [List.Nodup, List.pairwise_map]
  exact h.imp (fun q z => q (Nat.add_right_cancel z))
section JCI
variable {l : Launch} {R : Room} {D : va_G} {ca : Nat → ClassId} {nL : Nat} {X : jX} {cc : ByteArray} {y0 : MethodName} {ret0 : Option FieldType} {k n pc : Nat} {wr w0 : va_W} {lv : jLv} {st As rest : List Value} {idx na fr loc mc ms maxL b : Nat} {y : MethodName} {cb : ByteArray} {post : Option Value → va_W → Prop}
theorem j_callI (C : jK l R D ca nL X cc y0 ret0) (G : jGI y0.cls idx y cb maxL na) (hM : jM l D ca y cb maxL none fr loc mc ms (.ref b :: As) w0 post) (hR : fr + 1 ≤ R.frames ∧ 8 + (maxL + 11) + loc ≤ R.locals) (hkn : k + mc ≤ R.cells ∧ n + ms ≤ R.slots) (hAs : As.length = na) (hcat : (rest.map fun v => v.category).sum ≤ 8) (hd : decode cc pc = .ok (.invokespecial idx, 3)) (kk : ∀ (v : Option Value) (w1 : va_W), post v w1 → J l R D nL X (k + mc) (n + ms) (wr ++ w1) lv (v.toList ++ rest) (pc + 3)) : J l R D nL X k n (wr ++ w0) lv (As.reverse ++ .ref b :: rest) pc := by
  obtain ⟨p, e, s, m, args, below, meth, c, A, H0, Q⟩ := X
  obtain ⟨hx, hb, hml, hown, hts, hK, hlk, hA, hr, hnm0, hjn⟩ := C
  intro H locs ls hP hD hS hl
  have hK0 : va_K D vwCl (jT ca) s := hK
  obtain ⟨g0, g1, g5, g6, g7, g2, g3, g4⟩ := G
  refine j_back (va_runI (As := As) (rest := rest) ⟨hx, hb, hml, hown, hts⟩ (hM H.size) (cwI na hts g1 rfl rfl rfl (hts _ g5) (hts _ g6) (hts _ g7) g0 ⟨g2, g3, g4⟩ hR) ⟨jP_blind, fun U hU hW => ⟨rfl, by rw [hU], by rw [hU]; exact hP.sub _ (j_fm j_plcA), va_K.moved hW.alike hK0, (hD.sub _ (va_ndA _ _) j_plcA).weaken (fun _ _ _ _ => trivial), jN_warm hW hjn⟩⟩ rfl hAs hl.1 rfl (lv_room hcat) hd hkn) hD hS hl hA _ j_plcA (fun w1 => wr ++ w1) (fun v w1 H1 h1 h2 h4 h3 h5 => j_app hP hD h2 h4 h3 h5) kk
theorem j_callIN (C : jK l R D ca nL X cc y0 ret0) {host : String} (G : jGIN y0.cls idx y host cb maxL na) (hM : jM l D ca y cb maxL none fr loc mc ms (.ref b :: As) w0 post) (hR : fr + 1 ≤ R.frames ∧ 8 + (maxL + 11) + loc ≤ R.locals) (hkn : k + mc ≤ R.cells ∧ n + ms ≤ R.slots) (hAs : As.length = na) (hcat : (rest.map fun v => v.category).sum ≤ 8) (hd : decode cc pc = .ok (.invokespecial idx, 3)) (kk : ∀ (v : Option Value) (w1 : va_W), post v w1 → J l R D nL X (k + mc) (n + ms) (wr ++ w1) lv (v.toList ++ rest) (pc + 3)) : J l R D nL X k n (wr ++ w0) lv (As.reverse ++ .ref b :: rest) pc := by
  obtain ⟨p, e, s, m, args, below, meth, c, A, H0, Q⟩ := X
  obtain ⟨hx, hb, hml, hown, hts, hK, hlk, hA, hr, hnm0, hjn⟩ := C
  intro H locs ls hP hD hS hl
  have hK0 : va_K D vwCl (jT ca) s := hK
  obtain ⟨g0, g6, g1, g5, g7, g2, g3, g4⟩ := G
  refine j_back (va_runIN (As := As) (rest := rest) ⟨hx, hb, hml, hown, hts⟩ (hM H.size) ⟨va_cnB na hts g1 rfl rfl rfl (hjn.1 _ g6) (hts _ g5) ⟨g2, g3, g4⟩ hR, g0, hts _ g7⟩ ⟨jP_blind, fun U hU hW => ⟨rfl, by rw [hU], by rw [hU]; exact hP.sub _ (j_fm j_plcA), va_K.moved hW.alike hK0, (hD.sub _ (va_ndA _ _) j_plcA).weaken (fun _ _ _ _ => trivial), jN_warm hW hjn⟩⟩ rfl hAs hl.1 rfl (lv_room hcat) hd hkn) hD hS hl hA _ j_plcA (fun w1 => wr ++ w1) (fun v w1 H1 h1 h2 h4 h3 h5 => j_app hP hD h2 h4 h3 h5) kk
end JCI
def gl (l : List Nat) : Nat → Nat := fun j => l.getD j 0
def B0 : jB := fun _ _ => 0
/-- a new Book -/
def bI : jB := fun r => cond (Nat.beq r 15) (fun k => match k with
  | 0 => 1063675494
  | 1 => 1000593162
  | _ => 1036831949) (cond (Nat.beq r 14) (fun k => match k with
  | 0 => 14
  | 1 => 20
  | _ => 120) (fun _ => 0))
theorem dv_X0 : ∀ j, j < 11 → defaultValue (tyX0 j) = vp_V [.null, .null, .null, .null, .null, .int 0, .int 0, .int 0, .int 0, .int 0, .int 0] j := fun j hj => by
  match j, hj with
  | 0, _ => rfl
  | 1, _ => rfl
  | 2, _ => rfl
  | 3, _ => rfl
  | 4, _ => rfl
  | 5, _ => rfl
  | 6, _ => rfl
  | 7, _ => rfl
  | 8, _ => rfl
  | 9, _ => rfl
  | 10, _ => rfl
theorem dv_X1 : ∀ j, j < 3 → defaultValue (tyX1 j) = vp_V [.null, .null, .null] j := fun j hj => by
  match j, hj with
  | 0, _ => rfl
  | 1, _ => rfl
  | 2, _ => rfl
theorem dv_X2 : ∀ j, j < 3 → defaultValue (tyX2 j) = vp_V [.null, .int 0, .int 0] j := fun j hj => by
  match j, hj with
  | 0, _ => rfl
  | 1, _ => rfl
  | 2, _ => rfl
theorem dv_X3 : ∀ j, j < 8 → defaultValue (tyX3 j) = vp_V [.null, .null, .null, .null, .null, .null, .null, .int 0] j := fun j hj => by
  match j, hj with
  | 0, _ => rfl
  | 1, _ => rfl
  | 2, _ => rfl
  | 3, _ => rfl
  | 4, _ => rfl
  | 5, _ => rfl
  | 6, _ => rfl
  | 7, _ => rfl
theorem dv_X4 : ∀ j, j < 5 → defaultValue (tyX4 j) = vp_V [.null, .null, .null, .null, .int 0] j := fun j hj => by
  match j, hj with
  | 0, _ => rfl
  | 1, _ => rfl
  | 2, _ => rfl
  | 3, _ => rfl
  | 4, _ => rfl
theorem dv_X5 : ∀ j, j < 3 → defaultValue (tyX5 j) = vp_V [.null, .null, .int 0] j := fun j hj => by
  match j, hj with
  | 0, _ => rfl
  | 1, _ => rfl
  | 2, _ => rfl
theorem dv_X6 : ∀ j, j < 5 → defaultValue (tyX6 j) = vp_V [.null, .null, .null, .int 0, .int 0] j := fun j hj => by
  match j, hj with
  | 0, _ => rfl
  | 1, _ => rfl
  | 2, _ => rfl
  | 3, _ => rfl
  | 4, _ => rfl
theorem dv_X7 : ∀ j, j < 9 → defaultValue (tyX7 j) = vp_V [.null, .null, .null, .null, .null, .null, .int 0, .int 0, .int 0] j := fun j hj => by
  match j, hj with
  | 0, _ => rfl
  | 1, _ => rfl
  | 2, _ => rfl
  | 3, _ => rfl
  | 4, _ => rfl
  | 5, _ => rfl
  | 6, _ => rfl
  | 7, _ => rfl
  | 8, _ => rfl
set_option maxRecDepth 100000 in
set_option maxHeartbeats 16000000 in
theorem c_X4_init (l : Launch) (D : va_G) (ca : Nat → ClassId) (h0 : Nat) : jM l D ca yX4_init cX4_init 1 (none : Option FieldType) 1 12 4 32 [.ref h0] [(h0, .inr (4, [.null, .null, .null, .null, .int 0]))] (fun v w1 => v = none ∧ ∃ g : Nat → Nat, g 1 = h0 ∧ w1 = mbW ca g B0) := by
  refine jM_of [(0, .ref h0)] (by decide) (Nat.le_of_ble_eq_true rfl) rfl (fun X C E => ?_)
  refine j_aload_n C dX4_init_0 rfl ?_
  refine j_objInit C q_28 q_15 q_16 dX4_init_1 (Nat.le_of_ble_eq_true rfl) (Nat.le_of_ble_eq_true rfl) ?_
  refine j_aload_n C dX4_init_4 rfl ?_
  refine j_bipush C dX4_init_5 (8 : Int32) (by decide) ?_
  refine j_newa_i C 8 q_51 (by decide) rfl (Nat.le_of_ble_eq_true rfl) (Nat.le_of_ble_eq_true rfl) (Nat.le_of_ble_eq_true rfl) dX4_init_7 (fun q1 => ?_)
  refine j_putF C f_X4_9 0 dX4_init_9 rfl (Nat.le_of_ble_eq_true rfl) rfl rfl rfl hcl_X4 ?_
  refine j_ws (ws' := (h0, .inr (4, [.ref q1, .null, .null, .null, .int 0])) :: [(q1, .inl (ca 0, 8, .inl (fun _ => 0)))]) rfl ?_
  refine j_aload_n C dX4_init_12 rfl ?_
  refine j_bipush C dX4_init_13 (8 : Int32) (by decide) ?_
  refine j_newa_i C 8 q_51 (by decide) rfl (Nat.le_of_ble_eq_true rfl) (Nat.le_of_ble_eq_true rfl) (Nat.le_of_ble_eq_true rfl) dX4_init_15 (fun q2 => ?_)
  refine j_putF C f_X4_15 0 dX4_init_17 rfl (Nat.le_of_ble_eq_true rfl) rfl rfl rfl hcl_X4 ?_
  refine j_ws (ws' := (h0, .inr (4, [.ref q1, .ref q2, .null, .null, .int 0])) :: ([(q1, .inl (ca 0, 8, .inl (fun _ => 0)))] ++ [(q2, .inl (ca 0, 8, .inl (fun _ => 0)))])) rfl ?_
  refine j_aload_n C dX4_init_20 rfl ?_
  refine j_bipush C dX4_init_21 (8 : Int32) (by decide) ?_
  refine j_newa_i C 8 q_51 (by decide) rfl (Nat.le_of_ble_eq_true rfl) (Nat.le_of_ble_eq_true rfl) (Nat.le_of_ble_eq_true rfl) dX4_init_23 (fun q3 => ?_)
  refine j_putF C f_X4_18 0 dX4_init_25 rfl (Nat.le_of_ble_eq_true rfl) rfl rfl rfl hcl_X4 ?_
  refine j_ws (ws' := (h0, .inr (4, [.ref q1, .ref q2, .ref q3, .null, .int 0])) :: (([(q1, .inl (ca 0, 8, .inl (fun _ => 0)))] ++ [(q2, .inl (ca 0, 8, .inl (fun _ => 0)))]) ++ [(q3, .inl (ca 0, 8, .inl (fun _ => 0)))])) rfl ?_
  refine j_aload_n C dX4_init_28 rfl ?_
  refine j_bipush C dX4_init_29 (8 : Int32) (by decide) ?_
  refine j_newa_i C 8 q_51 (by decide) rfl (Nat.le_of_ble_eq_true rfl) (Nat.le_of_ble_eq_true rfl) (Nat.le_of_ble_eq_true rfl) dX4_init_31 (fun q4 => ?_)
  refine j_putF C f_X4_21 0 dX4_init_33 rfl (Nat.le_of_ble_eq_true rfl) rfl rfl rfl hcl_X4 ?_
  refine j_ws (ws' := (h0, .inr (4, [.ref q1, .ref q2, .ref q3, .ref q4, .int 0])) :: ((([(q1, .inl (ca 0, 8, .inl (fun _ => 0)))] ++ [(q2, .inl (ca 0, 8, .inl (fun _ => 0)))]) ++ [(q3, .inl (ca 0, 8, .inl (fun _ => 0)))]) ++ [(q4, .inl (ca 0, 8, .inl (fun _ => 0)))])) rfl ?_
  exact j_vret E dX4_init_36 ⟨rfl, (gl [0, h0, 0, 0, 0, 0, q1, q2, q3, q4]), rfl, rfl⟩
set_option maxRecDepth 100000 in
set_option maxHeartbeats 16000000 in
theorem c_X1_init (l : Launch) (D : va_G) (ca : Nat → ClassId) (h0 : Nat) : jM l D ca yX1_init cX1_init 1 (none : Option FieldType) 1 12 3 18 [.ref h0] [(h0, .inr (1, [.null, .null, .null]))] (fun v w1 => v = none ∧ ∃ g : Nat → Nat, g 2 = h0 ∧ w1 = clW ca g B0) := by
  refine jM_of [(0, .ref h0)] (by decide) (Nat.le_of_ble_eq_true rfl) rfl (fun X C E => ?_)
  refine j_aload_n C dX1_init_0 rfl ?_
  refine j_objInit C q_57 q_15 q_16 dX1_init_1 (Nat.le_of_ble_eq_true rfl) (Nat.le_of_ble_eq_true rfl) ?_
  refine j_aload_n C dX1_init_4 rfl ?_
  refine j_bipush C dX1_init_5 (6 : Int32) (by decide) ?_
  refine j_newa_i C 6 q_51 (by decide) rfl (Nat.le_of_ble_eq_true rfl) (Nat.le_of_ble_eq_true rfl) (Nat.le_of_ble_eq_true rfl) dX1_init_7 (fun q1 => ?_)
  refine j_putF C f_X1_9 0 dX1_init_9 rfl (Nat.le_of_ble_eq_true rfl) rfl rfl rfl hcl_X1 ?_
  refine j_ws (ws' := (h0, .inr (1, [.ref q1, .null, .null])) :: [(q1, .inl (ca 0, 6, .inl (fun _ => 0)))]) rfl ?_
  refine j_aload_n C dX1_init_12 rfl ?_
  refine j_bipush C dX1_init_13 (6 : Int32) (by decide) ?_
  refine j_newa_i C 6 q_51 (by decide) rfl (Nat.le_of_ble_eq_true rfl) (Nat.le_of_ble_eq_true rfl) (Nat.le_of_ble_eq_true rfl) dX1_init_15 (fun q2 => ?_)
  refine j_putF C f_X1_15 0 dX1_init_17 rfl (Nat.le_of_ble_eq_true rfl) rfl rfl rfl hcl_X1 ?_
  refine j_ws (ws' := (h0, .inr (1, [.ref q1, .ref q2, .null])) :: ([(q1, .inl (ca 0, 6, .inl (fun _ => 0)))] ++ [(q2, .inl (ca 0, 6, .inl (fun _ => 0)))])) rfl ?_
  refine j_aload_n C dX1_init_20 rfl ?_
  refine j_bipush C dX1_init_21 (6 : Int32) (by decide) ?_
  refine j_newa_i C 6 q_51 (by decide) rfl (Nat.le_of_ble_eq_true rfl) (Nat.le_of_ble_eq_true rfl) (Nat.le_of_ble_eq_true rfl) dX1_init_23 (fun q3 => ?_)
  refine j_putF C f_X1_18 0 dX1_init_25 rfl (Nat.le_of_ble_eq_true rfl) rfl rfl rfl hcl_X1 ?_
  refine j_ws (ws' := (h0, .inr (1, [.ref q1, .ref q2, .ref q3])) :: (([(q1, .inl (ca 0, 6, .inl (fun _ => 0)))] ++ [(q2, .inl (ca 0, 6, .inl (fun _ => 0)))]) ++ [(q3, .inl (ca 0, 6, .inl (fun _ => 0)))])) rfl ?_
  exact j_vret E dX1_init_28 ⟨rfl, (gl [0, 0, h0, 0, 0, 0, 0, 0, 0, 0, q1, q2, q3]), rfl, rfl⟩
set_option maxRecDepth 100000 in
set_option maxHeartbeats 16000000 in
theorem c_X3_init (l : Launch) (D : va_G) (ca : Nat → ClassId) (h0 : Nat) : jM l D ca yX3_init cX3_init 1 (none : Option FieldType) 1 12 7 140 [.ref h0] [(h0, .inr (3, [.null, .null, .null, .null, .null, .null, .null, .int 0]))] (fun v w1 => v = none ∧ ∃ g : Nat → Nat, g 3 = h0 ∧ w1 = ivW ca g B0) := by
  refine jM_of [(0, .ref h0)] (by decide) (Nat.le_of_ble_eq_true rfl) rfl (fun X C E => ?_)
  refine j_aload_n C dX3_init_0 rfl ?_
  refine j_objInit C q_76 q_15 q_16 dX3_init_1 (Nat.le_of_ble_eq_true rfl) (Nat.le_of_ble_eq_true rfl) ?_
  refine j_aload_n C dX3_init_4 rfl ?_
  refine j_bipush C dX3_init_5 (20 : Int32) (by decide) ?_
  refine j_newa_i C 20 q_51 (by decide) rfl (Nat.le_of_ble_eq_true rfl) (Nat.le_of_ble_eq_true rfl) (Nat.le_of_ble_eq_true rfl) dX3_init_7 (fun q1 => ?_)
  refine j_putF C f_X3_9 0 dX3_init_9 rfl (Nat.le_of_ble_eq_true rfl) rfl rfl rfl hcl_X3 ?_
  refine j_ws (ws' := (h0, .inr (3, [.ref q1, .null, .null, .null, .null, .null, .null, .int 0])) :: [(q1, .inl (ca 0, 20, .inl (fun _ => 0)))]) rfl ?_
  refine j_aload_n C dX3_init_12 rfl ?_
  refine j_bipush C dX3_init_13 (20 : Int32) (by decide) ?_
  refine j_newa_i C 20 q_51 (by decide) rfl (Nat.le_of_ble_eq_true rfl) (Nat.le_of_ble_eq_true rfl) (Nat.le_of_ble_eq_true rfl) dX3_init_15 (fun q2 => ?_)
  refine j_putF C f_X3_15 0 dX3_init_17 rfl (Nat.le_of_ble_eq_true rfl) rfl rfl rfl hcl_X3 ?_
  refine j_ws (ws' := (h0, .inr (3, [.ref q1, .ref q2, .null, .null, .null, .null, .null, .int 0])) :: ([(q1, .inl (ca 0, 20, .inl (fun _ => 0)))] ++ [(q2, .inl (ca 0, 20, .inl (fun _ => 0)))])) rfl ?_
  refine j_aload_n C dX3_init_20 rfl ?_
  refine j_bipush C dX3_init_21 (20 : Int32) (by decide) ?_
  refine j_newa_i C 20 q_51 (by decide) rfl (Nat.le_of_ble_eq_true rfl) (Nat.le_of_ble_eq_true rfl) (Nat.le_of_ble_eq_true rfl) dX3_init_23 (fun q3 => ?_)
  refine j_putF C f_X3_18 0 dX3_init_25 rfl (Nat.le_of_ble_eq_true rfl) rfl rfl rfl hcl_X3 ?_
  refine j_ws (ws' := (h0, .inr (3, [.ref q1, .ref q2, .ref q3, .null, .null, .null, .null, .int 0])) :: (([(q1, .inl (ca 0, 20, .inl (fun _ => 0)))] ++ [(q2, .inl (ca 0, 20, .inl (fun _ => 0)))]) ++ [(q3, .inl (ca 0, 20, .inl (fun _ => 0)))])) rfl ?_
  refine j_aload_n C dX3_init_28 rfl ?_
  refine j_bipush C dX3_init_29 (20 : Int32) (by decide) ?_
  refine j_newa_i C 20 q_51 (by decide) rfl (Nat.le_of_ble_eq_true rfl) (Nat.le_of_ble_eq_true rfl) (Nat.le_of_ble_eq_true rfl) dX3_init_31 (fun q4 => ?_)
  refine j_putF C f_X3_21 0 dX3_init_33 rfl (Nat.le_of_ble_eq_true rfl) rfl rfl rfl hcl_X3 ?_
  refine j_ws (ws' := (h0, .inr (3, [.ref q1, .ref q2, .ref q3, .ref q4, .null, .null, .null, .int 0])) :: ((([(q1, .inl (ca 0, 20, .inl (fun _ => 0)))] ++ [(q2, .inl (ca 0, 20, .inl (fun _ => 0)))]) ++ [(q3, .inl (ca 0, 20, .inl (fun _ => 0)))]) ++ [(q4, .inl (ca 0, 20, .inl (fun _ => 0)))])) rfl ?_
  refine j_aload_n C dX3_init_36 rfl ?_
  refine j_bipush C dX3_init_37 (20 : Int32) (by decide) ?_
  refine j_newa_i C 20 q_51 (by decide) rfl (Nat.le_of_ble_eq_true rfl) (Nat.le_of_ble_eq_true rfl) (Nat.le_of_ble_eq_true rfl) dX3_init_39 (fun q5 => ?_)
  refine j_putF C f_X3_24 0 dX3_init_41 rfl (Nat.le_of_ble_eq_true rfl) rfl rfl rfl hcl_X3 ?_
  refine j_ws (ws' := (h0, .inr (3, [.ref q1, .ref q2, .ref q3, .ref q4, .ref q5, .null, .null, .int 0])) :: (((([(q1, .inl (ca 0, 20, .inl (fun _ => 0)))] ++ [(q2, .inl (ca 0, 20, .inl (fun _ => 0)))]) ++ [(q3, .inl (ca 0, 20, .inl (fun _ => 0)))]) ++ [(q4, .inl (ca 0, 20, .inl (fun _ => 0)))]) ++ [(q5, .inl (ca 0, 20, .inl (fun _ => 0)))])) rfl ?_
  refine j_aload_n C dX3_init_44 rfl ?_
  refine j_bipush C dX3_init_45 (20 : Int32) (by decide) ?_
  refine j_newa_i C 20 q_51 (by decide) rfl (Nat.le_of_ble_eq_true rfl) (Nat.le_of_ble_eq_true rfl) (Nat.le_of_ble_eq_true rfl) dX3_init_47 (fun q6 => ?_)
  refine j_putF C f_X3_27 0 dX3_init_49 rfl (Nat.le_of_ble_eq_true rfl) rfl rfl rfl hcl_X3 ?_
  refine j_ws (ws' := (h0, .inr (3, [.ref q1, .ref q2, .ref q3, .ref q4, .ref q5, .ref q6, .null, .int 0])) :: ((((([(q1, .inl (ca 0, 20, .inl (fun _ => 0)))] ++ [(q2, .inl (ca 0, 20, .inl (fun _ => 0)))]) ++ [(q3, .inl (ca 0, 20, .inl (fun _ => 0)))]) ++ [(q4, .inl (ca 0, 20, .inl (fun _ => 0)))]) ++ [(q5, .inl (ca 0, 20, .inl (fun _ => 0)))]) ++ [(q6, .inl (ca 0, 20, .inl (fun _ => 0)))])) rfl ?_
  refine j_aload_n C dX3_init_52 rfl ?_
  refine j_bipush C dX3_init_53 (20 : Int32) (by decide) ?_
  refine j_newa_i C 20 q_51 (by decide) rfl (Nat.le_of_ble_eq_true rfl) (Nat.le_of_ble_eq_true rfl) (Nat.le_of_ble_eq_true rfl) dX3_init_55 (fun q7 => ?_)
  refine j_putF C f_X3_30 0 dX3_init_57 rfl (Nat.le_of_ble_eq_true rfl) rfl rfl rfl hcl_X3 ?_
  refine j_ws (ws' := (h0, .inr (3, [.ref q1, .ref q2, .ref q3, .ref q4, .ref q5, .ref q6, .ref q7, .int 0])) :: (((((([(q1, .inl (ca 0, 20, .inl (fun _ => 0)))] ++ [(q2, .inl (ca 0, 20, .inl (fun _ => 0)))]) ++ [(q3, .inl (ca 0, 20, .inl (fun _ => 0)))]) ++ [(q4, .inl (ca 0, 20, .inl (fun _ => 0)))]) ++ [(q5, .inl (ca 0, 20, .inl (fun _ => 0)))]) ++ [(q6, .inl (ca 0, 20, .inl (fun _ => 0)))]) ++ [(q7, .inl (ca 0, 20, .inl (fun _ => 0)))])) rfl ?_
  exact j_vret E dX3_init_60 ⟨rfl, (gl [0, 0, 0, h0, 0, 0, 0, 0, 0, 0, 0, 0, 0, q1, q2, q3, q4, q5, q6, q7]), rfl, rfl⟩
set_option maxRecDepth 100000 in
set_option maxHeartbeats 16000000 in
theorem c_X6_init (l : Launch) (D : va_G) (ca : Nat → ClassId) (h0 : Nat) : jM l D ca yX6_init cX6_init 1 (none : Option FieldType) 1 12 3 180 [.ref h0] [(h0, .inr (6, [.null, .null, .null, .int 0, .int 0]))] (fun v w1 => v = none ∧ ∃ g : Nat → Nat, g 3 = h0 ∧ w1 = txW ca g (fun _ => B0)) := by
  refine jM_of [(0, .ref h0)] (by decide) (Nat.le_of_ble_eq_true rfl) rfl (fun X C E => ?_)
  refine j_aload_n C dX6_init_0 rfl ?_
  refine j_objInit C q_191 q_15 q_16 dX6_init_1 (Nat.le_of_ble_eq_true rfl) (Nat.le_of_ble_eq_true rfl) ?_
  refine j_aload_n C dX6_init_4 rfl ?_
  refine j_bipush C dX6_init_5 (60 : Int32) (by decide) ?_
  refine j_newa_c C 60 q_207 (by decide) rfl (Nat.le_of_ble_eq_true rfl) (Nat.le_of_ble_eq_true rfl) (Nat.le_of_ble_eq_true rfl) dX6_init_7 (fun q1 => ?_)
  refine j_putF C f_X6_9 0 dX6_init_9 rfl (Nat.le_of_ble_eq_true rfl) rfl rfl rfl hcl_X6 ?_
  refine j_ws (ws' := (h0, .inr (6, [.ref q1, .null, .null, .int 0, .int 0])) :: [(q1, .inl (ca 2, 60, .inl (fun _ => 0)))]) rfl ?_
  refine j_aload_n C dX6_init_12 rfl ?_
  refine j_bipush C dX6_init_13 (60 : Int32) (by decide) ?_
  refine j_newa_i C 60 q_51 (by decide) rfl (Nat.le_of_ble_eq_true rfl) (Nat.le_of_ble_eq_true rfl) (Nat.le_of_ble_eq_true rfl) dX6_init_15 (fun q2 => ?_)
  refine j_putF C f_X6_15 0 dX6_init_17 rfl (Nat.le_of_ble_eq_true rfl) rfl rfl rfl hcl_X6 ?_
  refine j_ws (ws' := (h0, .inr (6, [.ref q1, .ref q2, .null, .int 0, .int 0])) :: ([(q1, .inl (ca 2, 60, .inl (fun _ => 0)))] ++ [(q2, .inl (ca 0, 60, .inl (fun _ => 0)))])) rfl ?_
  refine j_aload_n C dX6_init_20 rfl ?_
  refine j_bipush C dX6_init_21 (60 : Int32) (by decide) ?_
  refine j_newa_i C 60 q_51 (by decide) rfl (Nat.le_of_ble_eq_true rfl) (Nat.le_of_ble_eq_true rfl) (Nat.le_of_ble_eq_true rfl) dX6_init_23 (fun q3 => ?_)
  refine j_putF C f_X6_19 0 dX6_init_25 rfl (Nat.le_of_ble_eq_true rfl) rfl rfl rfl hcl_X6 ?_
  refine j_ws (ws' := (h0, .inr (6, [.ref q1, .ref q2, .ref q3, .int 0, .int 0])) :: (([(q1, .inl (ca 2, 60, .inl (fun _ => 0)))] ++ [(q2, .inl (ca 0, 60, .inl (fun _ => 0)))]) ++ [(q3, .inl (ca 0, 60, .inl (fun _ => 0)))])) rfl ?_
  exact j_vret E dX6_init_28 ⟨rfl, (gl [0, 0, 0, h0, q1, q2, q3]), rfl, rfl⟩
set_option maxRecDepth 100000 in
set_option maxHeartbeats 16000000 in
theorem c_X5_init (l : Launch) (D : va_G) (ca : Nat → ClassId) (h0 : Nat) : jM l D ca yX5_init cX5_init 1 (none : Option FieldType) 1 12 2 40 [.ref h0] [(h0, .inr (5, [.null, .null, .int 0]))] (fun v w1 => v = none ∧ ∃ g : Nat → Nat, g 7 = h0 ∧ w1 = rkW ca g (fun _ => B0)) := by
  refine jM_of [(0, .ref h0)] (by decide) (Nat.le_of_ble_eq_true rfl) rfl (fun X C E => ?_)
  refine j_aload_n C dX5_init_0 rfl ?_
  refine j_objInit C q_213 q_15 q_16 dX5_init_1 (Nat.le_of_ble_eq_true rfl) (Nat.le_of_ble_eq_true rfl) ?_
  refine j_aload_n C dX5_init_4 rfl ?_
  refine j_bipush C dX5_init_5 (20 : Int32) (by decide) ?_
  refine j_newa_i C 20 q_51 (by decide) rfl (Nat.le_of_ble_eq_true rfl) (Nat.le_of_ble_eq_true rfl) (Nat.le_of_ble_eq_true rfl) dX5_init_7 (fun q1 => ?_)
  refine j_putF C f_X5_9 0 dX5_init_9 rfl (Nat.le_of_ble_eq_true rfl) rfl rfl rfl hcl_X5 ?_
  refine j_ws (ws' := (h0, .inr (5, [.ref q1, .null, .int 0])) :: [(q1, .inl (ca 0, 20, .inl (fun _ => 0)))]) rfl ?_
  refine j_aload_n C dX5_init_12 rfl ?_
  refine j_bipush C dX5_init_13 (20 : Int32) (by decide) ?_
  refine j_newa_f C 20 q_165 (by decide) rfl (Nat.le_of_ble_eq_true rfl) (Nat.le_of_ble_eq_true rfl) (Nat.le_of_ble_eq_true rfl) dX5_init_15 (fun q2 => ?_)
  refine j_putF C f_X5_15 0 dX5_init_17 rfl (Nat.le_of_ble_eq_true rfl) rfl rfl rfl hcl_X5 ?_
  refine j_ws (ws' := (h0, .inr (5, [.ref q1, .ref q2, .int 0])) :: ([(q1, .inl (ca 0, 20, .inl (fun _ => 0)))] ++ [(q2, .inl (ca 1, 20, .inr (.inr (.inl (fun _ => 0)))))])) rfl ?_
  exact j_vret E dX5_init_20 ⟨rfl, (gl [0, 0, 0, 0, 0, 0, 0, h0, q1, q2]), rfl, rfl⟩
