theorem pb_0 {n : Nat} {B : jB} (I : Inv n B) : 0 ≤ (pb B).toInt := by
  have hs := Inv_s I
  have z0 : (0 : Int32).toInt = 0 := rfl
  have e := fs_cnt (Ab B) (sN B) 0 0 (by decide) (by unfold sN; omega)
  unfold pb
  omega
theorem Sm_I {K K1 : Nat → jB} {n : Nat} (hs : Sm K K1) (hI : Inv n (K 0)) : Inv n (K1 0) := by rw [hs.1 0 (by decide)]; exact hI
theorem St_Sm {n : Nat} {P : Int32} {K K1 : Nat → jB} (h : St n P K) (hs : Sm K K1) : St n P K1 := by
  obtain ⟨h1, kn, nx, a, b, c, d⟩ := h
  refine ⟨by rw [hs.1 0 (by decide)]; exact h1, kn, nx, a, b, ?_, ?_⟩
  · rw [hs.2 5 3 (by decide) (by decide) (by omega)]; exact c
  · rw [hs.2 5 2 (by decide) (by decide) (by omega)]; exact d
theorem iv_9b {K : Nat → jB} {i : Int32} (h : r_X3_has (K 0) i = 1) (h0 : 0 ≤ i.toInt) : r_X7_invoice K i 9 = if Ab (K 0) i.toNatClampNeg = true then 1 else 0 := by
  rw [iv_9 h]
  unfold Ab
  rw [nat_of h0]
  by_cases e : r_X0_canPayAhead (K 0) i = 0
  · rw [if_pos e, if_neg (by simp [e])]
  · rw [if_neg e, if_pos (by simp [e])]
theorem an_tnx {a : Nat} (h : a < 2147483648) : (Int32.ofNat a).toNatClampNeg = a := by rw [i_nat, an_toInt h]; omega
theorem iv_9A {n : Nat} {K K2 : Nat → jB} (e : K2 0 = K 0) (hI : Inv n (K 0)) {x : Nat} (hx : x < sN (K 0)) (hA : Ab (K 0) x = true) : r_X7_invoice K2 (Int32.ofNat x) 9 = 1 := by
  have hs := Inv_s hI
  have xt : (Int32.ofNat x).toInt = x := an_toInt (by unfold sN at hx; omega)
  have hh : r_X3_has (K2 0) (Int32.ofNat x) = 1 := by rw [e]; exact has3_1 hI (by omega) (by unfold sN at hx; omega)
  rw [iv_9b hh (by omega), e, an_tnx (by unfold sN at hx; omega), if_pos hA]
theorem cli_0 {K : Nat → jB} {i : Int32} (h : r_X1_has (K 0) i = 1) : r_X7_client K i 0 = K 0 4 i.toNatClampNeg := by
  unfold r_X7_client
  rw [if_neg (show ¬ (r_X1_has (K 0) i = 0) by rw [h]; exact one_ne), if_pos rfl]
theorem cli_1 {K : Nat → jB} {i : Int32} (h : r_X1_has (K 0) i = 1) : r_X7_client K i 1 = K 0 5 i.toNatClampNeg := by
  unfold r_X7_client
  rw [if_neg (show ¬ (r_X1_has (K 0) i = 0) by rw [h]; exact one_ne), if_neg (by decide), if_pos rfl]
set_option maxRecDepth 100000 in
set_option maxHeartbeats 4000000 in
theorem c_L_areInvoicesSo (l : Launch) (D : va_G) (ca : Nat → ClassId) (g : Nat → Nat) (K : Nat → jB) {n : Nat} {P : Int32} (h : St n P K) (hN : n ≤ 190) : jM l D ca yL_areInvoicesSo cL_areInvoicesSo 8 (Option.some FieldType.boolean) 7 157 0 0 [.ref (g 0)] (fW ca g K) (fun v w => v = some (.int 1) ∧ ∃ K', Sm K K' ∧ w = fW ca g K') := by
  refine jM_of [(0, .ref (g 0))] (by decide) (Nat.le_of_ble_eq_true rfl) rfl (fun X C E => ?_)
  have hI := St_I h
  obtain ⟨-, -, Vs, Cl, -⟩ := h.1
  have K243 : ∀ (c : Nat) (a4 : Int32) (K1 : Nat → jB), Sm K K1 → 0 ≤ a4.toInt → a4.toInt + c = (pb (K 0)).toInt → J l { frames := 7, cells := 0, slots := 0, locals := 157 } D 8 X 0 0 (fW ca g K1) [(0, .ref (g 0)), (1, .int (pb (K 0))), (2, .int (sm (K 0) 4 6)), (3, .int (sm (K 0) 5 6)), (4, .int a4)] [] 243 := by
    intro c
    induction c with
    | zero =>
      intro a4 K1 hs h0 h1
      have e1 := hs.1 0 (by decide)
      have hI1 := Sm_I hs hI
      refine j_iload C dL_areInvoicesSo_243 rfl ?_
      refine j_iload_n C dL_areInvoicesSo_245 rfl ?_
      refine j_icmp_ge (tgt := 300) C dL_areInvoicesSo_246 (by decide) (fun _ => ?_) (fun h => absurd (by rw [i_le]; omega) h)
      refine j_aload_n C dL_areInvoicesSo_300 rfl ?_
      refine j_iload_n C dL_areInvoicesSo_301 rfl ?_
      refine j_callViW C g_L_63 (c_X7_best l D ca g K1 (pb (K 0)) (C_best hI1 (by omega) _ (by omega)).1) 0 fW_0 hcl_X7 ⟨Nat.le_of_ble_eq_true rfl, Nat.le_of_ble_eq_true rfl⟩ ⟨Nat.le_of_ble_eq_true rfl, Nat.le_of_ble_eq_true rfl⟩ rfl rfl (Nat.le_of_ble_eq_true rfl) dL_areInvoicesSo_302 fst_f ?_
      refine j_sti (y := (-5 : Int32)) (best_out hI1 (by omega) _ (by omega) (by rw [e1]; exact Int.le_refl _)) ?_
      refine j_bipush C dL_areInvoicesSo_305 (-5 : Int32) (by decide) ?_
      refine j_icmp_ne (tgt := 334) C dL_areInvoicesSo_307 (by decide) (fun h => absurd rfl h) (fun _ => ?_)
      have hs2 := Sm_trans hs (C_best hI1 (by omega) (pb (K 0)) (by omega)).2.1
      generalize (r_X7_best K1 (pb (K 0))).2 = K2 at hs2 ⊢
      have e2 := hs2.1 0 (by decide)
      refine j_iload_n C dL_areInvoicesSo_310 rfl ?_
      refine j_aload_n C dL_areInvoicesSo_311 rfl ?_
      refine j_bipush C dL_areInvoicesSo_312 (8 : Int32) (by decide) ?_
      refine j_callViRW C g_L_8 (c_X7_count l D ca g K2 (8 : Int32)) 0 fW_0 hcl_X7 ⟨Nat.le_of_ble_eq_true rfl, Nat.le_of_ble_eq_true rfl⟩ ⟨Nat.le_of_ble_eq_true rfl, Nat.le_of_ble_eq_true rfl⟩ rfl rfl (Nat.le_of_ble_eq_true rfl) dL_areInvoicesSo_314 ?_
      refine j_sti (y := (ct (K 0) 2)) (by rw [cnt_8, e2]; exact e_ctState hI 2) ?_
      refine j_icmp_ne (tgt := 334) C dL_areInvoicesSo_317 (by decide) (fun h => absurd Cl.1 h) (fun _ => ?_)
      refine j_iload_n C dL_areInvoicesSo_320 rfl ?_
      refine j_aload_n C dL_areInvoicesSo_321 rfl ?_
      refine j_bipush C dL_areInvoicesSo_322 (9 : Int32) (by decide) ?_
      refine j_callViRW C g_L_8 (c_X7_count l D ca g K2 (9 : Int32)) 0 fW_0 hcl_X7 ⟨Nat.le_of_ble_eq_true rfl, Nat.le_of_ble_eq_true rfl⟩ ⟨Nat.le_of_ble_eq_true rfl, Nat.le_of_ble_eq_true rfl⟩ rfl rfl (Nat.le_of_ble_eq_true rfl) dL_areInvoicesSo_324 ?_
      refine j_sti (y := (ct (K 0) 3)) (by rw [cnt_9, e2]; exact e_ctState hI 3) ?_
      refine j_icmp_ne (tgt := 334) C dL_areInvoicesSo_327 (by decide) (fun h => absurd Cl.2 h) (fun _ => ?_)
      refine j_iconst C dL_areInvoicesSo_330 (1 : Int32) (by decide) ?_
      refine j_goto (tgt := 335) C dL_areInvoicesSo_331 (by decide) ?_
      exact j_zret E rfl dL_areInvoicesSo_335 ⟨rfl, K2, hs2, rfl⟩
    | succ c ih =>
      intro a4 K1 hs h0 h1
      have e1 := hs.1 0 (by decide)
      have hI1 := Sm_I hs hI
      have hpl := i_hi (pb (K 0))
      obtain ⟨x, ex, xN, xA, xr⟩ := best_in hI1 (by omega) a4 h0 (by rw [e1]; omega)
      have hs2 := Sm_trans hs (C_best hI1 (by omega) a4 h0).2.1
      have n1 := (C_best hI1 (by omega) a4 h0).1
      rw [e1] at xN xA xr
      have xt : (Int32.ofNat x).toInt = x := an_toInt (by have := Inv_s hI; unfold sN at xN; omega)
      refine j_iload C dL_areInvoicesSo_243 rfl ?_
      refine j_iload_n C dL_areInvoicesSo_245 rfl ?_
      refine j_icmp_ge (tgt := 300) C dL_areInvoicesSo_246 (by decide) (fun h => absurd h (by rw [i_le]; omega)) (fun _ => ?_)
      refine j_aload_n C dL_areInvoicesSo_249 rfl ?_
      refine j_iload C dL_areInvoicesSo_250 rfl ?_
      refine j_callViW C g_L_63 (c_X7_best l D ca g K1 a4 n1) 0 fW_0 hcl_X7 ⟨Nat.le_of_ble_eq_true rfl, Nat.le_of_ble_eq_true rfl⟩ ⟨Nat.le_of_ble_eq_true rfl, Nat.le_of_ble_eq_true rfl⟩ rfl rfl (Nat.le_of_ble_eq_true rfl) dL_areInvoicesSo_252 fst_f ?_
      refine j_sti (y := (Int32.ofNat x)) ex ?_
      generalize (r_X7_best K1 a4).2 = K2 at hs2 ⊢
      have e2 := hs2.1 0 (by decide)
      have hI2 := Sm_I hs2 hI
      refine j_istore C [(5, _), (0, _), (1, _), (2, _), (3, _), (4, _)] dL_areInvoicesSo_255 (by decide) rfl ?_
      refine j_iload C dL_areInvoicesSo_257 rfl ?_
      refine j_if_lt (tgt := 292) C dL_areInvoicesSo_259 (by decide) (fun h => absurd h (by rw [i_lt, xt]; show ¬ ((x : Int) < 0); omega)) (fun _ => ?_)
      refine j_aload_n C dL_areInvoicesSo_262 rfl ?_
      refine j_iload C dL_areInvoicesSo_263 rfl ?_
      refine j_bipush C dL_areInvoicesSo_265 (9 : Int32) (by decide) ?_
      refine j_callViRW C g_L_35 (c_X7_invoice l D ca g K2 (Int32.ofNat x) (9 : Int32) (n_invoice hI2 (by omega) _ _)) 0 fW_0 hcl_X7 ⟨Nat.le_of_ble_eq_true rfl, Nat.le_of_ble_eq_true rfl⟩ ⟨Nat.le_of_ble_eq_true rfl, Nat.le_of_ble_eq_true rfl⟩ rfl rfl (Nat.le_of_ble_eq_true rfl) dL_areInvoicesSo_267 ?_
      refine j_sti (y := (1 : Int32)) (iv_9A e2 hI xN xA) ?_
      refine j_iconst C dL_areInvoicesSo_270 (1 : Int32) (by decide) ?_
      refine j_icmp_ne (tgt := 292) C dL_areInvoicesSo_271 (by decide) (fun h => absurd rfl h) (fun _ => ?_)
      refine j_iload C dL_areInvoicesSo_274 rfl ?_
      refine j_if_le (tgt := 294) C dL_areInvoicesSo_276 (by decide) (fun (h276 : a4 ≤ (0 : Int32)) => ?_) (fun (h276 : ¬ (a4 ≤ (0 : Int32))) => ?_)
      · refine j_iinc C [(4, _), (5, _), (0, _), (1, _), (2, _), (3, _)] (v := (a4 + (1 : Int32))) dL_areInvoicesSo_294 rfl (iinc_1 _) (by decide) rfl ?_
        refine j_goto (tgt := 243) C dL_areInvoicesSo_297 (by decide) ?_
        refine j_lv [(0, .ref (g 0)), (1, .int (pb (K 0))), (2, .int (sm (K 0) 4 6)), (3, .int (sm (K 0) 5 6)), (4, .int (a4 + (1 : Int32)))] rfl ?_
        exact ih _ K2 hs2 (by rw [ii_succ (by omega)]; omega) (by rw [ii_succ (by omega)]; omega)
      · have a4p : 0 < a4.toInt := by rw [i_le] at h276; exact Int.not_le.mp h276
        have pm := (pred_toInt a4p).1
        obtain ⟨x2, ex2, x2N, x2A, x2r⟩ := best_in hI2 (by omega) (a4 - 1) (by omega) (by rw [e2]; omega)
        have n2 := (C_best hI2 (by omega) (a4 - 1) (by omega)).1
        have hs3 := Sm_trans hs2 (C_best hI2 (by omega) (a4 - 1) (by omega)).2.1
        rw [e2] at x2N x2r
        have xt2 : (Int32.ofNat x2).toInt = x2 := an_toInt (by have := Inv_s hI; unfold sN at x2N; omega)
        refine j_aload_n C dL_areInvoicesSo_279 rfl ?_
        refine j_iload C dL_areInvoicesSo_280 rfl ?_
        refine j_iconst C dL_areInvoicesSo_282 (1 : Int32) (by decide) ?_
        refine j_isub C dL_areInvoicesSo_283 ?_
        refine j_callViW C g_L_63 (c_X7_best l D ca g K2 (a4 - (1 : Int32)) n2) 0 fW_0 hcl_X7 ⟨Nat.le_of_ble_eq_true rfl, Nat.le_of_ble_eq_true rfl⟩ ⟨Nat.le_of_ble_eq_true rfl, Nat.le_of_ble_eq_true rfl⟩ rfl rfl (Nat.le_of_ble_eq_true rfl) dL_areInvoicesSo_284 fst_f ?_
        refine j_sti (y := (Int32.ofNat x2)) ex2 ?_
        generalize (r_X7_best K2 (a4 - 1)).2 = K3 at hs3 ⊢
        refine j_iload C dL_areInvoicesSo_287 rfl ?_
        refine j_icmp_ne (tgt := 294) C dL_areInvoicesSo_289 (by decide) (fun _ => ?_) (fun h => absurd h (by rw [i_eq, xt, xt2]; intro q; have qq : x2 = x := (by omega); subst qq; omega))
        refine j_iinc C [(4, _), (5, _), (0, _), (1, _), (2, _), (3, _)] (v := (a4 + (1 : Int32))) dL_areInvoicesSo_294 rfl (iinc_1 _) (by decide) rfl ?_
        refine j_goto (tgt := 243) C dL_areInvoicesSo_297 (by decide) ?_
        refine j_lv [(0, .ref (g 0)), (1, .int (pb (K 0))), (2, .int (sm (K 0) 4 6)), (3, .int (sm (K 0) 5 6)), (4, .int (a4 + (1 : Int32)))] rfl ?_
        exact ih _ K3 hs3 (by rw [ii_succ (by omega)]; omega) (by rw [ii_succ (by omega)]; omega)
  have K207 : ∀ (c : Nat) (a2 a3 a4 : Int32), 0 ≤ a4.toInt → a4.toInt + c = 6 → a2 = sm (K 0) 4 a4.toNatClampNeg → a3 = sm (K 0) 5 a4.toNatClampNeg → J l { frames := 7, cells := 0, slots := 0, locals := 157 } D 8 X 0 0 (fW ca g K) [(0, .ref (g 0)), (1, .int (pb (K 0))), (2, .int a2), (3, .int a3), (4, .int a4)] [] 207 := by
    intro c
    induction c with
    | zero =>
      intro a2 a3 a4 h0 h1 i2 i3
      have e6 : a4.toNatClampNeg = 6 := by rw [i_nat]; omega
      rw [e6] at i2 i3
      subst i2; subst i3
      refine j_iload C dL_areInvoicesSo_207 rfl ?_
      refine j_bipush C dL_areInvoicesSo_209 (6 : Int32) (by decide) ?_
      refine j_icmp_ge (tgt := 240) C dL_areInvoicesSo_211 (by decide) (fun _ => ?_) (fun h => absurd (by rw [i_le, show (6 : Int32).toInt = 6 from rfl]; omega) h)
      refine j_iconst C dL_areInvoicesSo_240 (0 : Int32) (by decide) ?_
      refine j_istore C [(4, _), (0, _), (1, _), (2, _), (3, _)] dL_areInvoicesSo_241 (by decide) rfl ?_
      refine j_lv [(0, .ref (g 0)), (1, .int (pb (K 0))), (2, .int (sm (K 0) 4 6)), (3, .int (sm (K 0) 5 6)), (4, .int (0 : Int32))] rfl ?_
      exact K243 (pb (K 0)).toInt.toNat 0 K (Sm_refl K) (by decide) (by have := pb_0 hI; rw [show (0 : Int32).toInt = 0 from rfl]; omega)
    | succ c ih =>
      intro a2 a3 a4 h0 h1 i2 i3
      have h6 : r_X1_has (K 0) a4 = 1 := has1_1 (K 0) h0 (by omega)
      have ns := nn_succ h0 (by omega)
      have is := ii_succ (x := a4) (by omega)
      refine j_iload C dL_areInvoicesSo_207 rfl ?_
      refine j_bipush C dL_areInvoicesSo_209 (6 : Int32) (by decide) ?_
      refine j_icmp_ge (tgt := 240) C dL_areInvoicesSo_211 (by decide) (fun h => absurd h (by rw [i_le, show (6 : Int32).toInt = 6 from rfl]; omega)) (fun _ => ?_)
      refine j_iload_n C dL_areInvoicesSo_214 rfl ?_
      refine j_aload_n C dL_areInvoicesSo_215 rfl ?_
      refine j_iload C dL_areInvoicesSo_216 rfl ?_
      refine j_iconst C dL_areInvoicesSo_218 (0 : Int32) (by decide) ?_
      refine j_callViRW C g_L_60 (c_X7_client l D ca g K a4 (0 : Int32)) 0 fW_0 hcl_X7 ⟨Nat.le_of_ble_eq_true rfl, Nat.le_of_ble_eq_true rfl⟩ ⟨Nat.le_of_ble_eq_true rfl, Nat.le_of_ble_eq_true rfl⟩ rfl rfl (Nat.le_of_ble_eq_true rfl) dL_areInvoicesSo_219 ?_
      refine j_sti (y := (K 0 4 a4.toNatClampNeg)) (cli_0 h6) ?_
      refine j_iadd C dL_areInvoicesSo_222 ?_
      refine j_istore_n C [(2, _), (0, _), (1, _), (3, _), (4, _)] dL_areInvoicesSo_223 (by decide) rfl ?_
      refine j_iload_n C dL_areInvoicesSo_224 rfl ?_
      refine j_aload_n C dL_areInvoicesSo_225 rfl ?_
      refine j_iload C dL_areInvoicesSo_226 rfl ?_
      refine j_iconst C dL_areInvoicesSo_228 (1 : Int32) (by decide) ?_
      refine j_callViRW C g_L_60 (c_X7_client l D ca g K a4 (1 : Int32)) 0 fW_0 hcl_X7 ⟨Nat.le_of_ble_eq_true rfl, Nat.le_of_ble_eq_true rfl⟩ ⟨Nat.le_of_ble_eq_true rfl, Nat.le_of_ble_eq_true rfl⟩ rfl rfl (Nat.le_of_ble_eq_true rfl) dL_areInvoicesSo_229 ?_
      refine j_sti (y := (K 0 5 a4.toNatClampNeg)) (cli_1 h6) ?_
      refine j_iadd C dL_areInvoicesSo_232 ?_
      refine j_istore_n C [(3, _), (2, _), (0, _), (1, _), (4, _)] dL_areInvoicesSo_233 (by decide) rfl ?_
      refine j_iinc C [(4, _), (3, _), (2, _), (0, _), (1, _)] (v := (a4 + (1 : Int32))) dL_areInvoicesSo_234 rfl (iinc_1 _) (by decide) rfl ?_
      refine j_goto (tgt := 207) C dL_areInvoicesSo_237 (by decide) ?_
      refine j_lv [(0, .ref (g 0)), (1, .int (pb (K 0))), (2, .int (a2 + (K 0 4 a4.toNatClampNeg))), (3, .int (a3 + (K 0 5 a4.toNatClampNeg))), (4, .int (a4 + (1 : Int32)))] rfl ?_
      exact ih _ _ _ (by omega) (by omega) (by unfold sm at *; rw [ns, fs_s0, i2]) (by unfold sm at *; rw [ns, fs_s0, i3])
  have K9 : ∀ (c : Nat) (a1 a4 : Int32), 0 ≤ a4.toInt → a4.toInt + c = (K 0 16 1).toInt → a1 = fs (fun j => if Ab (K 0) j = true then 1 else 0) 0 a4.toNatClampNeg 0 → J l { frames := 7, cells := 0, slots := 0, locals := 157 } D 8 X 0 0 (fW ca g K) [(0, .ref (g 0)), (1, .int a1), (2, .int (0 : Int32)), (3, .int (0 : Int32)), (4, .int a4)] [] 9 := by
    intro c
    induction c with
    | zero =>
      intro a1 a4 h0 h1 i1
      have ep : a1 = pb (K 0) := by rw [i1]; unfold pb sN; rw [show a4.toNatClampNeg = (K 0 16 1).toInt.toNat by rw [i_nat]; omega]
      subst ep
      refine j_iload C dL_areInvoicesSo_9 rfl ?_
      refine j_aload_n C dL_areInvoicesSo_11 rfl ?_
      refine j_iconst C dL_areInvoicesSo_12 (5 : Int32) (by decide) ?_
      refine j_callViRW C g_L_8 (c_X7_count l D ca g K (5 : Int32)) 0 fW_0 hcl_X7 ⟨Nat.le_of_ble_eq_true rfl, Nat.le_of_ble_eq_true rfl⟩ ⟨Nat.le_of_ble_eq_true rfl, Nat.le_of_ble_eq_true rfl⟩ rfl rfl (Nat.le_of_ble_eq_true rfl) dL_areInvoicesSo_13 ?_
      refine j_sti (y := (K 0 16 1)) (cnt_5 K) ?_
      refine j_icmp_ge (tgt := 204) C dL_areInvoicesSo_16 (by decide) (fun _ => ?_) (fun h => absurd (by rw [i_le]; omega) h)
      refine j_iconst C dL_areInvoicesSo_204 (0 : Int32) (by decide) ?_
      refine j_istore C [(4, _), (0, _), (1, _), (2, _), (3, _)] dL_areInvoicesSo_205 (by decide) rfl ?_
      refine j_lv [(0, .ref (g 0)), (1, .int (pb (K 0))), (2, .int (0 : Int32)), (3, .int (0 : Int32)), (4, .int (0 : Int32))] rfl ?_
      exact K207 6 0 0 0 (by decide) rfl rfl rfl
    | succ c ih =>
      intro a1 a4 h0 h1 i1
      have hs := Inv_s hI
      have hh : r_X3_has (K 0) a4 = 1 := has3_1 hI h0 (by omega)
      have ns := nn_succ h0 (by omega)
      have is := ii_succ (x := a4) (by omega)
      have Vk := Vs a4.toNatClampNeg (nat_lt_i h0 (by omega))
      have ad := adv_of hI h0 (by omega)
      have pd := paid_of hI h0 (by omega)
      have oc := (offer_cut hI (by omega) h0 (by omega) 0).2
      refine j_iload C dL_areInvoicesSo_9 rfl ?_
      refine j_aload_n C dL_areInvoicesSo_11 rfl ?_
      refine j_iconst C dL_areInvoicesSo_12 (5 : Int32) (by decide) ?_
      refine j_callViRW C g_L_8 (c_X7_count l D ca g K (5 : Int32)) 0 fW_0 hcl_X7 ⟨Nat.le_of_ble_eq_true rfl, Nat.le_of_ble_eq_true rfl⟩ ⟨Nat.le_of_ble_eq_true rfl, Nat.le_of_ble_eq_true rfl⟩ rfl rfl (Nat.le_of_ble_eq_true rfl) dL_areInvoicesSo_13 ?_
      refine j_sti (y := (K 0 16 1)) (cnt_5 K) ?_
      refine j_icmp_ge (tgt := 204) C dL_areInvoicesSo_16 (by decide) (fun h => absurd h (by rw [i_le]; omega)) (fun _ => ?_)
      refine j_aload_n C dL_areInvoicesSo_19 rfl ?_
      refine j_iload C dL_areInvoicesSo_20 rfl ?_
      refine j_iconst C dL_areInvoicesSo_22 (4 : Int32) (by decide) ?_
      refine j_callViRW C g_L_35 (c_X7_invoice l D ca g K a4 (4 : Int32) (n_invoice hI (by omega) _ _)) 0 fW_0 hcl_X7 ⟨Nat.le_of_ble_eq_true rfl, Nat.le_of_ble_eq_true rfl⟩ ⟨Nat.le_of_ble_eq_true rfl, Nat.le_of_ble_eq_true rfl⟩ rfl rfl (Nat.le_of_ble_eq_true rfl) dL_areInvoicesSo_23 ?_
      refine j_sti (y := (K 0 11 a4.toNatClampNeg)) (iv_4 hh) ?_
      refine j_istore C [(5, _), (0, _), (1, _), (2, _), (3, _), (4, _)] dL_areInvoicesSo_26 (by decide) rfl ?_
      refine j_iload_n C dL_areInvoicesSo_28 rfl ?_
      refine j_aload_n C dL_areInvoicesSo_29 rfl ?_
      refine j_iload C dL_areInvoicesSo_30 rfl ?_
      refine j_bipush C dL_areInvoicesSo_32 (9 : Int32) (by decide) ?_
      refine j_callViRW C g_L_35 (c_X7_invoice l D ca g K a4 (9 : Int32) (n_invoice hI (by omega) _ _)) 0 fW_0 hcl_X7 ⟨Nat.le_of_ble_eq_true rfl, Nat.le_of_ble_eq_true rfl⟩ ⟨Nat.le_of_ble_eq_true rfl, Nat.le_of_ble_eq_true rfl⟩ rfl rfl (Nat.le_of_ble_eq_true rfl) dL_areInvoicesSo_34 ?_
      refine j_sti (y := (if Ab (K 0) a4.toNatClampNeg = true then 1 else 0)) (iv_9b hh h0) ?_
      refine j_iadd C dL_areInvoicesSo_37 ?_
      refine j_istore_n C [(1, _), (5, _), (0, _), (2, _), (3, _), (4, _)] dL_areInvoicesSo_38 (by decide) rfl ?_
      refine j_aload_n C dL_areInvoicesSo_39 rfl ?_
      refine j_iload C dL_areInvoicesSo_40 rfl ?_
      refine j_iconst C dL_areInvoicesSo_42 (5 : Int32) (by decide) ?_
      refine j_callViRW C g_L_35 (c_X7_invoice l D ca g K a4 (5 : Int32) (n_invoice hI (by omega) _ _)) 0 fW_0 hcl_X7 ⟨Nat.le_of_ble_eq_true rfl, Nat.le_of_ble_eq_true rfl⟩ ⟨Nat.le_of_ble_eq_true rfl, Nat.le_of_ble_eq_true rfl⟩ rfl rfl (Nat.le_of_ble_eq_true rfl) dL_areInvoicesSo_43 ?_
      refine j_sti (y := (K 0 12 a4.toNatClampNeg)) (iv_5 hh) ?_
      refine j_aload_n C dL_areInvoicesSo_46 rfl ?_
      refine j_iload C dL_areInvoicesSo_47 rfl ?_
      refine j_iconst C dL_areInvoicesSo_49 (2 : Int32) (by decide) ?_
      refine j_callViRW C g_L_35 (c_X7_invoice l D ca g K a4 (2 : Int32) (n_invoice hI (by omega) _ _)) 0 fW_0 hcl_X7 ⟨Nat.le_of_ble_eq_true rfl, Nat.le_of_ble_eq_true rfl⟩ ⟨Nat.le_of_ble_eq_true rfl, Nat.le_of_ble_eq_true rfl⟩ rfl rfl (Nat.le_of_ble_eq_true rfl) dL_areInvoicesSo_50 ?_
      refine j_sti (y := (K 0 9 a4.toNatClampNeg)) (iv_2 hh) ?_
      have K61 : ∀ x6 : Int32, x6 = (if K 0 11 a4.toNatClampNeg = 2 then (1 : Int32) else 0) → J l { frames := 7, cells := 0, slots := 0, locals := 157 } D 8 X 0 0 (fW ca g K) [(1, .int (a1 + (if Ab (K 0) a4.toNatClampNeg = true then 1 else 0))), (5, .int (K 0 11 a4.toNatClampNeg)), (0, .ref (g 0)), (2, .int (0 : Int32)), (3, .int (0 : Int32)), (4, .int a4)] [.int x6] 61 := by
        intro x6 h53x
        refine j_istore C [(6, _), (1, _), (5, _), (0, _), (2, _), (3, _), (4, _)] dL_areInvoicesSo_61 (by decide) rfl ?_
        refine j_iload C dL_areInvoicesSo_63 rfl ?_
        have K127 : J l { frames := 7, cells := 0, slots := 0, locals := 157 } D 8 X 0 0 (fW ca g K) [(6, .int x6), (1, .int (a1 + (if Ab (K 0) a4.toNatClampNeg = true then 1 else 0))), (5, .int (K 0 11 a4.toNatClampNeg)), (0, .ref (g 0)), (2, .int (0 : Int32)), (3, .int (0 : Int32)), (4, .int a4)] [.int (1 : Int32)] 127 := by
          refine j_istore C [(7, _), (6, _), (1, _), (5, _), (0, _), (2, _), (3, _), (4, _)] dL_areInvoicesSo_127 (by decide) rfl ?_
          refine j_aload_n C dL_areInvoicesSo_129 rfl ?_
          refine j_iload C dL_areInvoicesSo_130 rfl ?_
          refine j_iconst C dL_areInvoicesSo_132 (5 : Int32) (by decide) ?_
          refine j_callViRW C g_L_35 (c_X7_invoice l D ca g K a4 (5 : Int32) (n_invoice hI (by omega) _ _)) 0 fW_0 hcl_X7 ⟨Nat.le_of_ble_eq_true rfl, Nat.le_of_ble_eq_true rfl⟩ ⟨Nat.le_of_ble_eq_true rfl, Nat.le_of_ble_eq_true rfl⟩ rfl rfl (Nat.le_of_ble_eq_true rfl) dL_areInvoicesSo_133 ?_
          refine j_sti (y := (K 0 12 a4.toNatClampNeg)) (iv_5 hh) ?_
          refine j_aload_n C dL_areInvoicesSo_136 rfl ?_
          refine j_iload C dL_areInvoicesSo_137 rfl ?_
          refine j_iconst C dL_areInvoicesSo_139 (2 : Int32) (by decide) ?_
          refine j_callViRW C g_L_35 (c_X7_invoice l D ca g K a4 (2 : Int32) (n_invoice hI (by omega) _ _)) 0 fW_0 hcl_X7 ⟨Nat.le_of_ble_eq_true rfl, Nat.le_of_ble_eq_true rfl⟩ ⟨Nat.le_of_ble_eq_true rfl, Nat.le_of_ble_eq_true rfl⟩ rfl rfl (Nat.le_of_ble_eq_true rfl) dL_areInvoicesSo_140 ?_
          refine j_sti (y := (K 0 9 a4.toNatClampNeg)) (iv_2 hh) ?_
          refine j_icmp_gt (tgt := 196) C dL_areInvoicesSo_143 (by decide) (fun h => absurd h (by rw [i_lt]; omega)) (fun _ => ?_)
          refine j_iload C dL_areInvoicesSo_146 rfl ?_
          refine j_iload C dL_areInvoicesSo_148 rfl ?_
          refine j_iconst C dL_areInvoicesSo_150 (2 : Int32) (by decide) ?_
          have K159 : ∀ x9 : Int32, x9 = (if K 0 11 a4.toNatClampNeg = 2 then (1 : Int32) else 0) → J l { frames := 7, cells := 0, slots := 0, locals := 157 } D 8 X 0 0 (fW ca g K) [(7, .int (1 : Int32)), (6, .int x6), (1, .int (a1 + (if Ab (K 0) a4.toNatClampNeg = true then 1 else 0))), (5, .int (K 0 11 a4.toNatClampNeg)), (0, .ref (g 0)), (2, .int (0 : Int32)), (3, .int (0 : Int32)), (4, .int a4)] [.int x9, .int x6] 159 := by
            intro x9 h151x
            refine j_icmp_ne (tgt := 196) C dL_areInvoicesSo_159 (by decide) (fun h => absurd (h53x.trans h151x.symm) h) (fun _ => ?_)
            refine j_iload C dL_areInvoicesSo_162 rfl ?_
            refine j_if_eq (tgt := 196) C dL_areInvoicesSo_164 (by decide) (fun h => absurd h (by decide)) (fun _ => ?_)
            refine j_aload_n C dL_areInvoicesSo_167 rfl ?_
            refine j_iload C dL_areInvoicesSo_168 rfl ?_
            refine j_bipush C dL_areInvoicesSo_170 (8 : Int32) (by decide) ?_
            refine j_callViRW C g_L_35 (c_X7_invoice l D ca g K a4 (8 : Int32) (n_invoice hI (by omega) _ _)) 0 fW_0 hcl_X7 ⟨Nat.le_of_ble_eq_true rfl, Nat.le_of_ble_eq_true rfl⟩ ⟨Nat.le_of_ble_eq_true rfl, Nat.le_of_ble_eq_true rfl⟩ rfl rfl (Nat.le_of_ble_eq_true rfl) dL_areInvoicesSo_172 ?_
            refine j_sti (y := (r_X0_offerAfter (K 0) a4 0)) (iv_8 hh) ?_
            refine j_if_lt (tgt := 196) C dL_areInvoicesSo_175 (by decide) (fun h => absurd h (by rw [i_lt, show (0 : Int32).toInt = 0 from rfl]; omega)) (fun _ => ?_)
            refine j_aload_n C dL_areInvoicesSo_178 rfl ?_
            refine j_iload C dL_areInvoicesSo_179 rfl ?_
            refine j_bipush C dL_areInvoicesSo_181 (8 : Int32) (by decide) ?_
            refine j_callViRW C g_L_35 (c_X7_invoice l D ca g K a4 (8 : Int32) (n_invoice hI (by omega) _ _)) 0 fW_0 hcl_X7 ⟨Nat.le_of_ble_eq_true rfl, Nat.le_of_ble_eq_true rfl⟩ ⟨Nat.le_of_ble_eq_true rfl, Nat.le_of_ble_eq_true rfl⟩ rfl rfl (Nat.le_of_ble_eq_true rfl) dL_areInvoicesSo_183 ?_
            refine j_sti (y := (r_X0_offerAfter (K 0) a4 0)) (iv_8 hh) ?_
            refine j_aload_n C dL_areInvoicesSo_186 rfl ?_
            refine j_iload C dL_areInvoicesSo_187 rfl ?_
            refine j_iconst C dL_areInvoicesSo_189 (2 : Int32) (by decide) ?_
            refine j_callViRW C g_L_35 (c_X7_invoice l D ca g K a4 (2 : Int32) (n_invoice hI (by omega) _ _)) 0 fW_0 hcl_X7 ⟨Nat.le_of_ble_eq_true rfl, Nat.le_of_ble_eq_true rfl⟩ ⟨Nat.le_of_ble_eq_true rfl, Nat.le_of_ble_eq_true rfl⟩ rfl rfl (Nat.le_of_ble_eq_true rfl) dL_areInvoicesSo_190 ?_
            refine j_sti (y := (K 0 9 a4.toNatClampNeg)) (iv_2 hh) ?_
            refine j_icmp_le (tgt := 198) C dL_areInvoicesSo_193 (by decide) (fun _ => ?_) (fun h => absurd (by rw [i_le]; omega) h)
            refine j_iinc C [(4, _), (7, _), (6, _), (1, _), (5, _), (0, _), (2, _), (3, _)] (v := (a4 + (1 : Int32))) dL_areInvoicesSo_198 rfl (iinc_1 _) (by decide) rfl ?_
            refine j_goto (tgt := 9) C dL_areInvoicesSo_201 (by decide) ?_
            refine j_lv [(0, .ref (g 0)), (1, .int (a1 + (if Ab (K 0) a4.toNatClampNeg = true then 1 else 0))), (2, .int (0 : Int32)), (3, .int (0 : Int32)), (4, .int (a4 + (1 : Int32)))] rfl ?_
            exact ih _ _ (by omega) (by omega) (by rw [ns, fs_s0, i1])
          refine j_icmp_ne (tgt := 158) C dL_areInvoicesSo_151 (by decide) (fun (h151 : ¬ ((K 0 11 a4.toNatClampNeg) = (2 : Int32))) => ?_) (fun (h151 : (K 0 11 a4.toNatClampNeg) = (2 : Int32)) => ?_)
          · refine j_iconst C dL_areInvoicesSo_158 (0 : Int32) (by decide) ?_
            exact K159 _ (by rw [if_neg h151])
          · refine j_iconst C dL_areInvoicesSo_154 (1 : Int32) (by decide) ?_
            refine j_goto (tgt := 159) C dL_areInvoicesSo_155 (by decide) ?_
            exact K159 _ (by rw [if_pos h151])
        refine j_if_ne (tgt := 87) C dL_areInvoicesSo_65 (by decide) (fun (h65 : ¬ ((K 0 11 a4.toNatClampNeg) = (0 : Int32))) => ?_) (fun (h65 : (K 0 11 a4.toNatClampNeg) = (0 : Int32)) => ?_)
        · refine j_aload_n C dL_areInvoicesSo_87 rfl ?_
          refine j_iload C dL_areInvoicesSo_88 rfl ?_
          refine j_bipush C dL_areInvoicesSo_90 (6 : Int32) (by decide) ?_
          refine j_callViRW C g_L_35 (c_X7_invoice l D ca g K a4 (6 : Int32) (n_invoice hI (by omega) _ _)) 0 fW_0 hcl_X7 ⟨Nat.le_of_ble_eq_true rfl, Nat.le_of_ble_eq_true rfl⟩ ⟨Nat.le_of_ble_eq_true rfl, Nat.le_of_ble_eq_true rfl⟩ rfl rfl (Nat.le_of_ble_eq_true rfl) dL_areInvoicesSo_92 ?_
          refine j_sti (y := (K 0 13 a4.toNatClampNeg)) (iv_6 hh) ?_
          refine j_aload_n C dL_areInvoicesSo_95 rfl ?_
          refine j_iload C dL_areInvoicesSo_96 rfl ?_
          refine j_iconst C dL_areInvoicesSo_98 (2 : Int32) (by decide) ?_
          refine j_callViRW C g_L_35 (c_X7_invoice l D ca g K a4 (2 : Int32) (n_invoice hI (by omega) _ _)) 0 fW_0 hcl_X7 ⟨Nat.le_of_ble_eq_true rfl, Nat.le_of_ble_eq_true rfl⟩ ⟨Nat.le_of_ble_eq_true rfl, Nat.le_of_ble_eq_true rfl⟩ rfl rfl (Nat.le_of_ble_eq_true rfl) dL_areInvoicesSo_99 ?_
          refine j_sti (y := (K 0 9 a4.toNatClampNeg)) (iv_2 hh) ?_
          refine j_icmp_gt (tgt := 126) C dL_areInvoicesSo_102 (by decide) (fun h => absurd h (by rw [i_lt]; omega)) (fun _ => ?_)
          refine j_iload C dL_areInvoicesSo_105 rfl ?_
          refine j_iconst C dL_areInvoicesSo_107 (1 : Int32) (by decide) ?_
          refine j_icmp_ne (tgt := 122) C dL_areInvoicesSo_108 (by decide) (fun (h108 : ¬ ((K 0 11 a4.toNatClampNeg) = (1 : Int32))) => ?_) (fun (h108 : (K 0 11 a4.toNatClampNeg) = (1 : Int32)) => ?_)
          · refine j_iconst C dL_areInvoicesSo_122 (1 : Int32) (by decide) ?_
            refine j_goto (tgt := 127) C dL_areInvoicesSo_123 (by decide) ?_
            exact K127
          · refine j_aload_n C dL_areInvoicesSo_111 rfl ?_
            refine j_iload C dL_areInvoicesSo_112 rfl ?_
            refine j_bipush C dL_areInvoicesSo_114 (6 : Int32) (by decide) ?_
            refine j_callViRW C g_L_35 (c_X7_invoice l D ca g K a4 (6 : Int32) (n_invoice hI (by omega) _ _)) 0 fW_0 hcl_X7 ⟨Nat.le_of_ble_eq_true rfl, Nat.le_of_ble_eq_true rfl⟩ ⟨Nat.le_of_ble_eq_true rfl, Nat.le_of_ble_eq_true rfl⟩ rfl rfl (Nat.le_of_ble_eq_true rfl) dL_areInvoicesSo_116 ?_
            refine j_sti (y := (K 0 13 a4.toNatClampNeg)) (iv_6 hh) ?_
            refine j_if_le (tgt := 126) C dL_areInvoicesSo_119 (by decide) (fun h => absurd h (by rw [i_le, show (0 : Int32).toInt = 0 from rfl]; have := Vk.2.2 h108; omega)) (fun _ => ?_)
            refine j_iconst C dL_areInvoicesSo_122 (1 : Int32) (by decide) ?_
            refine j_goto (tgt := 127) C dL_areInvoicesSo_123 (by decide) ?_
            exact K127
        · refine j_aload_n C dL_areInvoicesSo_68 rfl ?_
          refine j_iload C dL_areInvoicesSo_69 rfl ?_
          refine j_bipush C dL_areInvoicesSo_71 (6 : Int32) (by decide) ?_
          refine j_callViRW C g_L_35 (c_X7_invoice l D ca g K a4 (6 : Int32) (n_invoice hI (by omega) _ _)) 0 fW_0 hcl_X7 ⟨Nat.le_of_ble_eq_true rfl, Nat.le_of_ble_eq_true rfl⟩ ⟨Nat.le_of_ble_eq_true rfl, Nat.le_of_ble_eq_true rfl⟩ rfl rfl (Nat.le_of_ble_eq_true rfl) dL_areInvoicesSo_73 ?_
          refine j_sti (y := (K 0 13 a4.toNatClampNeg)) (iv_6 hh) ?_
          refine j_if_ne (tgt := 83) C dL_areInvoicesSo_76 (by decide) (fun h => absurd (Vk.2.1 h65) h) (fun _ => ?_)
          refine j_iconst C dL_areInvoicesSo_79 (1 : Int32) (by decide) ?_
          refine j_goto (tgt := 127) C dL_areInvoicesSo_80 (by decide) ?_
          exact K127
      refine j_icmp_ne (tgt := 60) C dL_areInvoicesSo_53 (by decide) (fun (h53 : ¬ ((K 0 12 a4.toNatClampNeg) = (K 0 9 a4.toNatClampNeg))) => ?_) (fun (h53 : (K 0 12 a4.toNatClampNeg) = (K 0 9 a4.toNatClampNeg)) => ?_)
      · refine j_iconst C dL_areInvoicesSo_60 (0 : Int32) (by decide) ?_
        exact K61 _ (by rw [if_neg (fun q => h53 (Vk.1.mpr q))])
      · refine j_iconst C dL_areInvoicesSo_56 (1 : Int32) (by decide) ?_
        refine j_goto (tgt := 61) C dL_areInvoicesSo_57 (by decide) ?_
        exact K61 _ (by rw [if_pos (Vk.1.mp h53)])
  refine j_iconst C dL_areInvoicesSo_0 (0 : Int32) (by decide) ?_
  refine j_istore_n C [(1, _), (0, _)] dL_areInvoicesSo_1 (by decide) rfl ?_
  refine j_iconst C dL_areInvoicesSo_2 (0 : Int32) (by decide) ?_
  refine j_istore_n C [(2, _), (1, _), (0, _)] dL_areInvoicesSo_3 (by decide) rfl ?_
  refine j_iconst C dL_areInvoicesSo_4 (0 : Int32) (by decide) ?_
  refine j_istore_n C [(3, _), (2, _), (1, _), (0, _)] dL_areInvoicesSo_5 (by decide) rfl ?_
  refine j_iconst C dL_areInvoicesSo_6 (0 : Int32) (by decide) ?_
  refine j_istore C [(4, _), (3, _), (2, _), (1, _), (0, _)] dL_areInvoicesSo_7 (by decide) rfl ?_
  refine j_lv [(0, .ref (g 0)), (1, .int (0 : Int32)), (2, .int (0 : Int32)), (3, .int (0 : Int32)), (4, .int (0 : Int32))] rfl ?_
  exact K9 (K 0 16 1).toInt.toNat 0 0 (by decide) (by have := Inv_s hI; rw [show (0 : Int32).toInt = 0 from rfl]; omega) rfl
