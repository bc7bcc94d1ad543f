set_option maxRecDepth 100000 in
set_option maxHeartbeats 4000000 in
theorem c_X7_copyRow (l : Launch) (D : va_G) (ca : Nat → ClassId) (a b N : Nat) (hN : N < 2 ^ 31) (f h : Nat → Int32) : jM l D ca yX7_copyRow cX7_copyRow 3 (none : Option FieldType) 0 0 0 0 [.ref a, .ref b] [(a, .inl (ca 0, N, .inl f)), (b, .inl (ca 0, N, .inl h))] (jD none [(a, .inl (ca 0, N, .inl f)), (b, .inl (ca 0, N, .inl f))]) := by
  refine jM_of [(0, .ref a), (1, .ref b)] (by decide) (Nat.le_of_ble_eq_true rfl) rfl (fun X C E => ?_)
  refine j_iconst C dX7_copyRow_0 (0 : Int32) (by decide) ?_
  refine j_istore_n C [(2, _), (0, _), (1, _)] dX7_copyRow_1 (by decide) rfl ?_
  have K2 : ∀ (n i : Nat) (h1 : Nat → Int32), N - i < n → i ≤ N → (∀ j, j < i → h1 j = f j) → J l { frames := 0, cells := 0, slots := 0, locals := 0 } D 3 X 0 0 [(a, .inl (ca 0, N, .inl f)), (b, .inl (ca 0, N, .inl h1))] [(0, .ref a), (1, .ref b), (2, .int (nI i))] [] 2 := by
    intro n
    induction n with
    | zero => intro i h1 hm; exact absurd hm (Nat.not_lt_zero _)
    | succ n ih =>
      intro i h1 hm hi hf
      refine j_iload_n C dX7_copyRow_2 rfl ?_
      refine j_aload_n C dX7_copyRow_3 rfl ?_
      refine j_alen (v := nI N) C 0 dX7_copyRow_4 rfl rfl ?_
      refine j_icmp_ge (tgt := 26) C dX7_copyRow_5 (by decide) (fun h5 => ?_) (fun h5 => ?_)
      · have hiN : i = N := by
          rcases Nat.lt_or_ge i N with q | q
          · exact absurd h5 (nI_ge q hN)
          · omega
        subst hiN
        refine j_ext 1 f rfl hf ?_
        exact j_vret E dX7_copyRow_26 ⟨rfl, rfl⟩
      · have hlt : i < N := by
          rcases Nat.lt_or_ge i N with q | q
          · exact q
          · exact absurd (nI_le q (by omega)) h5
        refine j_iload_n C dX7_copyRow_8 rfl ?_
        refine j_aload_n C dX7_copyRow_9 rfl ?_
        refine j_alen (v := nI N) C 1 dX7_copyRow_10 rfl rfl ?_
        refine j_icmp_ge (tgt := 26) C dX7_copyRow_11 (by decide) (fun h => absurd h h5) (fun _ => ?_)
        refine j_aload_n C dX7_copyRow_14 rfl ?_
        refine j_iload_n C dX7_copyRow_15 rfl ?_
        refine j_aload_n C dX7_copyRow_16 rfl ?_
        refine j_iload_n C dX7_copyRow_17 rfl ?_
        refine j_iald C 0 dX7_copyRow_18 rfl (vp_in_nI hlt hN) ?_
        refine j_iast C 1 dX7_copyRow_19 rfl (vp_in_nI hlt hN) ?_
        refine j_iinc C [(2, _), (0, _), (1, _)] (v := nI (i + 1)) dX7_copyRow_20 rfl (nI_1 i) (by decide) rfl ?_
        refine j_goto (tgt := 2) C dX7_copyRow_23 (by decide) ?_
        refine j_lv [(0, .ref a), (1, .ref b), (2, .int (nI (i + 1)))] rfl ?_
        refine ih (i + 1) (upd h1 (nI i).toNatClampNeg (f (nI i).toNatClampNeg)) (by omega) (by omega) (fun j hj => ?_)
        rw [nI_clamp (show i < 2 ^ 31 by omega)]
        by_cases hji : j = i
        · subst hji; exact pk_us
        · rw [pk_un hji]; exact hf j (by omega)
  refine j_lv [(0, .ref a), (1, .ref b), (2, .int (nI 0))] rfl ?_
  exact K2 (N + 1) 0 h (by omega) (Nat.zero_le _) (fun j hj => absurd hj (Nat.not_lt_zero _))
set_option maxRecDepth 100000 in
set_option maxHeartbeats 4000000 in
theorem c_X7_copyRow_s (l : Launch) (D : va_G) (ca : Nat → ClassId) (a b N : Nat) (hN : N < 2 ^ 31) (f h : Nat → Int32) : jM l D ca yX7_copyRow cX7_copyRow 3 (none : Option FieldType) 0 0 0 0 [.ref a, .ref b] [(b, .inl (ca 0, N, .inl h)), (a, .inl (ca 0, N, .inl f))] (jD none [(b, .inl (ca 0, N, .inl f)), (a, .inl (ca 0, N, .inl f))]) := by
  refine jM_of [(0, .ref a), (1, .ref b)] (by decide) (Nat.le_of_ble_eq_true rfl) rfl (fun X C E => ?_)
  refine j_iconst C dX7_copyRow_0 (0 : Int32) (by decide) ?_
  refine j_istore_n C [(2, _), (0, _), (1, _)] dX7_copyRow_1 (by decide) rfl ?_
  have K2 : ∀ (n i : Nat) (h1 : Nat → Int32), N - i < n → i ≤ N → (∀ j, j < i → h1 j = f j) → J l { frames := 0, cells := 0, slots := 0, locals := 0 } D 3 X 0 0 [(b, .inl (ca 0, N, .inl h1)), (a, .inl (ca 0, N, .inl f))] [(0, .ref a), (1, .ref b), (2, .int (nI i))] [] 2 := by
    intro n
    induction n with
    | zero => intro i h1 hm; exact absurd hm (Nat.not_lt_zero _)
    | succ n ih =>
      intro i h1 hm hi hf
      refine j_iload_n C dX7_copyRow_2 rfl ?_
      refine j_aload_n C dX7_copyRow_3 rfl ?_
      refine j_alen (v := nI N) C 1 dX7_copyRow_4 rfl rfl ?_
      refine j_icmp_ge (tgt := 26) C dX7_copyRow_5 (by decide) (fun h5 => ?_) (fun h5 => ?_)
      · have hiN : i = N := by
          rcases Nat.lt_or_ge i N with q | q
          · exact absurd h5 (nI_ge q hN)
          · omega
        subst hiN
        refine j_ext 0 f rfl hf ?_
        exact j_vret E dX7_copyRow_26 ⟨rfl, rfl⟩
      · have hlt : i < N := by
          rcases Nat.lt_or_ge i N with q | q
          · exact q
          · exact absurd (nI_le q (by omega)) h5
        refine j_iload_n C dX7_copyRow_8 rfl ?_
        refine j_aload_n C dX7_copyRow_9 rfl ?_
        refine j_alen (v := nI N) C 0 dX7_copyRow_10 rfl rfl ?_
        refine j_icmp_ge (tgt := 26) C dX7_copyRow_11 (by decide) (fun h => absurd h h5) (fun _ => ?_)
        refine j_aload_n C dX7_copyRow_14 rfl ?_
        refine j_iload_n C dX7_copyRow_15 rfl ?_
        refine j_aload_n C dX7_copyRow_16 rfl ?_
        refine j_iload_n C dX7_copyRow_17 rfl ?_
        refine j_iald C 1 dX7_copyRow_18 rfl (vp_in_nI hlt hN) ?_
        refine j_iast C 0 dX7_copyRow_19 rfl (vp_in_nI hlt hN) ?_
        refine j_iinc C [(2, _), (0, _), (1, _)] (v := nI (i + 1)) dX7_copyRow_20 rfl (nI_1 i) (by decide) rfl ?_
        refine j_goto (tgt := 2) C dX7_copyRow_23 (by decide) ?_
        refine j_lv [(0, .ref a), (1, .ref b), (2, .int (nI (i + 1)))] rfl ?_
        refine ih (i + 1) (upd h1 (nI i).toNatClampNeg (f (nI i).toNatClampNeg)) (by omega) (by omega) (fun j hj => ?_)
        rw [nI_clamp (show i < 2 ^ 31 by omega)]
        by_cases hji : j = i
        · subst hji; exact pk_us
        · rw [pk_un hji]; exact hf j (by omega)
  refine j_lv [(0, .ref a), (1, .ref b), (2, .int (nI 0))] rfl ?_
  exact K2 (N + 1) 0 h (by omega) (Nat.zero_le _) (fun j hj => absurd hj (Nat.not_lt_zero _))
theorem rate3 {F G : Nat → UInt32} (j : Nat) (hj : j < 3) : (vf_upd (vf_upd (vf_upd F (0 : Int32).toNatClampNeg (G (0 : Int32).toNatClampNeg)) ((0 : Int32) + (1 : Int32)).toNatClampNeg (G ((0 : Int32) + (1 : Int32)).toNatClampNeg)) (((0 : Int32) + (1 : Int32)) + (1 : Int32)).toNatClampNeg (G (((0 : Int32) + (1 : Int32)) + (1 : Int32)).toNatClampNeg)) j = G j := by
  match j, hj with
  | 0, _ => rfl
  | 1, _ => rfl
  | 2, _ => rfl
theorem pl2_mb {ca : Nat → ClassId} {g h : Nat → Nat} {B Cc : jB} : [1, 6, 7, 8, 9, 21, 26, 27, 28, 29].map (fun i => (bkW ca g B ++ bkW ca h Cc)[i]?) = (mbW ca g B ++ mbW ca h Cc).map some := rfl
theorem pl2_mb_s {ca : Nat → ClassId} {g h : Nat → Nat} {B Cc : jB} : [1, 6, 7, 8, 9, 21, 26, 27, 28, 29].map (fun i => (bkW ca h Cc ++ bkW ca g B)[i]?) = (mbW ca h Cc ++ mbW ca g B).map some := rfl
theorem pl2_cl {ca : Nat → ClassId} {g h : Nat → Nat} {B Cc : jB} : [2, 10, 11, 12, 22, 30, 31, 32].map (fun i => (bkW ca g B ++ bkW ca h Cc)[i]?) = (clW ca g B ++ clW ca h Cc).map some := rfl
theorem pl2_cl_s {ca : Nat → ClassId} {g h : Nat → Nat} {B Cc : jB} : [2, 10, 11, 12, 22, 30, 31, 32].map (fun i => (bkW ca h Cc ++ bkW ca g B)[i]?) = (clW ca h Cc ++ clW ca g B).map some := rfl
theorem pl2_iv {ca : Nat → ClassId} {g h : Nat → Nat} {B Cc : jB} : [3, 13, 14, 15, 16, 17, 18, 19, 23, 33, 34, 35, 36, 37, 38, 39].map (fun i => (bkW ca g B ++ bkW ca h Cc)[i]?) = (ivW ca g B ++ ivW ca h Cc).map some := rfl
theorem pl2_iv_s {ca : Nat → ClassId} {g h : Nat → Nat} {B Cc : jB} : [3, 13, 14, 15, 16, 17, 18, 19, 23, 33, 34, 35, 36, 37, 38, 39].map (fun i => (bkW ca h Cc ++ bkW ca g B)[i]?) = (ivW ca h Cc ++ ivW ca g B).map some := rfl
def cp1 (B Cc : jB) : jB := fun r => cond (Nat.ble r 3) (B r) (cond (Nat.beq r 16) (upd (Cc 16) 0 (B 16 0)) (Cc r))
def cp2 (B Cc : jB) : jB := fun r => cond (Nat.ble r 6) (B r) (cond (Nat.beq r 16) (upd (Cc 16) 0 (B 16 0)) (Cc r))
def cp3 (B Cc : jB) : jB := fun r => cond (Nat.ble r 13) (B r) (cond (Nat.beq r 16) (upd (upd (Cc 16) 0 (B 16 0)) 1 (B 16 1)) (Cc r))
def cp4 (B Cc : jB) : jB := fun r => cond (Nat.ble r 13) (B r) (cond (Nat.beq r 15) (B 15) (cond (Nat.beq r 16) (upd (upd (Cc 16) 0 (B 16 0)) 1 (B 16 1)) (Cc r)))
def cp5 (B Cc : jB) : jB := fun r => cond (Nat.ble r 15) (B r) (cond (Nat.beq r 16) (upd (upd (Cc 16) 0 (B 16 0)) 1 (B 16 1)) (Cc r))
theorem cpf1 {ca : Nat → ClassId} {g h : Nat → Nat} {B Cc : jB} : jrep (bkW ca g B ++ bkW ca h Cc) [1, 6, 7, 8, 9, 21, 26, 27, 28, 29] (mbW ca g B ++ mbW ca h B) = bkW ca g B ++ bkW ca h (cp1 B Cc) := jrep_mg (by decide) rfl
theorem cpf1_s {ca : Nat → ClassId} {g h : Nat → Nat} {B Cc : jB} : jrep (bkW ca h Cc ++ bkW ca g B) [1, 6, 7, 8, 9, 21, 26, 27, 28, 29] (mbW ca h B ++ mbW ca g B) = bkW ca h (cp1 B Cc) ++ bkW ca g B := jrep_mg (by decide) rfl
theorem cpf2 {ca : Nat → ClassId} {g h : Nat → Nat} {B Cc : jB} : jrep (bkW ca g B ++ bkW ca h (cp1 B Cc)) [2, 10, 11, 12, 22, 30, 31, 32] (clW ca g B ++ clW ca h B) = bkW ca g B ++ bkW ca h (cp2 B Cc) := jrep_mg (by decide) rfl
theorem cpf2_s {ca : Nat → ClassId} {g h : Nat → Nat} {B Cc : jB} : jrep (bkW ca h (cp1 B Cc) ++ bkW ca g B) [2, 10, 11, 12, 22, 30, 31, 32] (clW ca h B ++ clW ca g B) = bkW ca h (cp2 B Cc) ++ bkW ca g B := jrep_mg (by decide) rfl
theorem cpf3 {ca : Nat → ClassId} {g h : Nat → Nat} {B Cc : jB} : jrep (bkW ca g B ++ bkW ca h (cp2 B Cc)) [3, 13, 14, 15, 16, 17, 18, 19, 23, 33, 34, 35, 36, 37, 38, 39] (ivW ca g B ++ ivW ca h B) = bkW ca g B ++ bkW ca h (cp3 B Cc) := jrep_mg (by decide) rfl
theorem cpf3_s {ca : Nat → ClassId} {g h : Nat → Nat} {B Cc : jB} : jrep (bkW ca h (cp2 B Cc) ++ bkW ca g B) [3, 13, 14, 15, 16, 17, 18, 19, 23, 33, 34, 35, 36, 37, 38, 39] (ivW ca h B ++ ivW ca g B) = bkW ca h (cp3 B Cc) ++ bkW ca g B := jrep_mg (by decide) rfl
theorem cpf4 {ca : Nat → ClassId} {g h : Nat → Nat} {B Cc : jB} {F1 F2 F3 : Nat → UInt32} : (((((bkW ca g B ++ bkW ca h (cp3 B Cc)).set 24 (h 4, .inl (ca 1, 3, .inr (.inr (.inl F1))))).set 24 (h 4, .inl (ca 1, 3, .inr (.inr (.inl F2))))).set 24 (h 4, .inl (ca 1, 3, .inr (.inr (.inl F3))))).set 24 (h 4, .inl (ca 1, 3, .inr (.inr (.inl (fun k => (B 15 k).toUInt32)))))) = bkW ca g B ++ bkW ca h (cp4 B Cc) := rfl
theorem cpf5 {ca : Nat → ClassId} {g h : Nat → Nat} {B Cc : jB} : jrep (bkW ca g B ++ bkW ca h (cp4 B Cc)) [5, 25] [(g 5, .inl (ca 0, 3, .inl (B 14))), (h 5, .inl (ca 0, 3, .inl (B 14)))] = bkW ca g B ++ bkW ca h (cp5 B Cc) := rfl
theorem cpf4_s {ca : Nat → ClassId} {g h : Nat → Nat} {B Cc : jB} {F1 F2 F3 : Nat → UInt32} : (((((bkW ca h (cp3 B Cc) ++ bkW ca g B).set 4 (h 4, .inl (ca 1, 3, .inr (.inr (.inl F1))))).set 4 (h 4, .inl (ca 1, 3, .inr (.inr (.inl F2))))).set 4 (h 4, .inl (ca 1, 3, .inr (.inr (.inl F3))))).set 4 (h 4, .inl (ca 1, 3, .inr (.inr (.inl (fun k => (B 15 k).toUInt32)))))) = bkW ca h (cp4 B Cc) ++ bkW ca g B := rfl
theorem cpf5_s {ca : Nat → ClassId} {g h : Nat → Nat} {B Cc : jB} : jrep (bkW ca h (cp4 B Cc) ++ bkW ca g B) [5, 25] [(h 5, .inl (ca 0, 3, .inl (B 14))), (g 5, .inl (ca 0, 3, .inl (B 14)))] = bkW ca h (cp5 B Cc) ++ bkW ca g B := rfl
set_option maxRecDepth 100000 in
set_option maxHeartbeats 4000000 in
theorem c_X4_copyFrom (l : Launch) (D : va_G) (ca : Nat → ClassId) (g h : Nat → Nat) (B Cc : jB) : jM l D ca yX4_copyFrom cX4_copyFrom 2 (none : Option FieldType) 1 22 0 0 [.ref (h 1), .ref (g 1)] (mbW ca g B ++ mbW ca h Cc) (jD none (mbW ca g B ++ mbW ca h B)) := by
  refine jM_of [(0, .ref (h 1)), (1, .ref (g 1))] (by decide) (Nat.le_of_ble_eq_true rfl) rfl (fun X C E => ?_)
  refine j_aload_n C dX4_copyFrom_0 rfl ?_
  refine j_get C f_X4_9.F 0 dX4_copyFrom_1 rfl rfl ?_
  refine j_aload_n C dX4_copyFrom_4 rfl ?_
  refine j_get C f_X4_9.F 5 dX4_copyFrom_5 rfl rfl ?_
  refine j_callSNv C g_X4_32 (c_X7_copyRow l D ca (g 6) (h 6) 8 (by decide) (B 0) (Cc 0)) ⟨Nat.le_of_ble_eq_true rfl, Nat.le_of_ble_eq_true rfl⟩ ⟨Nat.le_of_ble_eq_true rfl, Nat.le_of_ble_eq_true rfl⟩ [1, 6] rfl rfl rfl rfl (Nat.le_of_ble_eq_true rfl) dX4_copyFrom_8 rfl ?_
  refine j_aload_n C dX4_copyFrom_11 rfl ?_
  refine j_get C f_X4_15.F 0 dX4_copyFrom_12 rfl rfl ?_
  refine j_aload_n C dX4_copyFrom_15 rfl ?_
  refine j_get C f_X4_15.F 5 dX4_copyFrom_16 rfl rfl ?_
  refine j_callSNv C g_X4_32 (c_X7_copyRow l D ca (g 7) (h 7) 8 (by decide) (B 1) (Cc 1)) ⟨Nat.le_of_ble_eq_true rfl, Nat.le_of_ble_eq_true rfl⟩ ⟨Nat.le_of_ble_eq_true rfl, Nat.le_of_ble_eq_true rfl⟩ [2, 7] rfl rfl rfl rfl (Nat.le_of_ble_eq_true rfl) dX4_copyFrom_19 rfl ?_
  refine j_aload_n C dX4_copyFrom_22 rfl ?_
  refine j_get C f_X4_18.F 0 dX4_copyFrom_23 rfl rfl ?_
  refine j_aload_n C dX4_copyFrom_26 rfl ?_
  refine j_get C f_X4_18.F 5 dX4_copyFrom_27 rfl rfl ?_
  refine j_callSNv C g_X4_32 (c_X7_copyRow l D ca (g 8) (h 8) 8 (by decide) (B 2) (Cc 2)) ⟨Nat.le_of_ble_eq_true rfl, Nat.le_of_ble_eq_true rfl⟩ ⟨Nat.le_of_ble_eq_true rfl, Nat.le_of_ble_eq_true rfl⟩ [3, 8] rfl rfl rfl rfl (Nat.le_of_ble_eq_true rfl) dX4_copyFrom_30 rfl ?_
  refine j_aload_n C dX4_copyFrom_33 rfl ?_
  refine j_get C f_X4_21.F 0 dX4_copyFrom_34 rfl rfl ?_
  refine j_aload_n C dX4_copyFrom_37 rfl ?_
  refine j_get C f_X4_21.F 5 dX4_copyFrom_38 rfl rfl ?_
  refine j_callSNv C g_X4_32 (c_X7_copyRow l D ca (g 9) (h 9) 8 (by decide) (B 3) (Cc 3)) ⟨Nat.le_of_ble_eq_true rfl, Nat.le_of_ble_eq_true rfl⟩ ⟨Nat.le_of_ble_eq_true rfl, Nat.le_of_ble_eq_true rfl⟩ [4, 9] rfl rfl rfl rfl (Nat.le_of_ble_eq_true rfl) dX4_copyFrom_41 rfl ?_
  refine j_aload_n C dX4_copyFrom_44 rfl ?_
  refine j_aload_n C dX4_copyFrom_45 rfl ?_
  refine j_get C f_X4_24.F 0 dX4_copyFrom_46 rfl rfl ?_
  refine j_put C f_X4_24 5 dX4_copyFrom_49 rfl (Nat.le_of_ble_eq_true rfl) rfl rfl ?_
  exact j_vret E dX4_copyFrom_52 ⟨rfl, rfl⟩
set_option maxRecDepth 100000 in
set_option maxHeartbeats 4000000 in
theorem c_X4_copyFrom_s (l : Launch) (D : va_G) (ca : Nat → ClassId) (g h : Nat → Nat) (B Cc : jB) : jM l D ca yX4_copyFrom cX4_copyFrom 2 (none : Option FieldType) 1 22 0 0 [.ref (h 1), .ref (g 1)] (mbW ca h Cc ++ mbW ca g B) (jD none (mbW ca h B ++ mbW ca g B)) := by
  refine jM_of [(0, .ref (h 1)), (1, .ref (g 1))] (by decide) (Nat.le_of_ble_eq_true rfl) rfl (fun X C E => ?_)
  refine j_aload_n C dX4_copyFrom_0 rfl ?_
  refine j_get C f_X4_9.F 5 dX4_copyFrom_1 rfl rfl ?_
  refine j_aload_n C dX4_copyFrom_4 rfl ?_
  refine j_get C f_X4_9.F 0 dX4_copyFrom_5 rfl rfl ?_
  refine j_callSNv C g_X4_32 (c_X7_copyRow_s l D ca (g 6) (h 6) 8 (by decide) (B 0) (Cc 0)) ⟨Nat.le_of_ble_eq_true rfl, Nat.le_of_ble_eq_true rfl⟩ ⟨Nat.le_of_ble_eq_true rfl, Nat.le_of_ble_eq_true rfl⟩ [1, 6] rfl rfl rfl rfl (Nat.le_of_ble_eq_true rfl) dX4_copyFrom_8 rfl ?_
  refine j_aload_n C dX4_copyFrom_11 rfl ?_
  refine j_get C f_X4_15.F 5 dX4_copyFrom_12 rfl rfl ?_
  refine j_aload_n C dX4_copyFrom_15 rfl ?_
  refine j_get C f_X4_15.F 0 dX4_copyFrom_16 rfl rfl ?_
  refine j_callSNv C g_X4_32 (c_X7_copyRow_s l D ca (g 7) (h 7) 8 (by decide) (B 1) (Cc 1)) ⟨Nat.le_of_ble_eq_true rfl, Nat.le_of_ble_eq_true rfl⟩ ⟨Nat.le_of_ble_eq_true rfl, Nat.le_of_ble_eq_true rfl⟩ [2, 7] rfl rfl rfl rfl (Nat.le_of_ble_eq_true rfl) dX4_copyFrom_19 rfl ?_
  refine j_aload_n C dX4_copyFrom_22 rfl ?_
  refine j_get C f_X4_18.F 5 dX4_copyFrom_23 rfl rfl ?_
  refine j_aload_n C dX4_copyFrom_26 rfl ?_
  refine j_get C f_X4_18.F 0 dX4_copyFrom_27 rfl rfl ?_
  refine j_callSNv C g_X4_32 (c_X7_copyRow_s l D ca (g 8) (h 8) 8 (by decide) (B 2) (Cc 2)) ⟨Nat.le_of_ble_eq_true rfl, Nat.le_of_ble_eq_true rfl⟩ ⟨Nat.le_of_ble_eq_true rfl, Nat.le_of_ble_eq_true rfl⟩ [3, 8] rfl rfl rfl rfl (Nat.le_of_ble_eq_true rfl) dX4_copyFrom_30 rfl ?_
  refine j_aload_n C dX4_copyFrom_33 rfl ?_
  refine j_get C f_X4_21.F 5 dX4_copyFrom_34 rfl rfl ?_
  refine j_aload_n C dX4_copyFrom_37 rfl ?_
  refine j_get C f_X4_21.F 0 dX4_copyFrom_38 rfl rfl ?_
  refine j_callSNv C g_X4_32 (c_X7_copyRow_s l D ca (g 9) (h 9) 8 (by decide) (B 3) (Cc 3)) ⟨Nat.le_of_ble_eq_true rfl, Nat.le_of_ble_eq_true rfl⟩ ⟨Nat.le_of_ble_eq_true rfl, Nat.le_of_ble_eq_true rfl⟩ [4, 9] rfl rfl rfl rfl (Nat.le_of_ble_eq_true rfl) dX4_copyFrom_41 rfl ?_
  refine j_aload_n C dX4_copyFrom_44 rfl ?_
  refine j_aload_n C dX4_copyFrom_45 rfl ?_
  refine j_get C f_X4_24.F 5 dX4_copyFrom_46 rfl rfl ?_
  refine j_put C f_X4_24 0 dX4_copyFrom_49 rfl (Nat.le_of_ble_eq_true rfl) rfl rfl ?_
  exact j_vret E dX4_copyFrom_52 ⟨rfl, rfl⟩
set_option maxRecDepth 100000 in
set_option maxHeartbeats 4000000 in
theorem c_X1_copyFrom (l : Launch) (D : va_G) (ca : Nat → ClassId) (g h : Nat → Nat) (B Cc : jB) : jM l D ca yX1_copyFrom cX1_copyFrom 2 (none : Option FieldType) 1 22 0 0 [.ref (h 2), .ref (g 2)] (clW ca g B ++ clW ca h Cc) (jD none (clW ca g B ++ clW ca h B)) := by
  refine jM_of [(0, .ref (h 2)), (1, .ref (g 2))] (by decide) (Nat.le_of_ble_eq_true rfl) rfl (fun X C E => ?_)
  refine j_aload_n C dX1_copyFrom_0 rfl ?_
  refine j_get C f_X1_9.F 0 dX1_copyFrom_1 rfl rfl ?_
  refine j_aload_n C dX1_copyFrom_4 rfl ?_
  refine j_get C f_X1_9.F 4 dX1_copyFrom_5 rfl rfl ?_
  refine j_callSNv C g_X1_29 (c_X7_copyRow l D ca (g 10) (h 10) 6 (by decide) (B 4) (Cc 4)) ⟨Nat.le_of_ble_eq_true rfl, Nat.le_of_ble_eq_true rfl⟩ ⟨Nat.le_of_ble_eq_true rfl, Nat.le_of_ble_eq_true rfl⟩ [1, 5] rfl rfl rfl rfl (Nat.le_of_ble_eq_true rfl) dX1_copyFrom_8 rfl ?_
  refine j_aload_n C dX1_copyFrom_11 rfl ?_
  refine j_get C f_X1_15.F 0 dX1_copyFrom_12 rfl rfl ?_
  refine j_aload_n C dX1_copyFrom_15 rfl ?_
  refine j_get C f_X1_15.F 4 dX1_copyFrom_16 rfl rfl ?_
  refine j_callSNv C g_X1_29 (c_X7_copyRow l D ca (g 11) (h 11) 6 (by decide) (B 5) (Cc 5)) ⟨Nat.le_of_ble_eq_true rfl, Nat.le_of_ble_eq_true rfl⟩ ⟨Nat.le_of_ble_eq_true rfl, Nat.le_of_ble_eq_true rfl⟩ [2, 6] rfl rfl rfl rfl (Nat.le_of_ble_eq_true rfl) dX1_copyFrom_19 rfl ?_
  refine j_aload_n C dX1_copyFrom_22 rfl ?_
  refine j_get C f_X1_18.F 0 dX1_copyFrom_23 rfl rfl ?_
  refine j_aload_n C dX1_copyFrom_26 rfl ?_
  refine j_get C f_X1_18.F 4 dX1_copyFrom_27 rfl rfl ?_
  refine j_callSNv C g_X1_29 (c_X7_copyRow l D ca (g 12) (h 12) 6 (by decide) (B 6) (Cc 6)) ⟨Nat.le_of_ble_eq_true rfl, Nat.le_of_ble_eq_true rfl⟩ ⟨Nat.le_of_ble_eq_true rfl, Nat.le_of_ble_eq_true rfl⟩ [3, 7] rfl rfl rfl rfl (Nat.le_of_ble_eq_true rfl) dX1_copyFrom_30 rfl ?_
  exact j_vret E dX1_copyFrom_33 ⟨rfl, rfl⟩
set_option maxRecDepth 100000 in
set_option maxHeartbeats 4000000 in
theorem c_X1_copyFrom_s (l : Launch) (D : va_G) (ca : Nat → ClassId) (g h : Nat → Nat) (B Cc : jB) : jM l D ca yX1_copyFrom cX1_copyFrom 2 (none : Option FieldType) 1 22 0 0 [.ref (h 2), .ref (g 2)] (clW ca h Cc ++ clW ca g B) (jD none (clW ca h B ++ clW ca g B)) := by
  refine jM_of [(0, .ref (h 2)), (1, .ref (g 2))] (by decide) (Nat.le_of_ble_eq_true rfl) rfl (fun X C E => ?_)
  refine j_aload_n C dX1_copyFrom_0 rfl ?_
  refine j_get C f_X1_9.F 4 dX1_copyFrom_1 rfl rfl ?_
  refine j_aload_n C dX1_copyFrom_4 rfl ?_
  refine j_get C f_X1_9.F 0 dX1_copyFrom_5 rfl rfl ?_
  refine j_callSNv C g_X1_29 (c_X7_copyRow_s l D ca (g 10) (h 10) 6 (by decide) (B 4) (Cc 4)) ⟨Nat.le_of_ble_eq_true rfl, Nat.le_of_ble_eq_true rfl⟩ ⟨Nat.le_of_ble_eq_true rfl, Nat.le_of_ble_eq_true rfl⟩ [1, 5] rfl rfl rfl rfl (Nat.le_of_ble_eq_true rfl) dX1_copyFrom_8 rfl ?_
  refine j_aload_n C dX1_copyFrom_11 rfl ?_
  refine j_get C f_X1_15.F 4 dX1_copyFrom_12 rfl rfl ?_
  refine j_aload_n C dX1_copyFrom_15 rfl ?_
  refine j_get C f_X1_15.F 0 dX1_copyFrom_16 rfl rfl ?_
  refine j_callSNv C g_X1_29 (c_X7_copyRow_s l D ca (g 11) (h 11) 6 (by decide) (B 5) (Cc 5)) ⟨Nat.le_of_ble_eq_true rfl, Nat.le_of_ble_eq_true rfl⟩ ⟨Nat.le_of_ble_eq_true rfl, Nat.le_of_ble_eq_true rfl⟩ [2, 6] rfl rfl rfl rfl (Nat.le_of_ble_eq_true rfl) dX1_copyFrom_19 rfl ?_
  refine j_aload_n C dX1_copyFrom_22 rfl ?_
  refine j_get C f_X1_18.F 4 dX1_copyFrom_23 rfl rfl ?_
  refine j_aload_n C dX1_copyFrom_26 rfl ?_
  refine j_get C f_X1_18.F 0 dX1_copyFrom_27 rfl rfl ?_
  refine j_callSNv C g_X1_29 (c_X7_copyRow_s l D ca (g 12) (h 12) 6 (by decide) (B 6) (Cc 6)) ⟨Nat.le_of_ble_eq_true rfl, Nat.le_of_ble_eq_true rfl⟩ ⟨Nat.le_of_ble_eq_true rfl, Nat.le_of_ble_eq_true rfl⟩ [3, 7] rfl rfl rfl rfl (Nat.le_of_ble_eq_true rfl) dX1_copyFrom_30 rfl ?_
  exact j_vret E dX1_copyFrom_33 ⟨rfl, rfl⟩
set_option maxRecDepth 100000 in
set_option maxHeartbeats 4000000 in
theorem c_X3_copyFrom (l : Launch) (D : va_G) (ca : Nat → ClassId) (g h : Nat → Nat) (B Cc : jB) : jM l D ca yX3_copyFrom cX3_copyFrom 2 (none : Option FieldType) 1 22 0 0 [.ref (h 3), .ref (g 3)] (ivW ca g B ++ ivW ca h Cc) (jD none (ivW ca g B ++ ivW ca h B)) := by
  refine jM_of [(0, .ref (h 3)), (1, .ref (g 3))] (by decide) (Nat.le_of_ble_eq_true rfl) rfl (fun X C E => ?_)
  refine j_aload_n C dX3_copyFrom_0 rfl ?_
  refine j_get C f_X3_9.F 0 dX3_copyFrom_1 rfl rfl ?_
  refine j_aload_n C dX3_copyFrom_4 rfl ?_
  refine j_get C f_X3_9.F 8 dX3_copyFrom_5 rfl rfl ?_
  refine j_callSNv C g_X3_44 (c_X7_copyRow l D ca (g 13) (h 13) 20 (by decide) (B 7) (Cc 7)) ⟨Nat.le_of_ble_eq_true rfl, Nat.le_of_ble_eq_true rfl⟩ ⟨Nat.le_of_ble_eq_true rfl, Nat.le_of_ble_eq_true rfl⟩ [1, 9] rfl rfl rfl rfl (Nat.le_of_ble_eq_true rfl) dX3_copyFrom_8 rfl ?_
  refine j_aload_n C dX3_copyFrom_11 rfl ?_
  refine j_get C f_X3_15.F 0 dX3_copyFrom_12 rfl rfl ?_
  refine j_aload_n C dX3_copyFrom_15 rfl ?_
  refine j_get C f_X3_15.F 8 dX3_copyFrom_16 rfl rfl ?_
  refine j_callSNv C g_X3_44 (c_X7_copyRow l D ca (g 14) (h 14) 20 (by decide) (B 8) (Cc 8)) ⟨Nat.le_of_ble_eq_true rfl, Nat.le_of_ble_eq_true rfl⟩ ⟨Nat.le_of_ble_eq_true rfl, Nat.le_of_ble_eq_true rfl⟩ [2, 10] rfl rfl rfl rfl (Nat.le_of_ble_eq_true rfl) dX3_copyFrom_19 rfl ?_
  refine j_aload_n C dX3_copyFrom_22 rfl ?_
  refine j_get C f_X3_18.F 0 dX3_copyFrom_23 rfl rfl ?_
  refine j_aload_n C dX3_copyFrom_26 rfl ?_
  refine j_get C f_X3_18.F 8 dX3_copyFrom_27 rfl rfl ?_
  refine j_callSNv C g_X3_44 (c_X7_copyRow l D ca (g 15) (h 15) 20 (by decide) (B 9) (Cc 9)) ⟨Nat.le_of_ble_eq_true rfl, Nat.le_of_ble_eq_true rfl⟩ ⟨Nat.le_of_ble_eq_true rfl, Nat.le_of_ble_eq_true rfl⟩ [3, 11] rfl rfl rfl rfl (Nat.le_of_ble_eq_true rfl) dX3_copyFrom_30 rfl ?_
  refine j_aload_n C dX3_copyFrom_33 rfl ?_
  refine j_get C f_X3_21.F 0 dX3_copyFrom_34 rfl rfl ?_
  refine j_aload_n C dX3_copyFrom_37 rfl ?_
  refine j_get C f_X3_21.F 8 dX3_copyFrom_38 rfl rfl ?_
  refine j_callSNv C g_X3_44 (c_X7_copyRow l D ca (g 16) (h 16) 20 (by decide) (B 10) (Cc 10)) ⟨Nat.le_of_ble_eq_true rfl, Nat.le_of_ble_eq_true rfl⟩ ⟨Nat.le_of_ble_eq_true rfl, Nat.le_of_ble_eq_true rfl⟩ [4, 12] rfl rfl rfl rfl (Nat.le_of_ble_eq_true rfl) dX3_copyFrom_41 rfl ?_
  refine j_aload_n C dX3_copyFrom_44 rfl ?_
  refine j_get C f_X3_24.F 0 dX3_copyFrom_45 rfl rfl ?_
  refine j_aload_n C dX3_copyFrom_48 rfl ?_
  refine j_get C f_X3_24.F 8 dX3_copyFrom_49 rfl rfl ?_
  refine j_callSNv C g_X3_44 (c_X7_copyRow l D ca (g 17) (h 17) 20 (by decide) (B 11) (Cc 11)) ⟨Nat.le_of_ble_eq_true rfl, Nat.le_of_ble_eq_true rfl⟩ ⟨Nat.le_of_ble_eq_true rfl, Nat.le_of_ble_eq_true rfl⟩ [5, 13] rfl rfl rfl rfl (Nat.le_of_ble_eq_true rfl) dX3_copyFrom_52 rfl ?_
  refine j_aload_n C dX3_copyFrom_55 rfl ?_
  refine j_get C f_X3_27.F 0 dX3_copyFrom_56 rfl rfl ?_
  refine j_aload_n C dX3_copyFrom_59 rfl ?_
  refine j_get C f_X3_27.F 8 dX3_copyFrom_60 rfl rfl ?_
  refine j_callSNv C g_X3_44 (c_X7_copyRow l D ca (g 18) (h 18) 20 (by decide) (B 12) (Cc 12)) ⟨Nat.le_of_ble_eq_true rfl, Nat.le_of_ble_eq_true rfl⟩ ⟨Nat.le_of_ble_eq_true rfl, Nat.le_of_ble_eq_true rfl⟩ [6, 14] rfl rfl rfl rfl (Nat.le_of_ble_eq_true rfl) dX3_copyFrom_63 rfl ?_
  refine j_aload_n C dX3_copyFrom_66 rfl ?_
  refine j_get C f_X3_30.F 0 dX3_copyFrom_67 rfl rfl ?_
  refine j_aload_n C dX3_copyFrom_70 rfl ?_
  refine j_get C f_X3_30.F 8 dX3_copyFrom_71 rfl rfl ?_
  refine j_callSNv C g_X3_44 (c_X7_copyRow l D ca (g 19) (h 19) 20 (by decide) (B 13) (Cc 13)) ⟨Nat.le_of_ble_eq_true rfl, Nat.le_of_ble_eq_true rfl⟩ ⟨Nat.le_of_ble_eq_true rfl, Nat.le_of_ble_eq_true rfl⟩ [7, 15] rfl rfl rfl rfl (Nat.le_of_ble_eq_true rfl) dX3_copyFrom_74 rfl ?_
  refine j_aload_n C dX3_copyFrom_77 rfl ?_
  refine j_aload_n C dX3_copyFrom_78 rfl ?_
  refine j_get C f_X3_33.F 0 dX3_copyFrom_79 rfl rfl ?_
  refine j_put C f_X3_33 8 dX3_copyFrom_82 rfl (Nat.le_of_ble_eq_true rfl) rfl rfl ?_
  exact j_vret E dX3_copyFrom_85 ⟨rfl, rfl⟩
set_option maxRecDepth 100000 in
set_option maxHeartbeats 4000000 in
theorem c_X3_copyFrom_s (l : Launch) (D : va_G) (ca : Nat → ClassId) (g h : Nat → Nat) (B Cc : jB) : jM l D ca yX3_copyFrom cX3_copyFrom 2 (none : Option FieldType) 1 22 0 0 [.ref (h 3), .ref (g 3)] (ivW ca h Cc ++ ivW ca g B) (jD none (ivW ca h B ++ ivW ca g B)) := by
  refine jM_of [(0, .ref (h 3)), (1, .ref (g 3))] (by decide) (Nat.le_of_ble_eq_true rfl) rfl (fun X C E => ?_)
  refine j_aload_n C dX3_copyFrom_0 rfl ?_
  refine j_get C f_X3_9.F 8 dX3_copyFrom_1 rfl rfl ?_
  refine j_aload_n C dX3_copyFrom_4 rfl ?_
  refine j_get C f_X3_9.F 0 dX3_copyFrom_5 rfl rfl ?_
  refine j_callSNv C g_X3_44 (c_X7_copyRow_s l D ca (g 13) (h 13) 20 (by decide) (B 7) (Cc 7)) ⟨Nat.le_of_ble_eq_true rfl, Nat.le_of_ble_eq_true rfl⟩ ⟨Nat.le_of_ble_eq_true rfl, Nat.le_of_ble_eq_true rfl⟩ [1, 9] rfl rfl rfl rfl (Nat.le_of_ble_eq_true rfl) dX3_copyFrom_8 rfl ?_
  refine j_aload_n C dX3_copyFrom_11 rfl ?_
  refine j_get C f_X3_15.F 8 dX3_copyFrom_12 rfl rfl ?_
  refine j_aload_n C dX3_copyFrom_15 rfl ?_
  refine j_get C f_X3_15.F 0 dX3_copyFrom_16 rfl rfl ?_
  refine j_callSNv C g_X3_44 (c_X7_copyRow_s l D ca (g 14) (h 14) 20 (by decide) (B 8) (Cc 8)) ⟨Nat.le_of_ble_eq_true rfl, Nat.le_of_ble_eq_true rfl⟩ ⟨Nat.le_of_ble_eq_true rfl, Nat.le_of_ble_eq_true rfl⟩ [2, 10] rfl rfl rfl rfl (Nat.le_of_ble_eq_true rfl) dX3_copyFrom_19 rfl ?_
  refine j_aload_n C dX3_copyFrom_22 rfl ?_
  refine j_get C f_X3_18.F 8 dX3_copyFrom_23 rfl rfl ?_
  refine j_aload_n C dX3_copyFrom_26 rfl ?_
  refine j_get C f_X3_18.F 0 dX3_copyFrom_27 rfl rfl ?_
  refine j_callSNv C g_X3_44 (c_X7_copyRow_s l D ca (g 15) (h 15) 20 (by decide) (B 9) (Cc 9)) ⟨Nat.le_of_ble_eq_true rfl, Nat.le_of_ble_eq_true rfl⟩ ⟨Nat.le_of_ble_eq_true rfl, Nat.le_of_ble_eq_true rfl⟩ [3, 11] rfl rfl rfl rfl (Nat.le_of_ble_eq_true rfl) dX3_copyFrom_30 rfl ?_
  refine j_aload_n C dX3_copyFrom_33 rfl ?_
  refine j_get C f_X3_21.F 8 dX3_copyFrom_34 rfl rfl ?_
  refine j_aload_n C dX3_copyFrom_37 rfl ?_
  refine j_get C f_X3_21.F 0 dX3_copyFrom_38 rfl rfl ?_
  refine j_callSNv C g_X3_44 (c_X7_copyRow_s l D ca (g 16) (h 16) 20 (by decide) (B 10) (Cc 10)) ⟨Nat.le_of_ble_eq_true rfl, Nat.le_of_ble_eq_true rfl⟩ ⟨Nat.le_of_ble_eq_true rfl, Nat.le_of_ble_eq_true rfl⟩ [4, 12] rfl rfl rfl rfl (Nat.le_of_ble_eq_true rfl) dX3_copyFrom_41 rfl ?_
  refine j_aload_n C dX3_copyFrom_44 rfl ?_
  refine j_get C f_X3_24.F 8 dX3_copyFrom_45 rfl rfl ?_
  refine j_aload_n C dX3_copyFrom_48 rfl ?_
  refine j_get C f_X3_24.F 0 dX3_copyFrom_49 rfl rfl ?_
  refine j_callSNv C g_X3_44 (c_X7_copyRow_s l D ca (g 17) (h 17) 20 (by decide) (B 11) (Cc 11)) ⟨Nat.le_of_ble_eq_true rfl, Nat.le_of_ble_eq_true rfl⟩ ⟨Nat.le_of_ble_eq_true rfl, Nat.le_of_ble_eq_true rfl⟩ [5, 13] rfl rfl rfl rfl (Nat.le_of_ble_eq_true rfl) dX3_copyFrom_52 rfl ?_
  refine j_aload_n C dX3_copyFrom_55 rfl ?_
  refine j_get C f_X3_27.F 8 dX3_copyFrom_56 rfl rfl ?_
  refine j_aload_n C dX3_copyFrom_59 rfl ?_
  refine j_get C f_X3_27.F 0 dX3_copyFrom_60 rfl rfl ?_
  refine j_callSNv C g_X3_44 (c_X7_copyRow_s l D ca (g 18) (h 18) 20 (by decide) (B 12) (Cc 12)) ⟨Nat.le_of_ble_eq_true rfl, Nat.le_of_ble_eq_true rfl⟩ ⟨Nat.le_of_ble_eq_true rfl, Nat.le_of_ble_eq_true rfl⟩ [6, 14] rfl rfl rfl rfl (Nat.le_of_ble_eq_true rfl) dX3_copyFrom_63 rfl ?_
  refine j_aload_n C dX3_copyFrom_66 rfl ?_
  refine j_get C f_X3_30.F 8 dX3_copyFrom_67 rfl rfl ?_
  refine j_aload_n C dX3_copyFrom_70 rfl ?_
  refine j_get C f_X3_30.F 0 dX3_copyFrom_71 rfl rfl ?_
  refine j_callSNv C g_X3_44 (c_X7_copyRow_s l D ca (g 19) (h 19) 20 (by decide) (B 13) (Cc 13)) ⟨Nat.le_of_ble_eq_true rfl, Nat.le_of_ble_eq_true rfl⟩ ⟨Nat.le_of_ble_eq_true rfl, Nat.le_of_ble_eq_true rfl⟩ [7, 15] rfl rfl rfl rfl (Nat.le_of_ble_eq_true rfl) dX3_copyFrom_74 rfl ?_
  refine j_aload_n C dX3_copyFrom_77 rfl ?_
  refine j_aload_n C dX3_copyFrom_78 rfl ?_
  refine j_get C f_X3_33.F 8 dX3_copyFrom_79 rfl rfl ?_
  refine j_put C f_X3_33 0 dX3_copyFrom_82 rfl (Nat.le_of_ble_eq_true rfl) rfl rfl ?_
  exact j_vret E dX3_copyFrom_85 ⟨rfl, rfl⟩
set_option maxRecDepth 100000 in
set_option maxHeartbeats 4000000 in
theorem c_X0_copyFrom (l : Launch) (D : va_G) (ca : Nat → ClassId) (g h : Nat → Nat) (B Cc : jB) : jM l D ca yX0_copyFrom cX0_copyFrom 3 (none : Option FieldType) 2 43 0 0 [.ref (h 0), .ref (g 0)] (bkW ca g B ++ bkW ca h Cc) (jD none (bkW ca g B ++ bkW ca h B)) := by
  refine jM_of [(0, .ref (h 0)), (1, .ref (g 0))] (by decide) (Nat.le_of_ble_eq_true rfl) rfl (fun X C E => ?_)
  refine j_aload_n C dX0_copyFrom_0 rfl ?_
  refine j_get C f_X0_12.F 20 dX0_copyFrom_1 rfl rfl ?_
  refine j_aload_n C dX0_copyFrom_4 rfl ?_
  refine j_get C f_X0_12.F 0 dX0_copyFrom_5 rfl rfl ?_
  refine j_callVv C g_X0_152 (c_X4_copyFrom l D ca g h B Cc) 21 rfl hcl_X4 ⟨Nat.le_of_ble_eq_true rfl, Nat.le_of_ble_eq_true rfl⟩ ⟨Nat.le_of_ble_eq_true rfl, Nat.le_of_ble_eq_true rfl⟩ [1, 6, 7, 8, 9, 21, 26, 27, 28, 29] pl2_mb rfl rfl rfl (Nat.le_of_ble_eq_true rfl) dX0_copyFrom_8 rfl ?_
  refine j_ws (ws' := bkW ca g B ++ bkW ca h (cp1 B Cc)) cpf1 ?_
  refine j_aload_n C dX0_copyFrom_11 rfl ?_
  refine j_get C f_X0_21.F 20 dX0_copyFrom_12 rfl rfl ?_
  refine j_aload_n C dX0_copyFrom_15 rfl ?_
  refine j_get C f_X0_21.F 0 dX0_copyFrom_16 rfl rfl ?_
  refine j_callVv C g_X0_156 (c_X1_copyFrom l D ca g h B (cp1 B Cc)) 22 rfl hcl_X1 ⟨Nat.le_of_ble_eq_true rfl, Nat.le_of_ble_eq_true rfl⟩ ⟨Nat.le_of_ble_eq_true rfl, Nat.le_of_ble_eq_true rfl⟩ [2, 10, 11, 12, 22, 30, 31, 32] pl2_cl rfl rfl rfl (Nat.le_of_ble_eq_true rfl) dX0_copyFrom_19 rfl ?_
  refine j_ws (ws' := bkW ca g B ++ bkW ca h (cp2 B Cc)) cpf2 ?_
  refine j_aload_n C dX0_copyFrom_22 rfl ?_
  refine j_get C f_X0_28.F 20 dX0_copyFrom_23 rfl rfl ?_
  refine j_aload_n C dX0_copyFrom_26 rfl ?_
  refine j_get C f_X0_28.F 0 dX0_copyFrom_27 rfl rfl ?_
  refine j_callVv C g_X0_159 (c_X3_copyFrom l D ca g h B (cp2 B Cc)) 23 rfl hcl_X3 ⟨Nat.le_of_ble_eq_true rfl, Nat.le_of_ble_eq_true rfl⟩ ⟨Nat.le_of_ble_eq_true rfl, Nat.le_of_ble_eq_true rfl⟩ [3, 13, 14, 15, 16, 17, 18, 19, 23, 33, 34, 35, 36, 37, 38, 39] pl2_iv rfl rfl rfl (Nat.le_of_ble_eq_true rfl) dX0_copyFrom_30 rfl ?_
  refine j_ws (ws' := bkW ca g B ++ bkW ca h (cp3 B Cc)) cpf3 ?_
  refine j_iconst C dX0_copyFrom_33 (0 : Int32) (by decide) ?_
  refine j_istore_n C [(2, _), (0, _), (1, _)] dX0_copyFrom_34 (by decide) rfl ?_
  refine j_iload_n C dX0_copyFrom_35 rfl ?_
  refine j_iconst C dX0_copyFrom_36 (3 : Int32) (by decide) ?_
  refine j_icmp_ge (tgt := 58) C dX0_copyFrom_37 (by decide) (fun h => absurd h (by decide)) (fun _ => ?_)
  refine j_aload_n C dX0_copyFrom_40 rfl ?_
  refine j_get C f_X0_32.F 20 dX0_copyFrom_41 rfl rfl ?_
  refine j_iload_n C dX0_copyFrom_44 rfl ?_
  refine j_aload_n C dX0_copyFrom_45 rfl ?_
  refine j_get C f_X0_32.F 0 dX0_copyFrom_46 rfl rfl ?_
  refine j_iload_n C dX0_copyFrom_49 rfl ?_
  refine j_fald C 4 dX0_copyFrom_50 rfl (vin_c rfl) ?_
  refine j_fast C 24 dX0_copyFrom_51 rfl (vin_c rfl) ?_
  refine j_iinc C [(2, _), (0, _), (1, _)] (v := ((0 : Int32) + (1 : Int32))) dX0_copyFrom_52 rfl (iinc_1 _) (by decide) rfl ?_
  refine j_goto (tgt := 35) C dX0_copyFrom_55 (by decide) ?_
  refine j_iload_n C dX0_copyFrom_35 rfl ?_
  refine j_iconst C dX0_copyFrom_36 (3 : Int32) (by decide) ?_
  refine j_icmp_ge (tgt := 58) C dX0_copyFrom_37 (by decide) (fun h => absurd h (by decide)) (fun _ => ?_)
  refine j_aload_n C dX0_copyFrom_40 rfl ?_
  refine j_get C f_X0_32.F 20 dX0_copyFrom_41 rfl rfl ?_
  refine j_iload_n C dX0_copyFrom_44 rfl ?_
  refine j_aload_n C dX0_copyFrom_45 rfl ?_
  refine j_get C f_X0_32.F 0 dX0_copyFrom_46 rfl rfl ?_
  refine j_iload_n C dX0_copyFrom_49 rfl ?_
  refine j_fald C 4 dX0_copyFrom_50 rfl (vin_c rfl) ?_
  refine j_fast C 24 dX0_copyFrom_51 rfl (vin_c rfl) ?_
  refine j_iinc C [(2, _), (0, _), (1, _)] (v := (((0 : Int32) + (1 : Int32)) + (1 : Int32))) dX0_copyFrom_52 rfl (iinc_1 _) (by decide) rfl ?_
  refine j_goto (tgt := 35) C dX0_copyFrom_55 (by decide) ?_
  refine j_iload_n C dX0_copyFrom_35 rfl ?_
  refine j_iconst C dX0_copyFrom_36 (3 : Int32) (by decide) ?_
  refine j_icmp_ge (tgt := 58) C dX0_copyFrom_37 (by decide) (fun h => absurd h (by decide)) (fun _ => ?_)
  refine j_aload_n C dX0_copyFrom_40 rfl ?_
  refine j_get C f_X0_32.F 20 dX0_copyFrom_41 rfl rfl ?_
  refine j_iload_n C dX0_copyFrom_44 rfl ?_
  refine j_aload_n C dX0_copyFrom_45 rfl ?_
  refine j_get C f_X0_32.F 0 dX0_copyFrom_46 rfl rfl ?_
  refine j_iload_n C dX0_copyFrom_49 rfl ?_
  refine j_fald C 4 dX0_copyFrom_50 rfl (vin_c rfl) ?_
  refine j_fast C 24 dX0_copyFrom_51 rfl (vin_c rfl) ?_
  refine j_iinc C [(2, _), (0, _), (1, _)] (v := ((((0 : Int32) + (1 : Int32)) + (1 : Int32)) + (1 : Int32))) dX0_copyFrom_52 rfl (iinc_1 _) (by decide) rfl ?_
  refine j_goto (tgt := 35) C dX0_copyFrom_55 (by decide) ?_
  refine j_iload_n C dX0_copyFrom_35 rfl ?_
  refine j_iconst C dX0_copyFrom_36 (3 : Int32) (by decide) ?_
  refine j_icmp_ge (tgt := 58) C dX0_copyFrom_37 (by decide) (fun _ => ?_) (fun h => absurd (by decide) h)
  refine j_extF 24 (fun k => (B 15 k).toUInt32) rfl (rate3 (F := fun k => (cp3 B Cc 15 k).toUInt32) (G := fun k => (B 15 k).toUInt32)) ?_
  refine j_ws (ws' := bkW ca g B ++ bkW ca h (cp4 B Cc)) cpf4 ?_
  refine j_aload_n C dX0_copyFrom_58 rfl ?_
  refine j_get C f_X0_36.F 0 dX0_copyFrom_59 rfl rfl ?_
  refine j_aload_n C dX0_copyFrom_62 rfl ?_
  refine j_get C f_X0_36.F 20 dX0_copyFrom_63 rfl rfl ?_
  refine j_callSNv C g_X0_162 (c_X7_copyRow l D ca (g 5) (h 5) 3 (by decide) (B 14) ((cp4 B Cc) 14)) ⟨Nat.le_of_ble_eq_true rfl, Nat.le_of_ble_eq_true rfl⟩ ⟨Nat.le_of_ble_eq_true rfl, Nat.le_of_ble_eq_true rfl⟩ [5, 25] rfl rfl rfl rfl (Nat.le_of_ble_eq_true rfl) dX0_copyFrom_66 rfl ?_
  refine j_ws (ws' := bkW ca g B ++ bkW ca h (cp5 B Cc)) cpf5 ?_
  refine j_aload_n C dX0_copyFrom_69 rfl ?_
  refine j_aload_n C dX0_copyFrom_70 rfl ?_
  refine j_get C f_X0_53.F 0 dX0_copyFrom_71 rfl rfl ?_
  refine j_put C f_X0_53 20 dX0_copyFrom_74 rfl (Nat.le_of_ble_eq_true rfl) rfl rfl ?_
  refine j_aload_n C dX0_copyFrom_77 rfl ?_
  refine j_aload_n C dX0_copyFrom_78 rfl ?_
  refine j_get C f_X0_95.F 0 dX0_copyFrom_79 rfl rfl ?_
  refine j_put C f_X0_95 20 dX0_copyFrom_82 rfl (Nat.le_of_ble_eq_true rfl) rfl rfl ?_
  refine j_aload_n C dX0_copyFrom_85 rfl ?_
  refine j_aload_n C dX0_copyFrom_86 rfl ?_
  refine j_get C f_X0_114.F 0 dX0_copyFrom_87 rfl rfl ?_
  refine j_put C f_X0_114 20 dX0_copyFrom_90 rfl (Nat.le_of_ble_eq_true rfl) rfl rfl ?_
  refine j_aload_n C dX0_copyFrom_93 rfl ?_
  refine j_aload_n C dX0_copyFrom_94 rfl ?_
  refine j_get C f_X0_117.F 0 dX0_copyFrom_95 rfl rfl ?_
  refine j_put C f_X0_117 20 dX0_copyFrom_98 rfl (Nat.le_of_ble_eq_true rfl) rfl rfl ?_
  refine j_aload_n C dX0_copyFrom_101 rfl ?_
  refine j_aload_n C dX0_copyFrom_102 rfl ?_
  refine j_get C f_X0_130.F 0 dX0_copyFrom_103 rfl rfl ?_
  refine j_put C f_X0_130 20 dX0_copyFrom_106 rfl (Nat.le_of_ble_eq_true rfl) rfl rfl ?_
  refine j_aload_n C dX0_copyFrom_109 rfl ?_
  refine j_aload_n C dX0_copyFrom_110 rfl ?_
  refine j_get C f_X0_149.F 0 dX0_copyFrom_111 rfl rfl ?_
  refine j_put C f_X0_149 20 dX0_copyFrom_114 rfl (Nat.le_of_ble_eq_true rfl) rfl rfl ?_
  exact j_vret E dX0_copyFrom_117 ⟨rfl, rfl⟩
set_option maxRecDepth 100000 in
set_option maxHeartbeats 4000000 in
theorem c_X0_copyFrom_s (l : Launch) (D : va_G) (ca : Nat → ClassId) (g h : Nat → Nat) (B Cc : jB) : jM l D ca yX0_copyFrom cX0_copyFrom 3 (none : Option FieldType) 2 43 0 0 [.ref (h 0), .ref (g 0)] (bkW ca h Cc ++ bkW ca g B) (jD none (bkW ca h B ++ bkW ca g B)) := by
  refine jM_of [(0, .ref (h 0)), (1, .ref (g 0))] (by decide) (Nat.le_of_ble_eq_true rfl) rfl (fun X C E => ?_)
  refine j_aload_n C dX0_copyFrom_0 rfl ?_
  refine j_get C f_X0_12.F 0 dX0_copyFrom_1 rfl rfl ?_
  refine j_aload_n C dX0_copyFrom_4 rfl ?_
  refine j_get C f_X0_12.F 20 dX0_copyFrom_5 rfl rfl ?_
  refine j_callVv C g_X0_152 (c_X4_copyFrom_s l D ca g h B Cc) 1 rfl hcl_X4 ⟨Nat.le_of_ble_eq_true rfl, Nat.le_of_ble_eq_true rfl⟩ ⟨Nat.le_of_ble_eq_true rfl, Nat.le_of_ble_eq_true rfl⟩ [1, 6, 7, 8, 9, 21, 26, 27, 28, 29] pl2_mb_s rfl rfl rfl (Nat.le_of_ble_eq_true rfl) dX0_copyFrom_8 rfl ?_
  refine j_ws (ws' := bkW ca h (cp1 B Cc) ++ bkW ca g B) cpf1_s ?_
  refine j_aload_n C dX0_copyFrom_11 rfl ?_
  refine j_get C f_X0_21.F 0 dX0_copyFrom_12 rfl rfl ?_
  refine j_aload_n C dX0_copyFrom_15 rfl ?_
  refine j_get C f_X0_21.F 20 dX0_copyFrom_16 rfl rfl ?_
  refine j_callVv C g_X0_156 (c_X1_copyFrom_s l D ca g h B (cp1 B Cc)) 2 rfl hcl_X1 ⟨Nat.le_of_ble_eq_true rfl, Nat.le_of_ble_eq_true rfl⟩ ⟨Nat.le_of_ble_eq_true rfl, Nat.le_of_ble_eq_true rfl⟩ [2, 10, 11, 12, 22, 30, 31, 32] pl2_cl_s rfl rfl rfl (Nat.le_of_ble_eq_true rfl) dX0_copyFrom_19 rfl ?_
  refine j_ws (ws' := bkW ca h (cp2 B Cc) ++ bkW ca g B) cpf2_s ?_
  refine j_aload_n C dX0_copyFrom_22 rfl ?_
  refine j_get C f_X0_28.F 0 dX0_copyFrom_23 rfl rfl ?_
  refine j_aload_n C dX0_copyFrom_26 rfl ?_
  refine j_get C f_X0_28.F 20 dX0_copyFrom_27 rfl rfl ?_
  refine j_callVv C g_X0_159 (c_X3_copyFrom_s l D ca g h B (cp2 B Cc)) 3 rfl hcl_X3 ⟨Nat.le_of_ble_eq_true rfl, Nat.le_of_ble_eq_true rfl⟩ ⟨Nat.le_of_ble_eq_true rfl, Nat.le_of_ble_eq_true rfl⟩ [3, 13, 14, 15, 16, 17, 18, 19, 23, 33, 34, 35, 36, 37, 38, 39] pl2_iv_s rfl rfl rfl (Nat.le_of_ble_eq_true rfl) dX0_copyFrom_30 rfl ?_
  refine j_ws (ws' := bkW ca h (cp3 B Cc) ++ bkW ca g B) cpf3_s ?_
  refine j_iconst C dX0_copyFrom_33 (0 : Int32) (by decide) ?_
  refine j_istore_n C [(2, _), (0, _), (1, _)] dX0_copyFrom_34 (by decide) rfl ?_
  refine j_iload_n C dX0_copyFrom_35 rfl ?_
  refine j_iconst C dX0_copyFrom_36 (3 : Int32) (by decide) ?_
  refine j_icmp_ge (tgt := 58) C dX0_copyFrom_37 (by decide) (fun h => absurd h (by decide)) (fun _ => ?_)
  refine j_aload_n C dX0_copyFrom_40 rfl ?_
  refine j_get C f_X0_32.F 0 dX0_copyFrom_41 rfl rfl ?_
  refine j_iload_n C dX0_copyFrom_44 rfl ?_
  refine j_aload_n C dX0_copyFrom_45 rfl ?_
  refine j_get C f_X0_32.F 20 dX0_copyFrom_46 rfl rfl ?_
  refine j_iload_n C dX0_copyFrom_49 rfl ?_
  refine j_fald C 24 dX0_copyFrom_50 rfl (vin_c rfl) ?_
  refine j_fast C 4 dX0_copyFrom_51 rfl (vin_c rfl) ?_
  refine j_iinc C [(2, _), (0, _), (1, _)] (v := ((0 : Int32) + (1 : Int32))) dX0_copyFrom_52 rfl (iinc_1 _) (by decide) rfl ?_
  refine j_goto (tgt := 35) C dX0_copyFrom_55 (by decide) ?_
  refine j_iload_n C dX0_copyFrom_35 rfl ?_
  refine j_iconst C dX0_copyFrom_36 (3 : Int32) (by decide) ?_
  refine j_icmp_ge (tgt := 58) C dX0_copyFrom_37 (by decide) (fun h => absurd h (by decide)) (fun _ => ?_)
  refine j_aload_n C dX0_copyFrom_40 rfl ?_
  refine j_get C f_X0_32.F 0 dX0_copyFrom_41 rfl rfl ?_
  refine j_iload_n C dX0_copyFrom_44 rfl ?_
  refine j_aload_n C dX0_copyFrom_45 rfl ?_
  refine j_get C f_X0_32.F 20 dX0_copyFrom_46 rfl rfl ?_
  refine j_iload_n C dX0_copyFrom_49 rfl ?_
  refine j_fald C 24 dX0_copyFrom_50 rfl (vin_c rfl) ?_
  refine j_fast C 4 dX0_copyFrom_51 rfl (vin_c rfl) ?_
  refine j_iinc C [(2, _), (0, _), (1, _)] (v := (((0 : Int32) + (1 : Int32)) + (1 : Int32))) dX0_copyFrom_52 rfl (iinc_1 _) (by decide) rfl ?_
  refine j_goto (tgt := 35) C dX0_copyFrom_55 (by decide) ?_
  refine j_iload_n C dX0_copyFrom_35 rfl ?_
  refine j_iconst C dX0_copyFrom_36 (3 : Int32) (by decide) ?_
  refine j_icmp_ge (tgt := 58) C dX0_copyFrom_37 (by decide) (fun h => absurd h (by decide)) (fun _ => ?_)
  refine j_aload_n C dX0_copyFrom_40 rfl ?_
  refine j_get C f_X0_32.F 0 dX0_copyFrom_41 rfl rfl ?_
  refine j_iload_n C dX0_copyFrom_44 rfl ?_
  refine j_aload_n C dX0_copyFrom_45 rfl ?_
  refine j_get C f_X0_32.F 20 dX0_copyFrom_46 rfl rfl ?_
  refine j_iload_n C dX0_copyFrom_49 rfl ?_
  refine j_fald C 24 dX0_copyFrom_50 rfl (vin_c rfl) ?_
  refine j_fast C 4 dX0_copyFrom_51 rfl (vin_c rfl) ?_
  refine j_iinc C [(2, _), (0, _), (1, _)] (v := ((((0 : Int32) + (1 : Int32)) + (1 : Int32)) + (1 : Int32))) dX0_copyFrom_52 rfl (iinc_1 _) (by decide) rfl ?_
  refine j_goto (tgt := 35) C dX0_copyFrom_55 (by decide) ?_
  refine j_iload_n C dX0_copyFrom_35 rfl ?_
  refine j_iconst C dX0_copyFrom_36 (3 : Int32) (by decide) ?_
  refine j_icmp_ge (tgt := 58) C dX0_copyFrom_37 (by decide) (fun _ => ?_) (fun h => absurd (by decide) h)
  refine j_extF 4 (fun k => (B 15 k).toUInt32) rfl (rate3 (F := fun k => (cp3 B Cc 15 k).toUInt32) (G := fun k => (B 15 k).toUInt32)) ?_
  refine j_ws (ws' := bkW ca h (cp4 B Cc) ++ bkW ca g B) cpf4_s ?_
  refine j_aload_n C dX0_copyFrom_58 rfl ?_
  refine j_get C f_X0_36.F 20 dX0_copyFrom_59 rfl rfl ?_
  refine j_aload_n C dX0_copyFrom_62 rfl ?_
  refine j_get C f_X0_36.F 0 dX0_copyFrom_63 rfl rfl ?_
  refine j_callSNv C g_X0_162 (c_X7_copyRow_s l D ca (g 5) (h 5) 3 (by decide) (B 14) ((cp4 B Cc) 14)) ⟨Nat.le_of_ble_eq_true rfl, Nat.le_of_ble_eq_true rfl⟩ ⟨Nat.le_of_ble_eq_true rfl, Nat.le_of_ble_eq_true rfl⟩ [5, 25] rfl rfl rfl rfl (Nat.le_of_ble_eq_true rfl) dX0_copyFrom_66 rfl ?_
  refine j_ws (ws' := bkW ca h (cp5 B Cc) ++ bkW ca g B) cpf5_s ?_
  refine j_aload_n C dX0_copyFrom_69 rfl ?_
  refine j_aload_n C dX0_copyFrom_70 rfl ?_
  refine j_get C f_X0_53.F 20 dX0_copyFrom_71 rfl rfl ?_
  refine j_put C f_X0_53 0 dX0_copyFrom_74 rfl (Nat.le_of_ble_eq_true rfl) rfl rfl ?_
  refine j_aload_n C dX0_copyFrom_77 rfl ?_
  refine j_aload_n C dX0_copyFrom_78 rfl ?_
  refine j_get C f_X0_95.F 20 dX0_copyFrom_79 rfl rfl ?_
  refine j_put C f_X0_95 0 dX0_copyFrom_82 rfl (Nat.le_of_ble_eq_true rfl) rfl rfl ?_
  refine j_aload_n C dX0_copyFrom_85 rfl ?_
  refine j_aload_n C dX0_copyFrom_86 rfl ?_
  refine j_get C f_X0_114.F 20 dX0_copyFrom_87 rfl rfl ?_
  refine j_put C f_X0_114 0 dX0_copyFrom_90 rfl (Nat.le_of_ble_eq_true rfl) rfl rfl ?_
  refine j_aload_n C dX0_copyFrom_93 rfl ?_
  refine j_aload_n C dX0_copyFrom_94 rfl ?_
  refine j_get C f_X0_117.F 20 dX0_copyFrom_95 rfl rfl ?_
  refine j_put C f_X0_117 0 dX0_copyFrom_98 rfl (Nat.le_of_ble_eq_true rfl) rfl rfl ?_
  refine j_aload_n C dX0_copyFrom_101 rfl ?_
  refine j_aload_n C dX0_copyFrom_102 rfl ?_
  refine j_get C f_X0_130.F 20 dX0_copyFrom_103 rfl rfl ?_
  refine j_put C f_X0_130 0 dX0_copyFrom_106 rfl (Nat.le_of_ble_eq_true rfl) rfl rfl ?_
  refine j_aload_n C dX0_copyFrom_109 rfl ?_
  refine j_aload_n C dX0_copyFrom_110 rfl ?_
  refine j_get C f_X0_149.F 20 dX0_copyFrom_111 rfl rfl ?_
  refine j_put C f_X0_149 0 dX0_copyFrom_114 rfl (Nat.le_of_ble_eq_true rfl) rfl rfl ?_
  exact j_vret E dX0_copyFrom_117 ⟨rfl, rfl⟩
set_option maxRecDepth 100000 in
set_option maxHeartbeats 4000000 in
theorem c_X2_copy (l : Launch) (D : va_G) (ca : Nat → ClassId) (g h : Nat → Nat) (B Cc : jB) : jM l D ca yX2_copy cX2_copy 2 (none : Option FieldType) 3 65 0 0 [.ref (g 0), .ref (h 0)] (bkW ca g B ++ bkW ca h Cc) (jD none (bkW ca g B ++ bkW ca h B)) := by
  refine jM_of [(0, .ref (g 0)), (1, .ref (h 0))] (by decide) (Nat.le_of_ble_eq_true rfl) rfl (fun X C E => ?_)
  refine j_aload_n C dX2_copy_0 rfl ?_
  refine j_ifnull C dX2_copy_1 ?_
  refine j_aload_n C dX2_copy_4 rfl ?_
  refine j_ifnull C dX2_copy_5 ?_
  refine j_aload_n C dX2_copy_8 rfl ?_
  refine j_aload_n C dX2_copy_9 rfl ?_
  refine j_callVvW C g_X2_33 (c_X0_copyFrom l D ca g h B Cc) 20 rfl hcl_X0 ⟨Nat.le_of_ble_eq_true rfl, Nat.le_of_ble_eq_true rfl⟩ ⟨Nat.le_of_ble_eq_true rfl, Nat.le_of_ble_eq_true rfl⟩ rfl rfl (Nat.le_of_ble_eq_true rfl) dX2_copy_10 rfl ?_
  exact j_vret E dX2_copy_13 ⟨rfl, rfl⟩
set_option maxRecDepth 100000 in
set_option maxHeartbeats 4000000 in
theorem c_X2_copy_s (l : Launch) (D : va_G) (ca : Nat → ClassId) (g h : Nat → Nat) (B Cc : jB) : jM l D ca yX2_copy cX2_copy 2 (none : Option FieldType) 3 65 0 0 [.ref (g 0), .ref (h 0)] (bkW ca h Cc ++ bkW ca g B) (jD none (bkW ca h B ++ bkW ca g B)) := by
  refine jM_of [(0, .ref (g 0)), (1, .ref (h 0))] (by decide) (Nat.le_of_ble_eq_true rfl) rfl (fun X C E => ?_)
  refine j_aload_n C dX2_copy_0 rfl ?_
  refine j_ifnull C dX2_copy_1 ?_
  refine j_aload_n C dX2_copy_4 rfl ?_
  refine j_ifnull C dX2_copy_5 ?_
  refine j_aload_n C dX2_copy_8 rfl ?_
  refine j_aload_n C dX2_copy_9 rfl ?_
  refine j_callVvW C g_X2_33 (c_X0_copyFrom_s l D ca g h B Cc) 0 rfl hcl_X0 ⟨Nat.le_of_ble_eq_true rfl, Nat.le_of_ble_eq_true rfl⟩ ⟨Nat.le_of_ble_eq_true rfl, Nat.le_of_ble_eq_true rfl⟩ rfl rfl (Nat.le_of_ble_eq_true rfl) dX2_copy_10 rfl ?_
  exact j_vret E dX2_copy_13 ⟨rfl, rfl⟩
