def frP (a b : Nat → Bool) (K K1 : Nat → jB) : Prop := (∀ q, q ≠ 7 → K1 q = K q) ∧ (∀ r, r ≠ 5 → a r = false → K1 7 r = K 7 r) ∧ (∀ j, b j = false → K1 7 5 j = K 7 5 j)
theorem frP_rf (a b : Nat → Bool) (K : Nat → jB) : frP a b K K := ⟨fun _ _ => rfl, fun _ _ _ => rfl, fun _ _ => rfl⟩
theorem beqF {a b : Nat} (h : a ≠ b) : Nat.beq a b = false := by
  cases hb : Nat.beq a b with
  | false => rfl
  | true => exact absurd (Nat.eq_of_beq_eq_true hb) h
theorem frP_up {a b : Nat → Bool} {K K1 : Nat → jB} (h : frP a b K K1) (r k : Nat) (v : Int32) (h1 : r ≠ 5 → a r = true) (h2 : r = 5 → b k = true) : frP a b K (up3 K1 7 r k v) := by
  refine ⟨fun q hq => ?_, fun r1 h5 ha => ?_, fun j hj => ?_⟩
  · show cond (Nat.beq q 7) (up2 (K1 7) r k v) (K1 q) = K q
    rw [beqF hq]
    exact h.1 q hq
  · show cond (Nat.beq r1 r) (upd (K1 7 r) k v) (K1 7 r1) = K 7 r1
    by_cases e : r1 = r
    · subst e
      rw [h1 h5] at ha
      cases ha
    · rw [beqF e]
      exact h.2.1 r1 h5 ha
  · show cond (Nat.beq 5 r) (upd (K1 7 r) k v) (K1 7 5) j = K 7 5 j
    by_cases e : 5 = r
    · subst e
      have h3 := h2 rfl
      by_cases e2 : j = k
      · subst e2
        rw [h3] at hj
        cases hj
      · rw [Nat.beq_refl]
        show upd (K1 7 5) k v j = K 7 5 j
        rw [pk_un e2]
        exact h.2.2 j hj
    · rw [beqF e]
      exact h.2.2 j hj
def mgR (K K1 : Nat → jB) : Nat → jB := fun q => cond (Nat.beq q 7) (fun r => cond (Nat.beq r 3) (K1 7 3) (cond (Nat.beq r 4) (K1 7 4) (cond (Nat.beq r 5) (upd (K 7 5) 4 (K1 7 5 4)) (K 7 r)))) (K q)
def mgT (K K1 : Nat → jB) : Nat → jB := fun q => cond (Nat.beq q 7) (fun r => cond (Nat.beq r 0) (K1 7 0) (cond (Nat.beq r 1) (K1 7 1) (cond (Nat.beq r 2) (K1 7 2) (cond (Nat.beq r 5) (upd (upd (K 7 5) 0 (K1 7 5 0)) 1 (K1 7 5 1)) (K 7 r))))) (K q)
abbrev rkA : Nat → Bool := fun r => Nat.beq r 3 || Nat.beq r 4
abbrev rkB : Nat → Bool := fun j => Nat.beq j 4
abbrev txA : Nat → Bool := fun r => Nat.beq r 0 || (Nat.beq r 1 || Nat.beq r 2)
abbrev txB : Nat → Bool := fun j => Nat.beq j 0 || Nat.beq j 1
set_option maxRecDepth 100000 in
set_option maxHeartbeats 4000000 in
theorem mgR_f {ca : Nat → ClassId} {g : Nat → Nat} {K K1 : Nat → jB} : jrep (fW ca g K) [7, 8, 9] (rkW ca g K1) = fW ca g (mgR K K1) := jrep_mg (by decide) rfl
set_option maxRecDepth 100000 in
set_option maxHeartbeats 4000000 in
theorem mgT_f {ca : Nat → ClassId} {g : Nat → Nat} {K K1 : Nat → jB} : jrep (fW ca g K) [3, 4, 5, 6] (txW ca g K1) = fW ca g (mgT K K1) := jrep_mg (by decide) rfl
theorem mgR_e {K K1 : Nat → jB} (h : frP rkA rkB K K1) : mgR K K1 = K1 := by
  funext q
  by_cases hq : q = 7
  · subst hq
    funext r
    show cond (Nat.beq r 3) (K1 7 3) (cond (Nat.beq r 4) (K1 7 4) (cond (Nat.beq r 5) (upd (K 7 5) 4 (K1 7 5 4)) (K 7 r))) = K1 7 r
    by_cases e3 : r = 3
    · subst e3; rfl
    by_cases e4 : r = 4
    · subst e4; rfl
    rw [beqF e3, beqF e4]
    by_cases e5 : r = 5
    · subst e5
      funext j
      show upd (K 7 5) 4 (K1 7 5 4) j = K1 7 5 j
      by_cases ej : j = 4
      · subst ej; exact pk_us
      · rw [pk_un ej]; exact (h.2.2 j (beqF ej)).symm
    · rw [beqF e5]
      exact (h.2.1 r e5 (by show (Nat.beq r 3 || Nat.beq r 4) = false; rw [beqF e3, beqF e4]; rfl)).symm
  · show cond (Nat.beq q 7) _ (K q) = K1 q
    rw [beqF hq]
    exact (h.1 q hq).symm
theorem mgT_e {K K1 : Nat → jB} (h : frP txA txB K K1) : mgT K K1 = K1 := by
  funext q
  by_cases hq : q = 7
  · subst hq
    funext r
    show cond (Nat.beq r 0) (K1 7 0) (cond (Nat.beq r 1) (K1 7 1) (cond (Nat.beq r 2) (K1 7 2) (cond (Nat.beq r 5) (upd (upd (K 7 5) 0 (K1 7 5 0)) 1 (K1 7 5 1)) (K 7 r)))) = K1 7 r
    by_cases e0 : r = 0
    · subst e0; rfl
    by_cases e1 : r = 1
    · subst e1; rfl
    by_cases e2 : r = 2
    · subst e2; rfl
    rw [beqF e0, beqF e1, beqF e2]
    by_cases e5 : r = 5
    · subst e5
      funext j
      show upd (upd (K 7 5) 0 (K1 7 5 0)) 1 (K1 7 5 1) j = K1 7 5 j
      by_cases ej : j = 1
      · subst ej; exact pk_us
      · rw [pk_un ej]
        by_cases ek : j = 0
        · subst ek; exact pk_us
        · rw [pk_un ek]; exact (h.2.2 j (by show (Nat.beq j 0 || Nat.beq j 1) = false; rw [beqF ej, beqF ek]; rfl)).symm
    · rw [beqF e5]
      exact (h.2.1 r e5 (by show (Nat.beq r 0 || (Nat.beq r 1 || Nat.beq r 2)) = false; rw [beqF e0, beqF e1, beqF e2]; rfl)).symm
  · show cond (Nat.beq q 7) _ (K q) = K1 q
    rw [beqF hq]
    exact (h.1 q hq).symm
theorem fr_insert (K : Nat → jB) (i : Int32) (w : UInt32) : frP rkA rkB K (r_X5_insert K i w) := by
  have h : ∀ (n : Nat) (x : Int32) (K1 : Nat → jB), frP rkA rkB K K1 → frP rkA rkB K (L_X5_insert_22 K i w n x K1) := by
    intro n
    induction n with
    | zero => intro x K1 h; exact frP_rf _ _ K
    | succ n ih =>
      intro x K1 h
      have a1 : frP rkA rkB K (up3 (z_X5_insert_0 i w x K1) 7 5 4 ((K1 7 5 4) + (1 : Int32))) := frP_up (frP_up (frP_up h 3 _ _ (fun _ => rfl) (fun z => by cases z)) 4 _ _ (fun _ => rfl) (fun z => by cases z)) 5 _ _ (fun z => absurd rfl z) (fun _ => rfl)
      have a2 : frP rkA rkB K (z_X5_insert_2 x K1) := frP_up (frP_up h 3 _ _ (fun _ => rfl) (fun z => by cases z)) 4 _ _ (fun _ => rfl) (fun z => by cases z)
      rw [L_X5_insert_22]
      (repeat' split) <;> first | exact a1 | exact ih _ _ a2
  unfold r_X5_insert
  (repeat' split) <;> first | exact frP_rf _ _ K | exact h _ _ _ (frP_rf _ _ K)
theorem fs_f_X5_insert {ca : Nat → ClassId} {g : Nat → Nat} {K : Nat → jB} {i : Int32} {w : UInt32} : jrep (fW ca g K) [7, 8, 9] (rkW ca g (r_X5_insert K i w)) = fW ca g (r_X5_insert K i w) := by rw [mgR_f, mgR_e (fr_insert K i w)]
theorem ins0 (K : Nat → jB) (i : Int32) (w : UInt32) : r_X5_insert K i w 0 = K 0 := by
  have h : ∀ (n : Nat) (x : Int32) (K1 : Nat → jB), K1 0 = K 0 → L_X5_insert_22 K i w n x K1 0 = K 0 := by
    intro n
    induction n with
    | zero => intro x K1 h; rfl
    | succ n ih =>
      intro x K1 h
      rw [L_X5_insert_22]
      (repeat' split) <;> first | exact h | exact ih _ _ h
  unfold r_X5_insert
  (repeat' split) <;> first | rfl | exact h _ _ _ rfl
set_option maxRecDepth 100000 in
set_option maxHeartbeats 4000000 in
theorem fo_f_7_2 {ca : Nat → ClassId} {g : Nat → Nat} {K : (Nat → jB)} {v : Int32} : (fW ca g K).set 7 (g 7, .inr (5, [.ref (g 8), .ref (g 9), .int (K 7 5 4)].set 2 (.int v))) = fW ca g (up3 K 7 5 4 v) := rfl
set_option maxRecDepth 100000 in
set_option maxHeartbeats 4000000 in
theorem pl_f_rk {ca : Nat → ClassId} {g : Nat → Nat} {K : (Nat → jB)} : [7, 8, 9].map (fun i => (fW ca g K)[i]?) = (rkW ca g K).map some := rfl
set_option maxRecDepth 100000 in
set_option maxHeartbeats 4000000 in
theorem fst_rk {ca : Nat → ClassId} {g : Nat → Nat} {A B : (Nat → jB)} : (rkW ca g A).map Prod.fst = (rkW ca g B).map Prod.fst := rfl

def L_X7_best_17 (K : (Nat → jB)) (r : Int32) : Nat → Int32 → (Nat → jB) → Int32 × (Nat → jB)
  | 0, _, _ => (0, K)
  | n17 + 1, x17_2, K17 => (if (K17 0 16 1) ≤ x17_2 then (if (K17 7 5 4) ≤ r then ((-5 : Int32), K17) else ((r_X5_invoiceAt K17 r), K17)) else (if (r_X0_canPayAhead (K17 0) x17_2) = (0 : Int32) then L_X7_best_17 K r n17 (x17_2 + (1 : Int32)) K17 else L_X7_best_17 K r n17 (x17_2 + (1 : Int32)) (r_X5_insert K17 x17_2 (r_X0_worthOf (K17 0) x17_2))))
def NL_X7_best_17 (K : (Nat → jB)) (r : Int32) : Nat → Int32 → (Nat → jB) → Prop
  | 0, _, _ => True
  | n17 + 1, x17_2, K17 => (((K17 0 16 1) ≤ x17_2 → (((K17 7 5 4) ≤ r → True) ∧ (¬ ((K17 7 5 4) ≤ r) → True))) ∧ (¬ ((K17 0 16 1) ≤ x17_2) → ((n_X0_canPayAhead (K17 0) x17_2) ∧ (((r_X0_canPayAhead (K17 0) x17_2) = (0 : Int32) → NL_X7_best_17 K r n17 (x17_2 + (1 : Int32)) K17) ∧ (¬ ((r_X0_canPayAhead (K17 0) x17_2) = (0 : Int32)) → ((n_X0_worthOf (K17 0) x17_2) ∧ NL_X7_best_17 K r n17 (x17_2 + (1 : Int32)) (r_X5_insert K17 x17_2 (r_X0_worthOf (K17 0) x17_2))))))))
def r_X7_best (K : (Nat → jB)) (r : Int32) : Int32 × (Nat → jB) := (if (0 : Int32) ≤ r then L_X7_best_17 K r (((K 0 16 1).toInt - (0 : Int32).toInt).toNat + 1) (0 : Int32) (up3 K 7 5 4 (0 : Int32)) else ((-2 : Int32), K))
def n_X7_best (K : (Nat → jB)) (r : Int32) : Prop := (((0 : Int32) ≤ r → NL_X7_best_17 K r (((K 0 16 1).toInt - (0 : Int32).toInt).toNat + 1) (0 : Int32) (up3 K 7 5 4 (0 : Int32))) ∧ (¬ ((0 : Int32) ≤ r) → True))
set_option maxRecDepth 100000 in
set_option maxHeartbeats 4000000 in
theorem c_X7_best (l : Launch) (D : va_G) (ca : Nat → ClassId) (g : Nat → Nat) (K : (Nat → jB)) (r : Int32) (hq : n_X7_best K r) : jM l D ca yX7_best cX7_best 3 (some .int) 6 135 0 0 [.ref (g 0), .int r] (fW ca g K) (jD (some (.int (r_X7_best K r).1)) (fW ca g ((r_X7_best K r).2))) := by
  refine jM_of [(0, .ref (g 0)), (1, .int r)] (by decide) (Nat.le_of_ble_eq_true rfl) rfl (fun X C E => ?_)
  rw [n_X7_best] at hq
  refine j_iload_n C dX7_best_0 rfl ?_
  refine j_if_ge (tgt := 7) C dX7_best_1 (by decide) (fun (h1 : (0 : Int32) ≤ r) => ?_) (fun (h1 : ¬ ((0 : Int32) ≤ r)) => ?_)
  · have hq := hq.1 h1
    refine j_aload_n C dX7_best_7 rfl ?_
    refine j_get C f_X7_39.F 0 dX7_best_8 fW_0 rfl ?_
    refine j_iconst C dX7_best_11 (0 : Int32) (by decide) ?_
    refine j_put C f_X7_246 7 dX7_best_12 fW_7 (Nat.le_of_ble_eq_true rfl) rfl rfl ?_
    refine j_ws (ws' := (fW ca g (up3 K 7 5 4 (0 : Int32)))) fo_f_7_2 ?_
    refine j_iconst C dX7_best_15 (0 : Int32) (by decide) ?_
    refine j_istore_n C [(2, _), (0, _), (1, _)] dX7_best_16 (by decide) rfl ?_
    have K17 : ∀ (n17 : Nat) (x17_2 : Int32) (K17 : (Nat → jB)), ((K 0 16 1).toInt - x17_2.toInt).toNat < n17 → (K17 0 = K 0) → NL_X7_best_17 K r n17 x17_2 K17 → r_X7_best K r = L_X7_best_17 K r n17 x17_2 K17 → J l { frames := 6, cells := 0, slots := 0, locals := 135 } D 3 X 0 0 (fW ca g K17) [(0, .ref (g 0)), (1, .int r), (2, .int x17_2)] [] 17 := by
      intro n17
      induction n17 with
      | zero =>
        intro x17_2 K17 hm17
        exact absurd hm17 (Nat.not_lt_zero _)
      | succ n17 ih17 =>
        intro x17_2 K17 hm17 hi17 hq hr17
        rw [NL_X7_best_17] at hq
        refine j_iload_n C dX7_best_17 rfl ?_
        refine j_aload_n C dX7_best_18 rfl ?_
        refine j_get C f_X7_10.F 0 dX7_best_19 fW_0 rfl ?_
        refine j_get C f_X7_107.F 10 dX7_best_22 fW_10 rfl ?_
        refine j_get C f_X7_111.F 13 dX7_best_25 fW_13 rfl ?_
        refine j_icmp_ge (tgt := 64) C dX7_best_28 (by decide) (fun (h28 : (K17 0 16 1) ≤ x17_2) => ?_) (fun (h28 : ¬ ((K17 0 16 1) ≤ x17_2)) => ?_)
        · have hq := hq.1 h28
          refine j_iload_n C dX7_best_64 rfl ?_
          refine j_aload_n C dX7_best_65 rfl ?_
          refine j_get C f_X7_39.F 0 dX7_best_66 fW_0 rfl ?_
          refine j_get C f_X7_246.F 7 dX7_best_69 fW_7 rfl ?_
          refine j_icmp_ge (tgt := 86) C dX7_best_72 (by decide) (fun (h72 : (K17 7 5 4) ≤ r) => ?_) (fun (h72 : ¬ ((K17 7 5 4) ≤ r)) => ?_)
          · have hq := hq.1 h72
            refine j_bipush C dX7_best_86 (-5 : Int32) (by decide) ?_
            have e9 : r_X7_best K r = ((-5 : Int32), K17) := by rw [hr17, L_X7_best_17, if_pos h28, if_pos h72]
            exact j_iret E dX7_best_88 (jD_k e9 (fW ca g))
          · have hq := hq.2 h72
            refine j_aload_n C dX7_best_75 rfl ?_
            refine j_get C f_X7_39.F 0 dX7_best_76 fW_0 rfl ?_
            refine j_iload_n C dX7_best_79 rfl ?_
            refine j_callViR C g_X7_251 (c_X5_invoiceAt l D ca g K17 r) 7 fW_7 hcl_X5 ⟨Nat.le_of_ble_eq_true rfl, Nat.le_of_ble_eq_true rfl⟩ ⟨Nat.le_of_ble_eq_true rfl, Nat.le_of_ble_eq_true rfl⟩ [7, 8, 9] pl_f_rk rfl rfl rfl (Nat.le_of_ble_eq_true rfl) dX7_best_80 ?_
            refine j_goto (tgt := 88) C dX7_best_83 (by decide) ?_
            have e9 : r_X7_best K r = ((r_X5_invoiceAt K17 r), K17) := by rw [hr17, L_X7_best_17, if_pos h28, if_neg h72]
            exact j_iret E dX7_best_88 (jD_k e9 (fW ca g))
        · have hq := hq.2 h28
          refine j_aload_n C dX7_best_31 rfl ?_
          refine j_get C f_X7_10.F 0 dX7_best_32 fW_0 rfl ?_
          refine j_iload_n C dX7_best_35 rfl ?_
          obtain ⟨hv, hq⟩ := hq
          refine j_callViR C g_X7_118 (c_X0_canPayAhead l D ca (fun j => g (10 + j)) (K17 0) x17_2 hv) 10 fW_10 hcl_X0 ⟨Nat.le_of_ble_eq_true rfl, Nat.le_of_ble_eq_true rfl⟩ ⟨Nat.le_of_ble_eq_true rfl, Nat.le_of_ble_eq_true rfl⟩ [10, 11, 12, 13, 14, 15, 16, 17, 18, 19, 20, 21, 22, 23, 24, 25, 26, 27, 28, 29] pl_f_bk_0 rfl rfl rfl (Nat.le_of_ble_eq_true rfl) dX7_best_36 ?_
          refine j_if_eq (tgt := 58) C dX7_best_39 (by decide) (fun (h39 : (r_X0_canPayAhead (K17 0) x17_2) = (0 : Int32)) => ?_) (fun (h39 : ¬ ((r_X0_canPayAhead (K17 0) x17_2) = (0 : Int32))) => ?_)
          · have hq := hq.1 h39
            refine j_iinc C [(2, _), (0, _), (1, _)] (v := (x17_2 + (1 : Int32))) dX7_best_58 rfl (iinc_1 _) (by decide) rfl ?_
            refine j_goto (tgt := 17) C dX7_best_61 (by decide) ?_
            refine j_lv [(0, .ref (g 0)), (1, .int r), (2, .int (x17_2 + (1 : Int32)))] rfl ?_
            exact ih17 (x17_2 + (1 : Int32)) K17 (jms (by rw [← hi17]; exact h28) hm17) (by first | exact hi17 | exact (ins0 _ _ _).trans hi17) hq (by rw [hr17, L_X7_best_17, if_neg h28, if_pos h39])
          · have hq := hq.2 h39
            refine j_aload_n C dX7_best_42 rfl ?_
            refine j_get C f_X7_39.F 0 dX7_best_43 fW_0 rfl ?_
            refine j_iload_n C dX7_best_46 rfl ?_
            refine j_aload_n C dX7_best_47 rfl ?_
            refine j_get C f_X7_10.F 0 dX7_best_48 fW_0 rfl ?_
            refine j_iload_n C dX7_best_51 rfl ?_
            obtain ⟨hv, hq⟩ := hq
            refine j_callVfR C g_X7_243 (c_X0_worthOf l D ca (fun j => g (10 + j)) (K17 0) x17_2 hv) 10 fW_10 hcl_X0 ⟨Nat.le_of_ble_eq_true rfl, Nat.le_of_ble_eq_true rfl⟩ ⟨Nat.le_of_ble_eq_true rfl, Nat.le_of_ble_eq_true rfl⟩ [10, 11, 12, 13, 14, 15, 16, 17, 18, 19, 20, 21, 22, 23, 24, 25, 26, 27, 28, 29] pl_f_bk_0 rfl rfl rfl (Nat.le_of_ble_eq_true rfl) dX7_best_52 ?_
            refine j_callVv C g_X7_247 (c_X5_insert l D ca g K17 x17_2 (r_X0_worthOf (K17 0) x17_2)) 7 fW_7 hcl_X5 ⟨Nat.le_of_ble_eq_true rfl, Nat.le_of_ble_eq_true rfl⟩ ⟨Nat.le_of_ble_eq_true rfl, Nat.le_of_ble_eq_true rfl⟩ [7, 8, 9] pl_f_rk rfl rfl rfl (Nat.le_of_ble_eq_true rfl) dX7_best_55 fst_rk ?_
            refine j_ws (ws' := (fW ca g (r_X5_insert K17 x17_2 (r_X0_worthOf (K17 0) x17_2)))) fs_f_X5_insert ?_
            refine j_iinc C [(2, _), (0, _), (1, _)] (v := (x17_2 + (1 : Int32))) dX7_best_58 rfl (iinc_1 _) (by decide) rfl ?_
            refine j_goto (tgt := 17) C dX7_best_61 (by decide) ?_
            refine j_lv [(0, .ref (g 0)), (1, .int r), (2, .int (x17_2 + (1 : Int32)))] rfl ?_
            exact ih17 (x17_2 + (1 : Int32)) (r_X5_insert K17 x17_2 (r_X0_worthOf (K17 0) x17_2)) (jms (by rw [← hi17]; exact h28) hm17) (by first | exact hi17 | exact (ins0 _ _ _).trans hi17) hq (by rw [hr17, L_X7_best_17, if_neg h28, if_neg h39])
    refine j_lv [(0, .ref (g 0)), (1, .int r), (2, .int (0 : Int32))] rfl ?_
    exact K17 (((K 0 16 1).toInt - (0 : Int32).toInt).toNat + 1) (0 : Int32) (up3 K 7 5 4 (0 : Int32)) (Nat.lt_succ_self _) rfl hq (by rw [r_X7_best, if_pos h1])
  · have hq := hq.2 h1
    refine j_bipush C dX7_best_4 (-2 : Int32) (by decide) ?_
    have e9 : r_X7_best K r = ((-2 : Int32), K) := by rw [r_X7_best, if_neg h1]
    exact j_iret E dX7_best_6 (jD_k e9 (fW ca g))
