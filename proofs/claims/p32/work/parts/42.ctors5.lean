theorem va_P_perm {D : va_G} {ws ws' : va_W} {H : Heap} (h : ws.Perm ws') (hP : va_P D vwCl ws H) : va_P D vwCl ws' H := by
  intro k q hk
  obtain ⟨i, hi⟩ := List.getElem?_of_mem (h.mem_iff.mpr (List.mem_of_getElem? hk))
  exact hP i q hi
theorem va_D_nodup {A : Nat → Prop} {ws : va_W} (hD : va_D A ws) : (ws.map Prod.fst).Nodup := by
  rw [List.Nodup, List.pairwise_iff_getElem]
  intro i j hi hj hij he
  rw [List.length_map] at hi hj
  rw [List.getElem_map, List.getElem_map] at he
  have := hD.1 i j ws[i] ws[j] (List.getElem?_eq_getElem hi) (List.getElem?_eq_getElem hj) he
  omega
theorem va_D_of {A : Nat → Prop} {ws : va_W} (hn : (ws.map Prod.fst).Nodup) (hA : ∀ q ∈ ws, A q.1) : va_D A ws := by
  refine ⟨fun i j p q hi hj he => ?_, fun k q hk => hA q (List.mem_of_getElem? hk)⟩
  rw [List.Nodup, List.pairwise_iff_getElem] at hn
  obtain ⟨hi1, hi2⟩ := List.getElem?_eq_some_iff.mp hi
  obtain ⟨hj1, hj2⟩ := List.getElem?_eq_some_iff.mp hj
  rcases Nat.lt_trichotomy i j with h | h | h
  · refine absurd ?_ (hn i j (by rw [List.length_map]; exact hi1) (by rw [List.length_map]; exact hj1) h)
    rw [List.getElem_map, List.getElem_map, hi2, hj2]
    exact he
  · exact h
  · refine absurd ?_ (hn j i (by rw [List.length_map]; exact hj1) (by rw [List.length_map]; exact hi1) h)
    rw [List.getElem_map, List.getElem_map, hi2, hj2]
    exact he.symm
theorem va_D_perm {A : Nat → Prop} {ws ws' : va_W} (h : ws.Perm ws') (hD : va_D A ws) : va_D A ws' := by
  refine va_D_of ((h.map Prod.fst).nodup_iff.mp (va_D_nodup hD)) (fun q hq => ?_)
  obtain ⟨i, hi⟩ := List.getElem?_of_mem (h.mem_iff.mpr hq)
  exact hD.2 i q hi
theorem j_Perm {l : Launch} {R : Room} {D : va_G} {nL : Nat} {X : jX} {k n pc : Nat} {ws : va_W} {lv : jLv} {st : List Value} (ws' : va_W) (hp : ws.Perm ws') (h : J l R D nL X k n ws' lv st pc) : J l R D nL X k n ws lv st pc := by
  obtain ⟨p, e, s, m, args, below, meth, c, A, H0, Q⟩ := X
  intro H locs ls hP hD hS hl
  exact h H locs ls (va_P_perm hp hP) (va_D_perm hp hD) hS hl
theorem permX {α : Type} (x : α) (a b c h2 hb t r : List α) : (x :: (((((a ++ b) ++ c) ++ (h2 ++ hb)) ++ t) ++ r)).Perm (x :: (h2 ++ (t ++ (r ++ (a ++ (b ++ (c ++ hb))))))) := by
  refine List.Perm.cons x ?_
  have e1 : (((((a ++ b) ++ c) ++ (h2 ++ hb)) ++ t) ++ r) = (a ++ b ++ c) ++ (h2 ++ (hb ++ (t ++ r))) := by simp only [List.append_assoc]
  rw [e1]
  refine (List.perm_append_comm_assoc (a ++ b ++ c) h2 _).trans (List.Perm.append_left h2 ?_)
  have e2 : (a ++ b ++ c) ++ (hb ++ (t ++ r)) = ((a ++ b ++ c) ++ hb) ++ (t ++ r) := by simp only [List.append_assoc]
  have e3 : t ++ (r ++ (a ++ (b ++ (c ++ hb)))) = (t ++ r) ++ ((a ++ b ++ c) ++ hb) := by simp only [List.append_assoc]
  rw [e2, e3]
  exact List.perm_append_comm
def KI : Nat → jB := fun b => cond (Nat.beq b 7) B0 bI
def glF (h0 : Nat) (g1 g2 g3 g4 g5 g6 : Nat → Nat) : Nat → Nat := fun j => cond (Nat.ble 70 j) (g4 j) (cond (Nat.ble 50 j) (g3 (j - 50)) (cond (Nat.ble 30 j) (g2 (j - 30)) (cond (Nat.ble 10 j) (g1 (j - 10)) (cond (Nat.ble 7 j) (g6 j) (cond (Nat.ble 3 j) (g5 j) (cond (Nat.ble 1 j) (g4 j) h0))))))
theorem glF_row (h0 : Nat) (g1 g2 g3 g4 g5 g6 : Nat → Nat) : ∀ j, j < 4 → some (g4 (70 + 20 * j)) = some (glF h0 g1 g2 g3 g4 g5 g6 (70 + 20 * j)) := by
  intro j hj
  match j, hj with
  | 0, _ => rfl
  | 1, _ => rfl
  | 2, _ => rfl
  | 3, _ => rfl
abbrev hs2 (ca : Nat → ClassId) (g : Nat → Nat) : va_W := [(g 1, .inr (2, [.ref (g 2), .int 0, .int 0])), (g 2, .inl (ca 3, 4, .inr (.inr (.inr (.inr (fun k => some (g (70 + 20 * k))))))))]
abbrev hs4 (ca : Nat → ClassId) (g : Nat → Nat) : va_W := bkW ca (fun j => g (70 + j)) bI ++ (bkW ca (fun j => g (90 + j)) bI ++ (bkW ca (fun j => g (110 + j)) bI ++ bkW ca (fun j => g (130 + j)) bI))
abbrev fcI (h0 : Nat) (g1 g2 g3 g4 g5 g6 : Nat → Nat) : Nat × va_E := (h0, .inr (7, [.ref (g1 0), .ref (g2 0), .ref (g3 0), .ref (g4 1), .ref (g5 3), .ref (g6 7), .int 0, .int 0, .int (0 : Int32)]))
set_option maxRecDepth 100000 in
set_option maxHeartbeats 16000000 in
theorem fWI {ca : Nat → ClassId} {h0 : Nat} {g1 g2 g3 g4 g5 g6 : Nat → Nat} : ((fcI h0 g1 g2 g3 g4 g5 g6) :: (hs2 ca g4 ++ (txW ca g5 (fun _ => B0) ++ (rkW ca g6 (fun _ => B0) ++ (bkW ca g1 bI ++ (bkW ca g2 bI ++ (bkW ca g3 bI ++ hs4 ca g4))))))).set 2 (g4 2, .inl (ca 3, 4, .inr (.inr (.inr (.inr (fun k => some (glF h0 g1 g2 g3 g4 g5 g6 (70 + 20 * k)))))))) = fW ca (glF h0 g1 g2 g3 g4 g5 g6) KI := rfl
set_option maxRecDepth 100000 in
set_option maxHeartbeats 16000000 in
theorem c_X7_init (l : Launch) (D : va_G) (ca : Nat → ClassId) (h0 : Nat) : jM l D ca yX7_init cX7_init 1 (none : Option FieldType) 4 73 149 1796 [.ref h0] [(h0, .inr (7, [.null, .null, .null, .null, .null, .null, .int 0, .int 0, .int 0]))] (fun v w1 => v = none ∧ ∃ g : Nat → Nat, g 0 = h0 ∧ w1 = fW ca g KI) := by
  refine jM_of [(0, .ref h0)] (by decide) (Nat.le_of_ble_eq_true rfl) rfl (fun X C E => ?_)
  refine j_aload_n C dX7_init_0 rfl ?_
  refine j_objInit C q_14 q_15 q_16 dX7_init_1 (Nat.le_of_ble_eq_true rfl) (Nat.le_of_ble_eq_true rfl) ?_
  refine j_aload_n C dX7_init_4 rfl ?_
  refine j_new (ci := 0) C [.null, .null, .null, .null, .null, .int 0, .int 0, .int 0, .int 0, .int 0, .int 0] tyX0 tyX0_ok lay_X0 q_17 q_18 q_2 rfl dv_X0 (Nat.le_of_ble_eq_true rfl) (Nat.le_of_ble_eq_true rfl) dX7_init_5 (fun q1 => ?_)
  refine j_dup C dX7_init_8 rfl ?_
  refine j_callI (As := []) C g_X7_9 (c_X0_init l D ca q1) ⟨Nat.le_of_ble_eq_true rfl, Nat.le_of_ble_eq_true rfl⟩ ⟨Nat.le_of_ble_eq_true rfl, Nat.le_of_ble_eq_true rfl⟩ rfl (Nat.le_of_ble_eq_true rfl) dX7_init_9 (fun v w1 hp => ?_)
  obtain ⟨rfl, g2, rfl, rfl⟩ := hp
  refine j_putF C f_X7_10 0 dX7_init_12 rfl (Nat.le_of_ble_eq_true rfl) rfl rfl rfl hcl_X7 ?_
  refine j_ws (ws' := (h0, .inr (7, [.ref (g2 0), .null, .null, .null, .null, .null, .int 0, .int 0, .int 0])) :: bkW ca g2 bI) rfl ?_
  refine j_aload_n C dX7_init_15 rfl ?_
  refine j_new (ci := 0) C [.null, .null, .null, .null, .null, .int 0, .int 0, .int 0, .int 0, .int 0, .int 0] tyX0 tyX0_ok lay_X0 q_17 q_18 q_2 rfl dv_X0 (Nat.le_of_ble_eq_true rfl) (Nat.le_of_ble_eq_true rfl) dX7_init_16 (fun q3 => ?_)
  refine j_dup C dX7_init_19 rfl ?_
  refine j_callI (As := []) C g_X7_9 (c_X0_init l D ca q3) ⟨Nat.le_of_ble_eq_true rfl, Nat.le_of_ble_eq_true rfl⟩ ⟨Nat.le_of_ble_eq_true rfl, Nat.le_of_ble_eq_true rfl⟩ rfl (Nat.le_of_ble_eq_true rfl) dX7_init_20 (fun v w1 hp => ?_)
  obtain ⟨rfl, g4, rfl, rfl⟩ := hp
  refine j_putF C f_X7_16 0 dX7_init_23 rfl (Nat.le_of_ble_eq_true rfl) rfl rfl rfl hcl_X7 ?_
  refine j_ws (ws' := (h0, .inr (7, [.ref (g2 0), .ref (g4 0), .null, .null, .null, .null, .int 0, .int 0, .int 0])) :: (bkW ca g2 bI ++ bkW ca g4 bI)) rfl ?_
  refine j_aload_n C dX7_init_26 rfl ?_
  refine j_new (ci := 0) C [.null, .null, .null, .null, .null, .int 0, .int 0, .int 0, .int 0, .int 0, .int 0] tyX0 tyX0_ok lay_X0 q_17 q_18 q_2 rfl dv_X0 (Nat.le_of_ble_eq_true rfl) (Nat.le_of_ble_eq_true rfl) dX7_init_27 (fun q5 => ?_)
  refine j_dup C dX7_init_30 rfl ?_
  refine j_callI (As := []) C g_X7_9 (c_X0_init l D ca q5) ⟨Nat.le_of_ble_eq_true rfl, Nat.le_of_ble_eq_true rfl⟩ ⟨Nat.le_of_ble_eq_true rfl, Nat.le_of_ble_eq_true rfl⟩ rfl (Nat.le_of_ble_eq_true rfl) dX7_init_31 (fun v w1 hp => ?_)
  obtain ⟨rfl, g6, rfl, rfl⟩ := hp
  refine j_putF C f_X7_19 0 dX7_init_34 rfl (Nat.le_of_ble_eq_true rfl) rfl rfl rfl hcl_X7 ?_
  refine j_ws (ws' := (h0, .inr (7, [.ref (g2 0), .ref (g4 0), .ref (g6 0), .null, .null, .null, .int 0, .int 0, .int 0])) :: ((bkW ca g2 bI ++ bkW ca g4 bI) ++ bkW ca g6 bI)) rfl ?_
  refine j_aload_n C dX7_init_37 rfl ?_
  refine j_new (ci := 2) C [.null, .int 0, .int 0] tyX2 tyX2_ok lay_X2 q_166 q_167 q_6 rfl dv_X2 (Nat.le_of_ble_eq_true rfl) (Nat.le_of_ble_eq_true rfl) dX7_init_38 (fun q7 => ?_)
  refine j_dup C dX7_init_41 rfl ?_
  refine j_callI (As := []) C g_X7_24 (c_X2_init l D ca q7) ⟨Nat.le_of_ble_eq_true rfl, Nat.le_of_ble_eq_true rfl⟩ ⟨Nat.le_of_ble_eq_true rfl, Nat.le_of_ble_eq_true rfl⟩ rfl (Nat.le_of_ble_eq_true rfl) dX7_init_42 (fun v w1 hp => ?_)
  obtain ⟨rfl, g8, rfl, rfl⟩ := hp
  refine j_putF C f_X7_25 0 dX7_init_45 rfl (Nat.le_of_ble_eq_true rfl) rfl rfl rfl hcl_X7 ?_
  refine j_ws (ws' := (h0, .inr (7, [.ref (g2 0), .ref (g4 0), .ref (g6 0), .ref (g8 1), .null, .null, .int 0, .int 0, .int 0])) :: (((bkW ca g2 bI ++ bkW ca g4 bI) ++ bkW ca g6 bI) ++ hsW ca g8)) rfl ?_
  refine j_aload_n C dX7_init_48 rfl ?_
  refine j_new (ci := 6) C [.null, .null, .null, .int 0, .int 0] tyX6 tyX6_ok lay_X6 q_186 q_187 q_7 rfl dv_X6 (Nat.le_of_ble_eq_true rfl) (Nat.le_of_ble_eq_true rfl) dX7_init_49 (fun q9 => ?_)
  refine j_dup C dX7_init_52 rfl ?_
  refine j_callIN (As := []) C g_X7_31 (c_X6_init l D ca q9) ⟨Nat.le_of_ble_eq_true rfl, Nat.le_of_ble_eq_true rfl⟩ ⟨Nat.le_of_ble_eq_true rfl, Nat.le_of_ble_eq_true rfl⟩ rfl (Nat.le_of_ble_eq_true rfl) dX7_init_53 (fun v w1 hp => ?_)
  obtain ⟨rfl, g10, rfl, rfl⟩ := hp
  refine j_putF C f_X7_32 0 dX7_init_56 rfl (Nat.le_of_ble_eq_true rfl) rfl rfl rfl hcl_X7 ?_
  refine j_ws (ws' := (h0, .inr (7, [.ref (g2 0), .ref (g4 0), .ref (g6 0), .ref (g8 1), .ref (g10 3), .null, .int 0, .int 0, .int 0])) :: ((((bkW ca g2 bI ++ bkW ca g4 bI) ++ bkW ca g6 bI) ++ hsW ca g8) ++ txW ca g10 (fun _ => B0))) rfl ?_
  refine j_aload_n C dX7_init_59 rfl ?_
  refine j_new (ci := 5) C [.null, .null, .int 0] tyX5 tyX5_ok lay_X5 q_208 q_209 q_8 rfl dv_X5 (Nat.le_of_ble_eq_true rfl) (Nat.le_of_ble_eq_true rfl) dX7_init_60 (fun q11 => ?_)
  refine j_dup C dX7_init_63 rfl ?_
  refine j_callIN (As := []) C g_X7_38 (c_X5_init l D ca q11) ⟨Nat.le_of_ble_eq_true rfl, Nat.le_of_ble_eq_true rfl⟩ ⟨Nat.le_of_ble_eq_true rfl, Nat.le_of_ble_eq_true rfl⟩ rfl (Nat.le_of_ble_eq_true rfl) dX7_init_64 (fun v w1 hp => ?_)
  obtain ⟨rfl, g12, rfl, rfl⟩ := hp
  refine j_putF C f_X7_39 0 dX7_init_67 rfl (Nat.le_of_ble_eq_true rfl) rfl rfl rfl hcl_X7 ?_
  refine j_ws (ws' := (h0, .inr (7, [.ref (g2 0), .ref (g4 0), .ref (g6 0), .ref (g8 1), .ref (g10 3), .ref (g12 7), .int 0, .int 0, .int 0])) :: (((((bkW ca g2 bI ++ bkW ca g4 bI) ++ bkW ca g6 bI) ++ hsW ca g8) ++ txW ca g10 (fun _ => B0)) ++ rkW ca g12 (fun _ => B0))) rfl ?_
  refine j_aload_n C dX7_init_70 rfl ?_
  refine j_iconst C dX7_init_71 (0 : Int32) (by decide) ?_
  refine j_put C f_X7_43 0 dX7_init_72 rfl (Nat.le_of_ble_eq_true rfl) rfl rfl ?_
  refine j_ws (ws' := (h0, .inr (7, [.ref (g2 0), .ref (g4 0), .ref (g6 0), .ref (g8 1), .ref (g10 3), .ref (g12 7), .int 0, .int 0, .int (0 : Int32)])) :: (((((bkW ca g2 bI ++ bkW ca g4 bI) ++ bkW ca g6 bI) ++ hsW ca g8) ++ txW ca g10 (fun _ => B0)) ++ rkW ca g12 (fun _ => B0))) rfl ?_
  refine j_Perm _ (permX (fcI h0 g2 g4 g6 g8 g10 g12) (bkW ca g2 bI) (bkW ca g4 bI) (bkW ca g6 bI) (hs2 ca g8) (hs4 ca g8) (txW ca g10 (fun _ => B0)) (rkW ca g12 (fun _ => B0))) ?_
  refine j_extQ 2 (fun k => some (glF h0 g2 g4 g6 g8 g10 g12 (70 + 20 * k))) rfl (glF_row h0 g2 g4 g6 g8 g10 g12) ?_
  refine j_ws fWI ?_
  exact j_vret E dX7_init_75 ⟨rfl, (glF h0 g2 g4 g6 g8 g10 g12), rfl, rfl⟩
