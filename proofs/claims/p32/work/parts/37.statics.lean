/-- the four static arrays: what each holds -/
def sv (j : Nat) : Nat → Int32 := match j with
  | 0 => fun k => match k with
    | 0 => 1036831949
    | _ => 0
  | 1 => fun k => match k with
    | 0 => 1065353216
    | 1 => 1028443341
    | _ => 1056964608
  | 2 => fun k => match k with
    | 2 => 1
    | _ => 0
  | _ => fun k => match k with
    | 2 => 365
    | _ => 90
def sn (j : Nat) : String := match j with
  | 0 => "LOWEST_RATE"
  | 1 => "HIGHEST_RATE"
  | 2 => "LOWEST_NUMBER"
  | _ => "HIGHEST_NUMBER"
def jX1 (ts : Nat → Nat) (A : Nat → Prop) (U : State) (H : Heap) : Prop := ∀ j, j < 4 → va_Z RX7 (sn j) "[I" (.ref (ts j)) A U H ∧ va_T .int (ts j) 3 (fun k => .int (sv j k)) A U H
theorem jX1_to {ts : Nat → Nat} {A A1 : Nat → Prop} {u U : State} {H0 H : Heap} (hvm : u.vm.Alike U.vm) (hq : ∀ a : Nat, a < H0.size → ¬ A a → H[a]? = H0[a]?) (hA : ∀ q, A1 q → A q) (h : jX1 ts A u H0) : jX1 ts A1 U H := fun j hj => ⟨(((h j hj).1.moved hvm).kept hq).narrow hA, (((h j hj).2.moved hvm).kept hq).narrow hA⟩
/-- a contract of a method that reads the static arrays -/
def jMS (ts : Nat → Nat) (l : Launch) (D : va_G) (ca : Nat → ClassId) (y : MethodName) (cc : ByteArray) (nL : Nat) (ret : Option FieldType) (fr loc mc ms : Nat) (av : List Value) (w0 : va_W) (post : Option Value → va_W → Prop) : Prop :=
  ∀ sz : Nat, Met l y (jw y cc nL ret) ({ frames := fr, cells := mc, slots := ms, locals := loc } : Room) (va_Pc av (fun U => U.heap.size = sz ∧ va_P D vwCl w0 U.heap ∧ va_K D vwCl (jT ca) U ∧ va_D (fun _ => True) w0 ∧ jN U ∧ jX1 ts (va_A w0 sz) U U.heap)) (jQ D ca w0 sz post) mc ms (va_A w0 sz)
def jSX (ts : Nat → Nat) (X : jX) : Prop := match X with
  | (_, _, s, _, _, _, _, _, A, H0, _) => H0 = s.heap ∧ jX1 ts A s s.heap
theorem jMS_of {ts : Nat → Nat} {l : Launch} {D : va_G} {ca : Nat → ClassId} {y : MethodName} {cc : ByteArray} {nL : Nat} {ret : Option FieldType} {fr loc mc ms : Nat} {av : List Value} {w0 : va_W} {post : Option Value → va_W → Prop} (lv : jLv) (hy : plainName y.cls = true) (hlen : (lg_sl av).length ≤ nL) (hlv : lv_args 0 av = lv)
    (h : ∀ X, jK l { frames := fr, cells := mc, slots := ms, locals := loc } D ca nL X cc y ret → jE l { frames := fr, cells := mc, slots := ms, locals := loc } D nL X cc mc ms ret post → jSX ts X → J l { frames := fr, cells := mc, slots := ms, locals := loc } D nL X 0 0 w0 lv [] 0) : jMS ts l D ca y cc nL ret fr loc mc ms av w0 post := by
  intro sz
  refine Met.ofW (cc := cc) (maxL := nL) (ret := ret) hy rfl ?_
  intro p e s m args below meth c s₁ B hml hv
  obtain ⟨rfl, hsz, hP, hK, hD0, hN, hT⟩ := hv
  subst hsz
  have hts := atoms_spec (ws := jw y cc nL ret) B.pre
  have hown : s.vm.findClass y.cls = some m.cls := findClass_of_methodNamed B.named
  rw [lg_entry_eq]
  have hl := lv_entry av (n := nL) hlen
  rw [hlv] at hl
  have hx := B.exec
  have hb := B.bytes
  have hr := B.returns
  have hlk := B.notSynchronized
  refine h (p, e, s, m, av.toArray, below, meth, c, va_A w0 s.heap.size, s.heap, MQ below (jQ D ca w0 s.heap.size post) av.toArray s mc ms (va_A w0 s.heap.size)) ⟨hx, hb, hml, hown, fun w hw => hts w (List.mem_cons_of_mem _ hw), hK, hlk, fun q h => Or.inr h, hr, fun h => (name_of_methodNamed B.named B.method).1.trans h, hN⟩ ?_ ⟨rfl, hT⟩ s.heap [] _ hP hD0.self va_S.rf hl
  intro ws lv pc v hp hR H locs ls hP hD hS hl
  rcases hR with ⟨x, ty, rfl, h2, h3, h4⟩ | ⟨x, rfl, h2, h4⟩ | ⟨rfl, h2, h4⟩ | ⟨w, C, rfl, h2, h3, h4⟩
  · exact W.zret hx hb (hr.trans h2) h3 (fun t ht hW => ⟨⟨_, ws, rfl, hp, by rw [ht]; exact hP, va_K.moved hW.alike hK, hD⟩, hS.F ht⟩) hS.2.2 h4 hlk
  · exact W.fret hx hb (hr.trans h2) (fun t ht hW => ⟨⟨_, ws, rfl, hp, by rw [ht]; exact hP, va_K.moved hW.alike hK, hD⟩, hS.F ht⟩) hS.2.2 h4 hlk
  · exact W.vret hx hb (hr.trans h2) (fun t ht hW => ⟨⟨_, ws, rfl, hp, by rw [ht]; exact hP, va_K.moved hW.alike hK, hD⟩, hS.F ht⟩) hS.2.2 h4 hlk
  · exact W.aret hx hb (hr.trans h2) (Or.inl ⟨C, rfl⟩) h3 (fun t ht hW => ⟨⟨_, ws, rfl, hp, by rw [ht]; exact hP, va_K.moved hW.alike hK, hD⟩, hS.F ht⟩) hS.2.2 h4 hlk
section JST
variable {l : Launch} {R : Room} {D : va_G} {ca : Nat → ClassId} {nL : Nat} {X : jX} {cc : ByteArray} {y0 : MethodName} {ret0 : Option FieldType} {k n pc : Nat} {ws : va_W} {lv : jLv} {st : List Value} {ts : Nat → Nat}
theorem j_gets (C : jK l R D ca nL X cc y0 ret0) (Sx : jSX ts X) (j : Nat) (hj : j < 4) {idx : Nat} (hw : Cond.fieldLink y0.cls idx RX7 (sn j) "[I" ∈ jAll) (hd : decode cc pc = .ok (.getstatic idx, 3)) (h : J l R D nL X k n ws lv (.ref (ts j) :: st) (pc + 3)) : J l R D nL X k n ws lv st pc := by
  obtain ⟨p, e, s, m, args, below, meth, c, A, H0, Q⟩ := X
  obtain ⟨hx, hb, hml, hown, hts, hK, hlk, hA, hr, hnm0, hjn⟩ := C
  obtain ⟨rfl, hT⟩ := Sx
  intro H locs ls hP hD hS hl
  exact va_gets hx hb (hT j hj).1 hS hown (hts _ hw) (fun _ z => z) hd (h H locs ls hP hD hS hl)
theorem j_ti (C : jK l R D ca nL X cc y0 ret0) (Sx : jSX ts X) (j : Nat) (hj : j < 4) {i : Int32} (hd : decode cc pc = .ok (.iaload, 1)) (hin : vp_in i 3) (h : J l R D nL X k n ws lv (.int (sv j i.toNatClampNeg) :: st) (pc + 1)) : J l R D nL X k n ws lv (.int i :: .ref (ts j) :: st) pc := by
  obtain ⟨p, e, s, m, args, below, meth, c, A, H0, Q⟩ := X
  obtain ⟨hx, hb, hml, hown, hts, hK, hlk, hA, hr, hnm0, hjn⟩ := C
  obtain ⟨rfl, hT⟩ := Sx
  intro H locs ls hP hD hS hl
  exact va_ti hx hb (hT j hj).2 hS hin rfl hd (h H locs ls hP hD hS hl)
end JST
set_option maxRecDepth 100000 in
set_option maxHeartbeats 4000000 in
theorem ff_f_14 {ca : Nat → ClassId} {g : Nat → Nat} {K : (Nat → jB)} {i : Nat} {v : UInt32} : ((fW ca g K).set 14 (g 14, .inl (ca 1, 3, .inr (.inr (.inl (vf_upd (fun k => (K 0 15 k).toUInt32) i v)))))).set 14 (g 14, .inl (ca 1, 3, .inr (.inr (.inl (fun k => ((up3 K 0 15 i v.toInt32) 0 15 k).toUInt32))))) = fW ca g (up3 K 0 15 i v.toInt32) := rfl

def z_X7_setRate_0 (K : (Nat → jB)) (w : Int32) (b : Int32) : (Nat → jB) := (up3 (r_X2_push_0 K) 0 15 (w).toNatClampNeg (((r_X7_floatOf b)).toInt32))
def r_X7_setRate (K : (Nat → jB)) (w : Int32) (b : Int32) : Int32 × (Nat → jB) := (if w < (0 : Int32) then ((-1 : Int32), K) else (if w < (3 : Int32) then (if b < (sv 0 w.toNatClampNeg) then ((-2 : Int32), K) else (if b ≤ (sv 1 w.toNatClampNeg) then (if (Op.cmpValue (FP.fcmp ((K 0 15 w.toNatClampNeg).toUInt32) (r_X7_floatOf b)) CmpOp.l) = (0 : Int32) then ((-5 : Int32), K) else ((1 : Int32), (z_X7_setRate_0 K w b))) else ((-2 : Int32), K))) else ((-1 : Int32), K)))
def n_X7_setRate (K : (Nat → jB)) (w : Int32) (b : Int32) : Prop := ((w < (0 : Int32) → True) ∧ (¬ (w < (0 : Int32)) → ((w < (3 : Int32) → ((b < (sv 0 w.toNatClampNeg) → True) ∧ (¬ (b < (sv 0 w.toNatClampNeg)) → ((b ≤ (sv 1 w.toNatClampNeg) → ((n_X7_floatOf b) ∧ (((Op.cmpValue (FP.fcmp ((K 0 15 w.toNatClampNeg).toUInt32) (r_X7_floatOf b)) CmpOp.l) = (0 : Int32) → True) ∧ (¬ ((Op.cmpValue (FP.fcmp ((K 0 15 w.toNatClampNeg).toUInt32) (r_X7_floatOf b)) CmpOp.l) = (0 : Int32)) → ((n_X2_push_0 K) ∧ True))))) ∧ (¬ (b ≤ (sv 1 w.toNatClampNeg)) → True))))) ∧ (¬ (w < (3 : Int32)) → True))))
set_option maxRecDepth 100000 in
set_option maxHeartbeats 4000000 in
theorem c_X7_setRate (l : Launch) (D : va_G) (ca : Nat → ClassId) (ts : Nat → Nat) (g : Nat → Nat) (K : (Nat → jB)) (w : Int32) (b : Int32) (hq : n_X7_setRate K w b) : jMS ts l D ca yX7_setRate cX7_setRate 4 (some .int) 5 107 0 0 [.ref (g 0), .int w, .int b] (fW ca g K) (jD (some (.int (r_X7_setRate K w b).1)) (fW ca g ((r_X7_setRate K w b).2))) := by
  refine jMS_of [(0, .ref (g 0)), (1, .int w), (2, .int b)] (by decide) (Nat.le_of_ble_eq_true rfl) rfl (fun X C E Sx => ?_)
  rw [n_X7_setRate] at hq
  refine j_iload_n C dX7_setRate_0 rfl ?_
  refine j_if_lt (tgt := 9) C dX7_setRate_1 (by decide) (fun (h1 : w < (0 : Int32)) => ?_) (fun (h1 : ¬ (w < (0 : Int32))) => ?_)
  · have hq := hq.1 h1
    refine j_iconst C dX7_setRate_9 (-1 : Int32) (by decide) ?_
    have e9 : r_X7_setRate K w b = ((-1 : Int32), K) := by rw [r_X7_setRate, if_pos h1]
    exact j_iret E dX7_setRate_10 (jD_k e9 (fW ca g))
  · have hq := hq.2 h1
    refine j_iload_n C dX7_setRate_4 rfl ?_
    refine j_iconst C dX7_setRate_5 (3 : Int32) (by decide) ?_
    refine j_icmp_lt (tgt := 11) C dX7_setRate_6 (by decide) (fun (h6 : w < (3 : Int32)) => ?_) (fun (h6 : ¬ (w < (3 : Int32))) => ?_)
    · have hq := hq.1 h6
      refine j_iload_n C dX7_setRate_11 rfl ?_
      refine j_gets C Sx 0 (by decide) q_474 dX7_setRate_12 ?_
      refine j_iload_n C dX7_setRate_15 rfl ?_
      refine j_ti C Sx 0 (by decide) dX7_setRate_16 (by first | exact vin_lt 3 rfl (Int32.not_lt.mp (by assumption)) (by assumption) | exact vin_lt 3 rfl (Int32.not_lt.mp (by assumption)) (Int32.not_le.mp (by assumption))) ?_
      refine j_icmp_lt (tgt := 29) C dX7_setRate_17 (by decide) (fun (h17 : b < (sv 0 w.toNatClampNeg)) => ?_) (fun (h17 : ¬ (b < (sv 0 w.toNatClampNeg))) => ?_)
      · have hq := hq.1 h17
        refine j_bipush C dX7_setRate_29 (-2 : Int32) (by decide) ?_
        have e9 : r_X7_setRate K w b = ((-2 : Int32), K) := by rw [r_X7_setRate, if_neg h1, if_pos h6, if_pos h17]
        exact j_iret E dX7_setRate_31 (jD_k e9 (fW ca g))
      · have hq := hq.2 h17
        refine j_iload_n C dX7_setRate_20 rfl ?_
        refine j_gets C Sx 1 (by decide) q_476 dX7_setRate_21 ?_
        refine j_iload_n C dX7_setRate_24 rfl ?_
        refine j_ti C Sx 1 (by decide) dX7_setRate_25 (by first | exact vin_lt 3 rfl (Int32.not_lt.mp (by assumption)) (by assumption) | exact vin_lt 3 rfl (Int32.not_lt.mp (by assumption)) (Int32.not_le.mp (by assumption))) ?_
        refine j_icmp_le (tgt := 32) C dX7_setRate_26 (by decide) (fun (h26 : b ≤ (sv 1 w.toNatClampNeg)) => ?_) (fun (h26 : ¬ (b ≤ (sv 1 w.toNatClampNeg))) => ?_)
        · have hq := hq.1 h26
          refine j_iload_n C dX7_setRate_32 rfl ?_
          obtain ⟨hv, hq⟩ := hq
          refine j_callSfR C g_X7_54 (c_X7_floatOf l D ca b hv) ⟨Nat.le_of_ble_eq_true rfl, Nat.le_of_ble_eq_true rfl⟩ ⟨Nat.le_of_ble_eq_true rfl, Nat.le_of_ble_eq_true rfl⟩ [] rfl rfl rfl rfl (Nat.le_of_ble_eq_true rfl) dX7_setRate_33 ?_
          refine j_fstore_n C [(3, _), (0, _), (1, _), (2, _)] dX7_setRate_36 (by decide) rfl ?_
          refine j_aload_n C dX7_setRate_37 rfl ?_
          refine j_get C f_X7_10.F 0 dX7_setRate_38 fW_0 rfl ?_
          refine j_get C f_X7_58.F 10 dX7_setRate_41 fW_10 rfl ?_
          refine j_iload_n C dX7_setRate_44 rfl ?_
          refine j_fald C 14 dX7_setRate_45 fW_14 (by first | exact vin_lt 3 rfl (Int32.not_lt.mp (by assumption)) (by assumption) | exact vin_lt 3 rfl (Int32.not_lt.mp (by assumption)) (Int32.not_le.mp (by assumption))) ?_
          refine j_fload_n C dX7_setRate_46 rfl ?_
          refine j_fcmp C dX7_setRate_47 ?_
          refine j_if_ne (tgt := 54) C dX7_setRate_48 (by decide) (fun (h48 : ¬ ((Op.cmpValue (FP.fcmp ((K 0 15 w.toNatClampNeg).toUInt32) (r_X7_floatOf b)) CmpOp.l) = (0 : Int32))) => ?_) (fun (h48 : (Op.cmpValue (FP.fcmp ((K 0 15 w.toNatClampNeg).toUInt32) (r_X7_floatOf b)) CmpOp.l) = (0 : Int32)) => ?_)
          · have hq := hq.2 h48
            refine j_aload_n C dX7_setRate_54 rfl ?_
            refine j_get C f_X7_25.F 0 dX7_setRate_55 fW_0 rfl ?_
            refine j_aload_n C dX7_setRate_58 rfl ?_
            refine j_get C f_X7_10.F 0 dX7_setRate_59 fW_0 rfl ?_
            obtain ⟨hv, hq⟩ := hq
            refine j_callVvW C g_X7_62 (c_X2_push_0 l D ca g K hv) 1 fW_1 hcl_X2 ⟨Nat.le_of_ble_eq_true rfl, Nat.le_of_ble_eq_true rfl⟩ ⟨Nat.le_of_ble_eq_true rfl, Nat.le_of_ble_eq_true rfl⟩ rfl rfl (Nat.le_of_ble_eq_true rfl) dX7_setRate_62 fst_f ?_
            refine j_aload_n C dX7_setRate_65 rfl ?_
            refine j_get C f_X7_10.F 0 dX7_setRate_66 fW_0 rfl ?_
            refine j_get C f_X7_58.F 10 dX7_setRate_69 fW_10 rfl ?_
            refine j_iload_n C dX7_setRate_72 rfl ?_
            refine j_fload_n C dX7_setRate_73 rfl ?_
            refine j_fast C 14 dX7_setRate_74 fW_14 (by first | exact vin_lt 3 rfl (Int32.not_lt.mp (by assumption)) (by assumption) | exact vin_lt 3 rfl (Int32.not_lt.mp (by assumption)) (Int32.not_le.mp (by assumption))) ?_
            refine j_extF 14 (fun k => ((up3 (r_X2_push_0 K) 0 15 (w).toNatClampNeg (((r_X7_floatOf b)).toInt32)) 0 15 k).toUInt32) rfl (fun _ _ => vf_row3 _ _ _ _ _ _) ?_
            refine j_ws (ws' := (fW ca g (z_X7_setRate_0 K w b))) ff_f_14 ?_
            refine j_iconst C dX7_setRate_75 (1 : Int32) (by decide) ?_
            have e9 : r_X7_setRate K w b = ((1 : Int32), (z_X7_setRate_0 K w b)) := by rw [r_X7_setRate, if_neg h1, if_pos h6, if_neg h17, if_pos h26, if_neg h48]
            exact j_iret E dX7_setRate_76 (jD_k e9 (fW ca g))
          · have hq := hq.1 h48
            refine j_bipush C dX7_setRate_51 (-5 : Int32) (by decide) ?_
            have e9 : r_X7_setRate K w b = ((-5 : Int32), K) := by rw [r_X7_setRate, if_neg h1, if_pos h6, if_neg h17, if_pos h26, if_pos h48]
            exact j_iret E dX7_setRate_53 (jD_k e9 (fW ca g))
        · have hq := hq.2 h26
          refine j_bipush C dX7_setRate_29 (-2 : Int32) (by decide) ?_
          have e9 : r_X7_setRate K w b = ((-2 : Int32), K) := by rw [r_X7_setRate, if_neg h1, if_pos h6, if_neg h17, if_neg h26]
          exact j_iret E dX7_setRate_31 (jD_k e9 (fW ca g))
    · have hq := hq.2 h6
      refine j_iconst C dX7_setRate_9 (-1 : Int32) (by decide) ?_
      have e9 : r_X7_setRate K w b = ((-1 : Int32), K) := by rw [r_X7_setRate, if_neg h1, if_neg h6]
      exact j_iret E dX7_setRate_10 (jD_k e9 (fW ca g))
set_option maxRecDepth 100000 in
set_option maxHeartbeats 4000000 in
theorem fa_f_15 {ca : Nat → ClassId} {g : Nat → Nat} {K : (Nat → jB)} {i : Nat} {v : Int32} : (fW ca g K).set 15 (g 15, .inl (ca 0, 3, .inl (upd (K 0 14) i v))) = fW ca g (up3 K 0 14 i v) := rfl

def r_X7_setNumber (K : (Nat → jB)) (w : Int32) (v : Int32) : Int32 × (Nat → jB) := (if w < (0 : Int32) then ((-1 : Int32), K) else (if w < (3 : Int32) then (if v < (sv 2 w.toNatClampNeg) then ((-2 : Int32), K) else (if v ≤ (sv 3 w.toNatClampNeg) then (if (K 0 14 w.toNatClampNeg) = v then ((-5 : Int32), K) else ((K 0 14 w.toNatClampNeg), (up3 (r_X2_push_0 K) 0 14 (w).toNatClampNeg v))) else ((-2 : Int32), K))) else ((-1 : Int32), K)))
def n_X7_setNumber (K : (Nat → jB)) (w : Int32) (v : Int32) : Prop := ((w < (0 : Int32) → True) ∧ (¬ (w < (0 : Int32)) → ((w < (3 : Int32) → ((v < (sv 2 w.toNatClampNeg) → True) ∧ (¬ (v < (sv 2 w.toNatClampNeg)) → ((v ≤ (sv 3 w.toNatClampNeg) → (((K 0 14 w.toNatClampNeg) = v → True) ∧ (¬ ((K 0 14 w.toNatClampNeg) = v) → ((n_X2_push_0 K) ∧ True)))) ∧ (¬ (v ≤ (sv 3 w.toNatClampNeg)) → True))))) ∧ (¬ (w < (3 : Int32)) → True))))
set_option maxRecDepth 100000 in
set_option maxHeartbeats 4000000 in
theorem c_X7_setNumber (l : Launch) (D : va_G) (ca : Nat → ClassId) (ts : Nat → Nat) (g : Nat → Nat) (K : (Nat → jB)) (w : Int32) (v : Int32) (hq : n_X7_setNumber K w v) : jMS ts l D ca yX7_setNumber cX7_setNumber 4 (some .int) 5 107 0 0 [.ref (g 0), .int w, .int v] (fW ca g K) (jD (some (.int (r_X7_setNumber K w v).1)) (fW ca g ((r_X7_setNumber K w v).2))) := by
  refine jMS_of [(0, .ref (g 0)), (1, .int w), (2, .int v)] (by decide) (Nat.le_of_ble_eq_true rfl) rfl (fun X C E Sx => ?_)
  rw [n_X7_setNumber] at hq
  refine j_iload_n C dX7_setNumber_0 rfl ?_
  refine j_if_lt (tgt := 9) C dX7_setNumber_1 (by decide) (fun (h1 : w < (0 : Int32)) => ?_) (fun (h1 : ¬ (w < (0 : Int32))) => ?_)
  · have hq := hq.1 h1
    refine j_iconst C dX7_setNumber_9 (-1 : Int32) (by decide) ?_
    have e9 : r_X7_setNumber K w v = ((-1 : Int32), K) := by rw [r_X7_setNumber, if_pos h1]
    exact j_iret E dX7_setNumber_10 (jD_k e9 (fW ca g))
  · have hq := hq.2 h1
    refine j_iload_n C dX7_setNumber_4 rfl ?_
    refine j_iconst C dX7_setNumber_5 (3 : Int32) (by decide) ?_
    refine j_icmp_lt (tgt := 11) C dX7_setNumber_6 (by decide) (fun (h6 : w < (3 : Int32)) => ?_) (fun (h6 : ¬ (w < (3 : Int32))) => ?_)
    · have hq := hq.1 h6
      refine j_iload_n C dX7_setNumber_11 rfl ?_
      refine j_gets C Sx 2 (by decide) q_463 dX7_setNumber_12 ?_
      refine j_iload_n C dX7_setNumber_15 rfl ?_
      refine j_ti C Sx 2 (by decide) dX7_setNumber_16 (by first | exact vin_lt 3 rfl (Int32.not_lt.mp (by assumption)) (by assumption) | exact vin_lt 3 rfl (Int32.not_lt.mp (by assumption)) (Int32.not_le.mp (by assumption))) ?_
      refine j_icmp_lt (tgt := 29) C dX7_setNumber_17 (by decide) (fun (h17 : v < (sv 2 w.toNatClampNeg)) => ?_) (fun (h17 : ¬ (v < (sv 2 w.toNatClampNeg))) => ?_)
      · have hq := hq.1 h17
        refine j_bipush C dX7_setNumber_29 (-2 : Int32) (by decide) ?_
        have e9 : r_X7_setNumber K w v = ((-2 : Int32), K) := by rw [r_X7_setNumber, if_neg h1, if_pos h6, if_pos h17]
        exact j_iret E dX7_setNumber_31 (jD_k e9 (fW ca g))
      · have hq := hq.2 h17
        refine j_iload_n C dX7_setNumber_20 rfl ?_
        refine j_gets C Sx 3 (by decide) q_465 dX7_setNumber_21 ?_
        refine j_iload_n C dX7_setNumber_24 rfl ?_
        refine j_ti C Sx 3 (by decide) dX7_setNumber_25 (by first | exact vin_lt 3 rfl (Int32.not_lt.mp (by assumption)) (by assumption) | exact vin_lt 3 rfl (Int32.not_lt.mp (by assumption)) (Int32.not_le.mp (by assumption))) ?_
        refine j_icmp_le (tgt := 32) C dX7_setNumber_26 (by decide) (fun (h26 : v ≤ (sv 3 w.toNatClampNeg)) => ?_) (fun (h26 : ¬ (v ≤ (sv 3 w.toNatClampNeg))) => ?_)
        · have hq := hq.1 h26
          refine j_aload_n C dX7_setNumber_32 rfl ?_
          refine j_get C f_X7_10.F 0 dX7_setNumber_33 fW_0 rfl ?_
          refine j_get C f_X7_72.F 10 dX7_setNumber_36 fW_10 rfl ?_
          refine j_iload_n C dX7_setNumber_39 rfl ?_
          refine j_iald C 15 dX7_setNumber_40 fW_15 (by first | exact vin_lt 3 rfl (Int32.not_lt.mp (by assumption)) (by assumption) | exact vin_lt 3 rfl (Int32.not_lt.mp (by assumption)) (Int32.not_le.mp (by assumption))) ?_
          refine j_istore_n C [(3, _), (0, _), (1, _), (2, _)] dX7_setNumber_41 (by decide) rfl ?_
          refine j_iload_n C dX7_setNumber_42 rfl ?_
          refine j_iload_n C dX7_setNumber_43 rfl ?_
          refine j_icmp_ne (tgt := 50) C dX7_setNumber_44 (by decide) (fun (h44 : ¬ ((K 0 14 w.toNatClampNeg) = v)) => ?_) (fun (h44 : (K 0 14 w.toNatClampNeg) = v) => ?_)
          · have hq := hq.2 h44
            refine j_aload_n C dX7_setNumber_50 rfl ?_
            refine j_get C f_X7_25.F 0 dX7_setNumber_51 fW_0 rfl ?_
            refine j_aload_n C dX7_setNumber_54 rfl ?_
            refine j_get C f_X7_10.F 0 dX7_setNumber_55 fW_0 rfl ?_
            obtain ⟨hv, hq⟩ := hq
            refine j_callVvW C g_X7_62 (c_X2_push_0 l D ca g K hv) 1 fW_1 hcl_X2 ⟨Nat.le_of_ble_eq_true rfl, Nat.le_of_ble_eq_true rfl⟩ ⟨Nat.le_of_ble_eq_true rfl, Nat.le_of_ble_eq_true rfl⟩ rfl rfl (Nat.le_of_ble_eq_true rfl) dX7_setNumber_58 fst_f ?_
            refine j_aload_n C dX7_setNumber_61 rfl ?_
            refine j_get C f_X7_10.F 0 dX7_setNumber_62 fW_0 rfl ?_
            refine j_get C f_X7_72.F 10 dX7_setNumber_65 fW_10 rfl ?_
            refine j_iload_n C dX7_setNumber_68 rfl ?_
            refine j_iload_n C dX7_setNumber_69 rfl ?_
            refine j_iast C 15 dX7_setNumber_70 fW_15 (by first | exact vin_lt 3 rfl (Int32.not_lt.mp (by assumption)) (by assumption) | exact vin_lt 3 rfl (Int32.not_lt.mp (by assumption)) (Int32.not_le.mp (by assumption))) ?_
            refine j_ws (ws' := (fW ca g (up3 (r_X2_push_0 K) 0 14 (w).toNatClampNeg v))) fa_f_15 ?_
            refine j_iload_n C dX7_setNumber_71 rfl ?_
            have e9 : r_X7_setNumber K w v = ((K 0 14 w.toNatClampNeg), (up3 (r_X2_push_0 K) 0 14 (w).toNatClampNeg v)) := by rw [r_X7_setNumber, if_neg h1, if_pos h6, if_neg h17, if_pos h26, if_neg h44]
            exact j_iret E dX7_setNumber_72 (jD_k e9 (fW ca g))
          · have hq := hq.1 h44
            refine j_bipush C dX7_setNumber_47 (-5 : Int32) (by decide) ?_
            have e9 : r_X7_setNumber K w v = ((-5 : Int32), K) := by rw [r_X7_setNumber, if_neg h1, if_pos h6, if_neg h17, if_pos h26, if_pos h44]
            exact j_iret E dX7_setNumber_49 (jD_k e9 (fW ca g))
        · have hq := hq.2 h26
          refine j_bipush C dX7_setNumber_29 (-2 : Int32) (by decide) ?_
          have e9 : r_X7_setNumber K w v = ((-2 : Int32), K) := by rw [r_X7_setNumber, if_neg h1, if_pos h6, if_neg h17, if_neg h26]
          exact j_iret E dX7_setNumber_31 (jD_k e9 (fW ca g))
    · have hq := hq.2 h6
      refine j_iconst C dX7_setNumber_9 (-1 : Int32) (by decide) ?_
      have e9 : r_X7_setNumber K w v = ((-1 : Int32), K) := by rw [r_X7_setNumber, if_neg h1, if_neg h6]
      exact j_iret E dX7_setNumber_10 (jD_k e9 (fW ca g))
