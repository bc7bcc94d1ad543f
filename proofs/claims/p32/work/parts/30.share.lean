set_option maxRecDepth 100000 in
set_option maxHeartbeats 4000000 in
theorem rd_26 {S : jB} {v0 : Int32} : (up2 S 16 3 v0) 16 7 = S 16 7 := rfl
set_option maxRecDepth 100000 in
set_option maxHeartbeats 4000000 in
theorem fo_bk_0_10 {ca : Nat → ClassId} {g : Nat → Nat} {B : jB} {v : Int32} : (bkW ca g B).set 0 (g 0, .inr (0, [.ref (g 1), .ref (g 2), .ref (g 3), .ref (g 4), .ref (g 5), .int (B 16 2), .int (B 16 3), .int (B 16 4), .int (B 16 5), .int (B 16 6), .int (B 16 7)].set 10 (.int v))) = bkW ca g (up2 B 16 7 v) := rfl
set_option maxRecDepth 100000 in
set_option maxHeartbeats 4000000 in
theorem fs_bk_X4_bear {ca : Nat → ClassId} {g : Nat → Nat} {B : jB}  {i : Int32} {c : Int32} : jrep (bkW ca g B) [1, 6, 7, 8, 9] (mbW ca g (r_X4_bear B i c)) = bkW ca g (r_X4_bear B i c) := by
  unfold r_X4_bear
  (repeat' split) <;> exact jrep_mg (by decide) rfl

def L_X0_share_111 (B : jB) (loss : Int32) (x18_3 : Int32) (x18_4 : Int32) (B18 : jB) : Nat → Int32 → Int32 → Int32 → Int32 → jB → jB
  | 0, _, _, _, _, _ => B
  | n111 + 1, x111_4, x111_5, x111_6, x111_7, B111 => (if x111_5 ≤ x111_7 then (up2 (up2 B111 16 3 ((B111 16 3) + loss)) 16 7 ((B111 16 7) + loss)) else (if (r_X4_has (r_X4_bear B111 x111_6 x111_4) (x111_6 + (1 : Int32))) = (0 : Int32) then L_X0_share_111 B loss x18_3 x18_4 B18 n111 x111_4 x111_5 (0 : Int32) (x111_7 + (1 : Int32)) (r_X4_bear B111 x111_6 x111_4) else L_X0_share_111 B loss x18_3 x18_4 B18 n111 x111_4 x111_5 (x111_6 + (1 : Int32)) (x111_7 + (1 : Int32)) (r_X4_bear B111 x111_6 x111_4)))
def NL_X0_share_111 (B : jB) (loss : Int32) (x18_3 : Int32) (x18_4 : Int32) (B18 : jB) : Nat → Int32 → Int32 → Int32 → Int32 → jB → Prop
  | 0, _, _, _, _, _ => True
  | n111 + 1, x111_4, x111_5, x111_6, x111_7, B111 => ((x111_5 ≤ x111_7 → True) ∧ (¬ (x111_5 ≤ x111_7) → (((r_X4_has (r_X4_bear B111 x111_6 x111_4) (x111_6 + (1 : Int32))) = (0 : Int32) → NL_X0_share_111 B loss x18_3 x18_4 B18 n111 x111_4 x111_5 (0 : Int32) (x111_7 + (1 : Int32)) (r_X4_bear B111 x111_6 x111_4)) ∧ (¬ ((r_X4_has (r_X4_bear B111 x111_6 x111_4) (x111_6 + (1 : Int32))) = (0 : Int32)) → NL_X0_share_111 B loss x18_3 x18_4 B18 n111 x111_4 x111_5 (x111_6 + (1 : Int32)) (x111_7 + (1 : Int32)) (r_X4_bear B111 x111_6 x111_4)))))
def z_X0_share_0 (B : jB) (loss : Int32) (x18_4 : Int32) (B18 : jB) : jB := (r_X4_bear B18 x18_4 (FP.f2i (FP.fdiv (FP.fmul (FP.i2f loss) (FP.i2f (B18 0 x18_4.toNatClampNeg))) (FP.i2f (r_X4_allWeights B)))))
def L_X0_share_18 (B : jB) (loss : Int32) : Nat → Int32 → Int32 → jB → jB
  | 0, _, _, _ => B
  | n18 + 1, x18_3, x18_4, B18 => (if (8 : Int32) ≤ x18_4 then (if (0 : Int32) ≤ x18_3 then L_X0_share_111 B loss x18_3 x18_4 B18 ((x18_3.toInt - (0 : Int32).toInt).toNat + 1) (1 : Int32) x18_3 (0 : Int32) (0 : Int32) B18 else L_X0_share_111 B loss x18_3 x18_4 B18 (((-x18_3).toInt - (0 : Int32).toInt).toNat + 1) (-1 : Int32) (-x18_3) (0 : Int32) (0 : Int32) B18) else (if (r_X4_has B18 x18_4) = (0 : Int32) then (if (0 : Int32) ≤ x18_3 then L_X0_share_111 B loss x18_3 x18_4 B18 ((x18_3.toInt - (0 : Int32).toInt).toNat + 1) (1 : Int32) x18_3 (0 : Int32) (0 : Int32) B18 else L_X0_share_111 B loss x18_3 x18_4 B18 (((-x18_3).toInt - (0 : Int32).toInt).toNat + 1) (-1 : Int32) (-x18_3) (0 : Int32) (0 : Int32) B18) else L_X0_share_18 B loss n18 (x18_3 - (FP.f2i (FP.fdiv (FP.fmul (FP.i2f loss) (FP.i2f (B18 0 x18_4.toNatClampNeg))) (FP.i2f (r_X4_allWeights B))))) (x18_4 + (1 : Int32)) (z_X0_share_0 B loss x18_4 B18)))
def NL_X0_share_18 (B : jB) (loss : Int32) : Nat → Int32 → Int32 → jB → Prop
  | 0, _, _, _ => True
  | n18 + 1, x18_3, x18_4, B18 => (((8 : Int32) ≤ x18_4 → (((0 : Int32) ≤ x18_3 → NL_X0_share_111 B loss x18_3 x18_4 B18 ((x18_3.toInt - (0 : Int32).toInt).toNat + 1) (1 : Int32) x18_3 (0 : Int32) (0 : Int32) B18) ∧ (¬ ((0 : Int32) ≤ x18_3) → NL_X0_share_111 B loss x18_3 x18_4 B18 (((-x18_3).toInt - (0 : Int32).toInt).toNat + 1) (-1 : Int32) (-x18_3) (0 : Int32) (0 : Int32) B18))) ∧ (¬ ((8 : Int32) ≤ x18_4) → (((r_X4_has B18 x18_4) = (0 : Int32) → (((0 : Int32) ≤ x18_3 → NL_X0_share_111 B loss x18_3 x18_4 B18 ((x18_3.toInt - (0 : Int32).toInt).toNat + 1) (1 : Int32) x18_3 (0 : Int32) (0 : Int32) B18) ∧ (¬ ((0 : Int32) ≤ x18_3) → NL_X0_share_111 B loss x18_3 x18_4 B18 (((-x18_3).toInt - (0 : Int32).toInt).toNat + 1) (-1 : Int32) (-x18_3) (0 : Int32) (0 : Int32) B18))) ∧ (¬ ((r_X4_has B18 x18_4) = (0 : Int32)) → (vf_n32 (FP.fmul (FP.i2f loss) (FP.i2f (B18 0 x18_4.toNatClampNeg))) ∧ (vf_n32 (FP.fdiv (FP.fmul (FP.i2f loss) (FP.i2f (B18 0 x18_4.toNatClampNeg))) (FP.i2f (r_X4_allWeights B))) ∧ NL_X0_share_18 B loss n18 (x18_3 - (FP.f2i (FP.fdiv (FP.fmul (FP.i2f loss) (FP.i2f (B18 0 x18_4.toNatClampNeg))) (FP.i2f (r_X4_allWeights B))))) (x18_4 + (1 : Int32)) (z_X0_share_0 B loss x18_4 B18)))))))
def r_X0_share (B : jB) (loss : Int32) : jB := (if (0 : Int32) < (r_X4_allWeights B) then L_X0_share_18 B loss 9 loss (0 : Int32) B else B)
def n_X0_share (B : jB) (loss : Int32) : Prop := (((0 : Int32) < (r_X4_allWeights B) → NL_X0_share_18 B loss 9 loss (0 : Int32) B) ∧ (¬ ((0 : Int32) < (r_X4_allWeights B)) → True))
set_option maxRecDepth 100000 in
set_option maxHeartbeats 4000000 in
theorem c_X0_share (l : Launch) (D : va_G) (ca : Nat → ClassId) (g : Nat → Nat) (B : jB) (loss : Int32) (hq : n_X0_share B loss) : jM l D ca yX0_share cX0_share 8 (none : Option FieldType) 2 43 0 0 [.ref (g 0), .int loss] (bkW ca g B) (jD none (bkW ca g (r_X0_share B loss))) := by
  refine jM_of [(0, .ref (g 0)), (1, .int loss)] (by decide) (Nat.le_of_ble_eq_true rfl) rfl (fun X C E => ?_)
  rw [n_X0_share] at hq
  refine j_aload_n C dX0_share_0 rfl ?_
  refine j_get C f_X0_12.F 0 dX0_share_1 bkW_0 rfl ?_
  refine j_callViR C g_X0_139 (c_X4_allWeights l D ca g B) 1 bkW_1 hcl_X4 ⟨Nat.le_of_ble_eq_true rfl, Nat.le_of_ble_eq_true rfl⟩ ⟨Nat.le_of_ble_eq_true rfl, Nat.le_of_ble_eq_true rfl⟩ [1, 6, 7, 8, 9] pl_bk_mb rfl rfl rfl (Nat.le_of_ble_eq_true rfl) dX0_share_4 ?_
  refine j_istore_n C [(2, _), (0, _), (1, _)] dX0_share_7 (by decide) rfl ?_
  refine j_iload_n C dX0_share_8 rfl ?_
  refine j_if_gt (tgt := 13) C dX0_share_9 (by decide) (fun (h9 : (0 : Int32) < (r_X4_allWeights B)) => ?_) (fun (h9 : ¬ ((0 : Int32) < (r_X4_allWeights B))) => ?_)
  · have hq := hq.1 h9
    refine j_iload_n C dX0_share_13 rfl ?_
    refine j_istore_n C [(3, _), (2, _), (0, _), (1, _)] dX0_share_14 (by decide) rfl ?_
    refine j_iconst C dX0_share_15 (0 : Int32) (by decide) ?_
    refine j_istore C [(4, _), (3, _), (2, _), (0, _), (1, _)] dX0_share_16 (by decide) rfl ?_
    have K18 : ∀ (n18 : Nat) (x18_3 : Int32) (x18_4 : Int32) (B18 : jB), ((8 : Int32).toInt - x18_4.toInt).toNat < n18 → NL_X0_share_18 B loss n18 x18_3 x18_4 B18 → r_X0_share B loss = L_X0_share_18 B loss n18 x18_3 x18_4 B18 → J l { frames := 2, cells := 0, slots := 0, locals := 43 } D 8 X 0 0 (bkW ca g B18) [(0, .ref (g 0)), (1, .int loss), (2, .int (r_X4_allWeights B)), (3, .int x18_3), (4, .int x18_4)] [] 18 := by
      intro n18
      induction n18 with
      | zero =>
        intro x18_3 x18_4 B18 hm18
        exact absurd hm18 (Nat.not_lt_zero _)
      | succ n18 ih18 =>
        intro x18_3 x18_4 B18 hm18 hq hr18
        rw [NL_X0_share_18] at hq
        refine j_iload C dX0_share_18 rfl ?_
        refine j_bipush C dX0_share_20 (8 : Int32) (by decide) ?_
        refine j_icmp_ge (tgt := 82) C dX0_share_22 (by decide) (fun (h22 : (8 : Int32) ≤ x18_4) => ?_) (fun (h22 : ¬ ((8 : Int32) ≤ x18_4)) => ?_)
        · have hq := hq.1 h22
          refine j_iload_n C dX0_share_82 rfl ?_
          refine j_if_ge (tgt := 90) C dX0_share_83 (by decide) (fun (h83 : (0 : Int32) ≤ x18_3) => ?_) (fun (h83 : ¬ ((0 : Int32) ≤ x18_3)) => ?_)
          · have hq := hq.1 h83
            refine j_iconst C dX0_share_90 (1 : Int32) (by decide) ?_
            refine j_istore C [(4, _), (0, _), (1, _), (2, _), (3, _)] dX0_share_91 (by decide) rfl ?_
            refine j_iload_n C dX0_share_93 rfl ?_
            refine j_if_ge (tgt := 102) C dX0_share_94 (by decide) (fun _ => ?_) (fun h => absurd h83 h)
            refine j_iload_n C dX0_share_102 rfl ?_
            refine j_istore C [(5, _), (4, _), (0, _), (1, _), (2, _), (3, _)] dX0_share_103 (by decide) rfl ?_
            refine j_iconst C dX0_share_105 (0 : Int32) (by decide) ?_
            refine j_istore C [(6, _), (5, _), (4, _), (0, _), (1, _), (2, _), (3, _)] dX0_share_106 (by decide) rfl ?_
            refine j_iconst C dX0_share_108 (0 : Int32) (by decide) ?_
            refine j_istore C [(7, _), (6, _), (5, _), (4, _), (0, _), (1, _), (2, _), (3, _)] dX0_share_109 (by decide) rfl ?_
            have K111 : ∀ (n111 : Nat) (x111_4 : Int32) (x111_5 : Int32) (x111_6 : Int32) (x111_7 : Int32) (B111 : jB), (x111_5.toInt - x111_7.toInt).toNat < n111 → NL_X0_share_111 B loss x18_3 x18_4 B18 n111 x111_4 x111_5 x111_6 x111_7 B111 → r_X0_share B loss = L_X0_share_111 B loss x18_3 x18_4 B18 n111 x111_4 x111_5 x111_6 x111_7 B111 → J l { frames := 2, cells := 0, slots := 0, locals := 43 } D 8 X 0 0 (bkW ca g B111) [(0, .ref (g 0)), (1, .int loss), (2, .int (r_X4_allWeights B)), (3, .int x18_3), (4, .int x111_4), (5, .int x111_5), (6, .int x111_6), (7, .int x111_7)] [] 111 := by
              intro n111
              induction n111 with
              | zero =>
                intro x111_4 x111_5 x111_6 x111_7 B111 hm111
                exact absurd hm111 (Nat.not_lt_zero _)
              | succ n111 ih111 =>
                intro x111_4 x111_5 x111_6 x111_7 B111 hm111 hq hr111
                rw [NL_X0_share_111] at hq
                refine j_iload C dX0_share_111 rfl ?_
                refine j_iload C dX0_share_113 rfl ?_
                refine j_icmp_ge (tgt := 159) C dX0_share_115 (by decide) (fun (h115 : x111_5 ≤ x111_7) => ?_) (fun (h115 : ¬ (x111_5 ≤ x111_7)) => ?_)
                · have hq := hq.1 h115
                  refine j_aload_n C dX0_share_159 rfl ?_
                  refine j_dup C dX0_share_160 rfl ?_
                  refine j_get C f_X0_95.F 0 dX0_share_161 bkW_0 rfl ?_
                  refine j_iload_n C dX0_share_164 rfl ?_
                  refine j_iadd C dX0_share_165 ?_
                  refine j_put C f_X0_95 0 dX0_share_166 bkW_0 (Nat.le_of_ble_eq_true rfl) rfl rfl ?_
                  refine j_ws (ws' := (bkW ca g (up2 B111 16 3 ((B111 16 3) + loss)))) fo_bk_0_6 ?_
                  refine j_aload_n C dX0_share_169 rfl ?_
                  refine j_dup C dX0_share_170 rfl ?_
                  refine j_get C f_X0_149.F 0 dX0_share_171 bkW_0 rfl ?_
                  refine j_sti rd_26 ?_
                  refine j_iload_n C dX0_share_174 rfl ?_
                  refine j_iadd C dX0_share_175 ?_
                  refine j_put C f_X0_149 0 dX0_share_176 bkW_0 (Nat.le_of_ble_eq_true rfl) rfl rfl ?_
                  refine j_ws (ws' := (bkW ca g (up2 (up2 B111 16 3 ((B111 16 3) + loss)) 16 7 ((B111 16 7) + loss)))) fo_bk_0_10 ?_
                  have e9 : r_X0_share B loss = (up2 (up2 B111 16 3 ((B111 16 3) + loss)) 16 7 ((B111 16 7) + loss)) := by rw [hr111, L_X0_share_111, if_pos h115]
                  exact j_vret E dX0_share_179 (by rw [e9]; exact ⟨rfl, rfl⟩)
                · have hq := hq.2 h115
                  refine j_aload_n C dX0_share_118 rfl ?_
                  refine j_get C f_X0_12.F 0 dX0_share_119 bkW_0 rfl ?_
                  refine j_iload C dX0_share_122 rfl ?_
                  refine j_iload C dX0_share_124 rfl ?_
                  refine j_callVv C g_X0_146 (c_X4_bear l D ca g B111 x111_6 x111_4) 1 bkW_1 hcl_X4 ⟨Nat.le_of_ble_eq_true rfl, Nat.le_of_ble_eq_true rfl⟩ ⟨Nat.le_of_ble_eq_true rfl, Nat.le_of_ble_eq_true rfl⟩ [1, 6, 7, 8, 9] pl_bk_mb rfl rfl rfl (Nat.le_of_ble_eq_true rfl) dX0_share_126 fst_mb ?_
                  refine j_ws (ws' := (bkW ca g (r_X4_bear B111 x111_6 x111_4))) fs_bk_X4_bear ?_
                  refine j_aload_n C dX0_share_129 rfl ?_
                  refine j_get C f_X0_12.F 0 dX0_share_130 bkW_0 rfl ?_
                  refine j_iload C dX0_share_133 rfl ?_
                  refine j_iconst C dX0_share_135 (1 : Int32) (by decide) ?_
                  refine j_iadd C dX0_share_136 ?_
                  refine j_callViR C g_X0_142 (c_X4_has l D ca g (r_X4_bear B111 x111_6 x111_4) (x111_6 + (1 : Int32))) 1 bkW_1 hcl_X4 ⟨Nat.le_of_ble_eq_true rfl, Nat.le_of_ble_eq_true rfl⟩ ⟨Nat.le_of_ble_eq_true rfl, Nat.le_of_ble_eq_true rfl⟩ [1, 6, 7, 8, 9] pl_bk_mb rfl rfl rfl (Nat.le_of_ble_eq_true rfl) dX0_share_137 ?_
                  refine j_if_eq (tgt := 150) C dX0_share_140 (by decide) (fun (h140 : (r_X4_has (r_X4_bear B111 x111_6 x111_4) (x111_6 + (1 : Int32))) = (0 : Int32)) => ?_) (fun (h140 : ¬ ((r_X4_has (r_X4_bear B111 x111_6 x111_4) (x111_6 + (1 : Int32))) = (0 : Int32))) => ?_)
                  · have hq := hq.1 h140
                    refine j_iconst C dX0_share_150 (0 : Int32) (by decide) ?_
                    refine j_istore C [(6, _), (0, _), (1, _), (2, _), (3, _), (4, _), (5, _), (7, _)] dX0_share_151 (by decide) rfl ?_
                    refine j_iinc C [(7, _), (6, _), (0, _), (1, _), (2, _), (3, _), (4, _), (5, _)] (v := (x111_7 + (1 : Int32))) dX0_share_153 rfl (iinc_1 _) (by decide) rfl ?_
                    refine j_goto (tgt := 111) C dX0_share_156 (by decide) ?_
                    refine j_lv [(0, .ref (g 0)), (1, .int loss), (2, .int (r_X4_allWeights B)), (3, .int x18_3), (4, .int x111_4), (5, .int x111_5), (6, .int (0 : Int32)), (7, .int (x111_7 + (1 : Int32)))] rfl ?_
                    exact ih111 x111_4 x111_5 (0 : Int32) (x111_7 + (1 : Int32)) (r_X4_bear B111 x111_6 x111_4) (jms h115 hm111) hq (by rw [hr111, L_X0_share_111, if_neg h115, if_pos h140])
                  · have hq := hq.2 h140
                    refine j_iload C dX0_share_143 rfl ?_
                    refine j_iconst C dX0_share_145 (1 : Int32) (by decide) ?_
                    refine j_iadd C dX0_share_146 ?_
                    refine j_goto (tgt := 151) C dX0_share_147 (by decide) ?_
                    refine j_istore C [(6, _), (0, _), (1, _), (2, _), (3, _), (4, _), (5, _), (7, _)] dX0_share_151 (by decide) rfl ?_
                    refine j_iinc C [(7, _), (6, _), (0, _), (1, _), (2, _), (3, _), (4, _), (5, _)] (v := (x111_7 + (1 : Int32))) dX0_share_153 rfl (iinc_1 _) (by decide) rfl ?_
                    refine j_goto (tgt := 111) C dX0_share_156 (by decide) ?_
                    refine j_lv [(0, .ref (g 0)), (1, .int loss), (2, .int (r_X4_allWeights B)), (3, .int x18_3), (4, .int x111_4), (5, .int x111_5), (6, .int (x111_6 + (1 : Int32))), (7, .int (x111_7 + (1 : Int32)))] rfl ?_
                    exact ih111 x111_4 x111_5 (x111_6 + (1 : Int32)) (x111_7 + (1 : Int32)) (r_X4_bear B111 x111_6 x111_4) (jms h115 hm111) hq (by rw [hr111, L_X0_share_111, if_neg h115, if_neg h140])
            refine j_lv [(0, .ref (g 0)), (1, .int loss), (2, .int (r_X4_allWeights B)), (3, .int x18_3), (4, .int (1 : Int32)), (5, .int x18_3), (6, .int (0 : Int32)), (7, .int (0 : Int32))] rfl ?_
            exact K111 ((x18_3.toInt - (0 : Int32).toInt).toNat + 1) (1 : Int32) x18_3 (0 : Int32) (0 : Int32) B18 (Nat.lt_succ_self _) hq (by rw [hr18, L_X0_share_18, if_pos h22, if_pos h83])
          · have hq := hq.2 h83
            refine j_iconst C dX0_share_86 (-1 : Int32) (by decide) ?_
            refine j_goto (tgt := 91) C dX0_share_87 (by decide) ?_
            refine j_istore C [(4, _), (0, _), (1, _), (2, _), (3, _)] dX0_share_91 (by decide) rfl ?_
            refine j_iload_n C dX0_share_93 rfl ?_
            refine j_if_ge (tgt := 102) C dX0_share_94 (by decide) (fun h => absurd h h83) (fun _ => ?_)
            refine j_iload_n C dX0_share_97 rfl ?_
            refine j_ineg C dX0_share_98 ?_
            refine j_goto (tgt := 103) C dX0_share_99 (by decide) ?_
            refine j_istore C [(5, _), (4, _), (0, _), (1, _), (2, _), (3, _)] dX0_share_103 (by decide) rfl ?_
            refine j_iconst C dX0_share_105 (0 : Int32) (by decide) ?_
            refine j_istore C [(6, _), (5, _), (4, _), (0, _), (1, _), (2, _), (3, _)] dX0_share_106 (by decide) rfl ?_
            refine j_iconst C dX0_share_108 (0 : Int32) (by decide) ?_
            refine j_istore C [(7, _), (6, _), (5, _), (4, _), (0, _), (1, _), (2, _), (3, _)] dX0_share_109 (by decide) rfl ?_
            have K111 : ∀ (n111 : Nat) (x111_4 : Int32) (x111_5 : Int32) (x111_6 : Int32) (x111_7 : Int32) (B111 : jB), (x111_5.toInt - x111_7.toInt).toNat < n111 → NL_X0_share_111 B loss x18_3 x18_4 B18 n111 x111_4 x111_5 x111_6 x111_7 B111 → r_X0_share B loss = L_X0_share_111 B loss x18_3 x18_4 B18 n111 x111_4 x111_5 x111_6 x111_7 B111 → J l { frames := 2, cells := 0, slots := 0, locals := 43 } D 8 X 0 0 (bkW ca g B111) [(0, .ref (g 0)), (1, .int loss), (2, .int (r_X4_allWeights B)), (3, .int x18_3), (4, .int x111_4), (5, .int x111_5), (6, .int x111_6), (7, .int x111_7)] [] 111 := by
              intro n111
              induction n111 with
              | zero =>
                intro x111_4 x111_5 x111_6 x111_7 B111 hm111
                exact absurd hm111 (Nat.not_lt_zero _)
              | succ n111 ih111 =>
                intro x111_4 x111_5 x111_6 x111_7 B111 hm111 hq hr111
                rw [NL_X0_share_111] at hq
                refine j_iload C dX0_share_111 rfl ?_
                refine j_iload C dX0_share_113 rfl ?_
                refine j_icmp_ge (tgt := 159) C dX0_share_115 (by decide) (fun (h115 : x111_5 ≤ x111_7) => ?_) (fun (h115 : ¬ (x111_5 ≤ x111_7)) => ?_)
                · have hq := hq.1 h115
                  refine j_aload_n C dX0_share_159 rfl ?_
                  refine j_dup C dX0_share_160 rfl ?_
                  refine j_get C f_X0_95.F 0 dX0_share_161 bkW_0 rfl ?_
                  refine j_iload_n C dX0_share_164 rfl ?_
                  refine j_iadd C dX0_share_165 ?_
                  refine j_put C f_X0_95 0 dX0_share_166 bkW_0 (Nat.le_of_ble_eq_true rfl) rfl rfl ?_
                  refine j_ws (ws' := (bkW ca g (up2 B111 16 3 ((B111 16 3) + loss)))) fo_bk_0_6 ?_
                  refine j_aload_n C dX0_share_169 rfl ?_
                  refine j_dup C dX0_share_170 rfl ?_
                  refine j_get C f_X0_149.F 0 dX0_share_171 bkW_0 rfl ?_
                  refine j_sti rd_26 ?_
                  refine j_iload_n C dX0_share_174 rfl ?_
                  refine j_iadd C dX0_share_175 ?_
                  refine j_put C f_X0_149 0 dX0_share_176 bkW_0 (Nat.le_of_ble_eq_true rfl) rfl rfl ?_
                  refine j_ws (ws' := (bkW ca g (up2 (up2 B111 16 3 ((B111 16 3) + loss)) 16 7 ((B111 16 7) + loss)))) fo_bk_0_10 ?_
                  have e9 : r_X0_share B loss = (up2 (up2 B111 16 3 ((B111 16 3) + loss)) 16 7 ((B111 16 7) + loss)) := by rw [hr111, L_X0_share_111, if_pos h115]
                  exact j_vret E dX0_share_179 (by rw [e9]; exact ⟨rfl, rfl⟩)
                · have hq := hq.2 h115
                  refine j_aload_n C dX0_share_118 rfl ?_
                  refine j_get C f_X0_12.F 0 dX0_share_119 bkW_0 rfl ?_
                  refine j_iload C dX0_share_122 rfl ?_
                  refine j_iload C dX0_share_124 rfl ?_
                  refine j_callVv C g_X0_146 (c_X4_bear l D ca g B111 x111_6 x111_4) 1 bkW_1 hcl_X4 ⟨Nat.le_of_ble_eq_true rfl, Nat.le_of_ble_eq_true rfl⟩ ⟨Nat.le_of_ble_eq_true rfl, Nat.le_of_ble_eq_true rfl⟩ [1, 6, 7, 8, 9] pl_bk_mb rfl rfl rfl (Nat.le_of_ble_eq_true rfl) dX0_share_126 fst_mb ?_
                  refine j_ws (ws' := (bkW ca g (r_X4_bear B111 x111_6 x111_4))) fs_bk_X4_bear ?_
                  refine j_aload_n C dX0_share_129 rfl ?_
                  refine j_get C f_X0_12.F 0 dX0_share_130 bkW_0 rfl ?_
                  refine j_iload C dX0_share_133 rfl ?_
                  refine j_iconst C dX0_share_135 (1 : Int32) (by decide) ?_
                  refine j_iadd C dX0_share_136 ?_
                  refine j_callViR C g_X0_142 (c_X4_has l D ca g (r_X4_bear B111 x111_6 x111_4) (x111_6 + (1 : Int32))) 1 bkW_1 hcl_X4 ⟨Nat.le_of_ble_eq_true rfl, Nat.le_of_ble_eq_true rfl⟩ ⟨Nat.le_of_ble_eq_true rfl, Nat.le_of_ble_eq_true rfl⟩ [1, 6, 7, 8, 9] pl_bk_mb rfl rfl rfl (Nat.le_of_ble_eq_true rfl) dX0_share_137 ?_
                  refine j_if_eq (tgt := 150) C dX0_share_140 (by decide) (fun (h140 : (r_X4_has (r_X4_bear B111 x111_6 x111_4) (x111_6 + (1 : Int32))) = (0 : Int32)) => ?_) (fun (h140 : ¬ ((r_X4_has (r_X4_bear B111 x111_6 x111_4) (x111_6 + (1 : Int32))) = (0 : Int32))) => ?_)
                  · have hq := hq.1 h140
                    refine j_iconst C dX0_share_150 (0 : Int32) (by decide) ?_
                    refine j_istore C [(6, _), (0, _), (1, _), (2, _), (3, _), (4, _), (5, _), (7, _)] dX0_share_151 (by decide) rfl ?_
                    refine j_iinc C [(7, _), (6, _), (0, _), (1, _), (2, _), (3, _), (4, _), (5, _)] (v := (x111_7 + (1 : Int32))) dX0_share_153 rfl (iinc_1 _) (by decide) rfl ?_
                    refine j_goto (tgt := 111) C dX0_share_156 (by decide) ?_
                    refine j_lv [(0, .ref (g 0)), (1, .int loss), (2, .int (r_X4_allWeights B)), (3, .int x18_3), (4, .int x111_4), (5, .int x111_5), (6, .int (0 : Int32)), (7, .int (x111_7 + (1 : Int32)))] rfl ?_
                    exact ih111 x111_4 x111_5 (0 : Int32) (x111_7 + (1 : Int32)) (r_X4_bear B111 x111_6 x111_4) (jms h115 hm111) hq (by rw [hr111, L_X0_share_111, if_neg h115, if_pos h140])
                  · have hq := hq.2 h140
                    refine j_iload C dX0_share_143 rfl ?_
                    refine j_iconst C dX0_share_145 (1 : Int32) (by decide) ?_
                    refine j_iadd C dX0_share_146 ?_
                    refine j_goto (tgt := 151) C dX0_share_147 (by decide) ?_
                    refine j_istore C [(6, _), (0, _), (1, _), (2, _), (3, _), (4, _), (5, _), (7, _)] dX0_share_151 (by decide) rfl ?_
                    refine j_iinc C [(7, _), (6, _), (0, _), (1, _), (2, _), (3, _), (4, _), (5, _)] (v := (x111_7 + (1 : Int32))) dX0_share_153 rfl (iinc_1 _) (by decide) rfl ?_
                    refine j_goto (tgt := 111) C dX0_share_156 (by decide) ?_
                    refine j_lv [(0, .ref (g 0)), (1, .int loss), (2, .int (r_X4_allWeights B)), (3, .int x18_3), (4, .int x111_4), (5, .int x111_5), (6, .int (x111_6 + (1 : Int32))), (7, .int (x111_7 + (1 : Int32)))] rfl ?_
                    exact ih111 x111_4 x111_5 (x111_6 + (1 : Int32)) (x111_7 + (1 : Int32)) (r_X4_bear B111 x111_6 x111_4) (jms h115 hm111) hq (by rw [hr111, L_X0_share_111, if_neg h115, if_neg h140])
            refine j_lv [(0, .ref (g 0)), (1, .int loss), (2, .int (r_X4_allWeights B)), (3, .int x18_3), (4, .int (-1 : Int32)), (5, .int (-x18_3)), (6, .int (0 : Int32)), (7, .int (0 : Int32))] rfl ?_
            exact K111 (((-x18_3).toInt - (0 : Int32).toInt).toNat + 1) (-1 : Int32) (-x18_3) (0 : Int32) (0 : Int32) B18 (Nat.lt_succ_self _) hq (by rw [hr18, L_X0_share_18, if_pos h22, if_neg h83])
        · have hq := hq.2 h22
          refine j_aload_n C dX0_share_25 rfl ?_
          refine j_get C f_X0_12.F 0 dX0_share_26 bkW_0 rfl ?_
          refine j_iload C dX0_share_29 rfl ?_
          refine j_callViR C g_X0_142 (c_X4_has l D ca g B18 x18_4) 1 bkW_1 hcl_X4 ⟨Nat.le_of_ble_eq_true rfl, Nat.le_of_ble_eq_true rfl⟩ ⟨Nat.le_of_ble_eq_true rfl, Nat.le_of_ble_eq_true rfl⟩ [1, 6, 7, 8, 9] pl_bk_mb rfl rfl rfl (Nat.le_of_ble_eq_true rfl) dX0_share_31 ?_
          refine j_if_ne (tgt := 40) C dX0_share_34 (by decide) (fun (h34 : ¬ ((r_X4_has B18 x18_4) = (0 : Int32))) => ?_) (fun (h34 : (r_X4_has B18 x18_4) = (0 : Int32)) => ?_)
          · have hq := hq.2 h34
            refine j_iload_n C dX0_share_40 rfl ?_
            refine j_i2f C dX0_share_41 ?_
            refine j_aload_n C dX0_share_42 rfl ?_
            refine j_get C f_X0_12.F 0 dX0_share_43 bkW_0 rfl ?_
            refine j_get C f_X0_143.F 1 dX0_share_46 bkW_1 rfl ?_
            refine j_iload C dX0_share_49 rfl ?_
            refine j_iald C 6 dX0_share_51 bkW_6 (has_X4 h34) ?_
            refine j_i2f C dX0_share_52 ?_
            obtain ⟨hv, hq⟩ := hq
            refine j_fmul C dX0_share_53 hv ?_
            refine j_iload_n C dX0_share_54 rfl ?_
            refine j_i2f C dX0_share_55 ?_
            obtain ⟨hv, hq⟩ := hq
            refine j_fdiv C dX0_share_56 hv ?_
            refine j_f2i C dX0_share_57 ?_
            refine j_istore C [(5, _), (0, _), (1, _), (2, _), (3, _), (4, _)] dX0_share_58 (by decide) rfl ?_
            refine j_aload_n C dX0_share_60 rfl ?_
            refine j_get C f_X0_12.F 0 dX0_share_61 bkW_0 rfl ?_
            refine j_iload C dX0_share_64 rfl ?_
            refine j_iload C dX0_share_66 rfl ?_
            refine j_callVv C g_X0_146 (c_X4_bear l D ca g B18 x18_4 (FP.f2i (FP.fdiv (FP.fmul (FP.i2f loss) (FP.i2f (B18 0 x18_4.toNatClampNeg))) (FP.i2f (r_X4_allWeights B))))) 1 bkW_1 hcl_X4 ⟨Nat.le_of_ble_eq_true rfl, Nat.le_of_ble_eq_true rfl⟩ ⟨Nat.le_of_ble_eq_true rfl, Nat.le_of_ble_eq_true rfl⟩ [1, 6, 7, 8, 9] pl_bk_mb rfl rfl rfl (Nat.le_of_ble_eq_true rfl) dX0_share_68 fst_mb ?_
            refine j_ws (ws' := (bkW ca g (z_X0_share_0 B loss x18_4 B18))) fs_bk_X4_bear ?_
            refine j_iload_n C dX0_share_71 rfl ?_
            refine j_iload C dX0_share_72 rfl ?_
            refine j_isub C dX0_share_74 ?_
            refine j_istore_n C [(3, _), (5, _), (0, _), (1, _), (2, _), (4, _)] dX0_share_75 (by decide) rfl ?_
            refine j_iinc C [(4, _), (3, _), (5, _), (0, _), (1, _), (2, _)] (v := (x18_4 + (1 : Int32))) dX0_share_76 rfl (iinc_1 _) (by decide) rfl ?_
            refine j_goto (tgt := 18) C dX0_share_79 (by decide) ?_
            refine j_lv [(0, .ref (g 0)), (1, .int loss), (2, .int (r_X4_allWeights B)), (3, .int (x18_3 - (FP.f2i (FP.fdiv (FP.fmul (FP.i2f loss) (FP.i2f (B18 0 x18_4.toNatClampNeg))) (FP.i2f (r_X4_allWeights B)))))), (4, .int (x18_4 + (1 : Int32)))] rfl ?_
            exact ih18 (x18_3 - (FP.f2i (FP.fdiv (FP.fmul (FP.i2f loss) (FP.i2f (B18 0 x18_4.toNatClampNeg))) (FP.i2f (r_X4_allWeights B))))) (x18_4 + (1 : Int32)) (z_X0_share_0 B loss x18_4 B18) (jms h22 hm18) hq (by rw [hr18, L_X0_share_18, if_neg h22, if_neg h34])
          · have hq := hq.1 h34
            refine j_goto (tgt := 82) C dX0_share_37 (by decide) ?_
            refine j_iload_n C dX0_share_82 rfl ?_
            refine j_if_ge (tgt := 90) C dX0_share_83 (by decide) (fun (h83 : (0 : Int32) ≤ x18_3) => ?_) (fun (h83 : ¬ ((0 : Int32) ≤ x18_3)) => ?_)
            · have hq := hq.1 h83
              refine j_iconst C dX0_share_90 (1 : Int32) (by decide) ?_
              refine j_istore C [(4, _), (0, _), (1, _), (2, _), (3, _)] dX0_share_91 (by decide) rfl ?_
              refine j_iload_n C dX0_share_93 rfl ?_
              refine j_if_ge (tgt := 102) C dX0_share_94 (by decide) (fun _ => ?_) (fun h => absurd h83 h)
              refine j_iload_n C dX0_share_102 rfl ?_
              refine j_istore C [(5, _), (4, _), (0, _), (1, _), (2, _), (3, _)] dX0_share_103 (by decide) rfl ?_
              refine j_iconst C dX0_share_105 (0 : Int32) (by decide) ?_
              refine j_istore C [(6, _), (5, _), (4, _), (0, _), (1, _), (2, _), (3, _)] dX0_share_106 (by decide) rfl ?_
              refine j_iconst C dX0_share_108 (0 : Int32) (by decide) ?_
              refine j_istore C [(7, _), (6, _), (5, _), (4, _), (0, _), (1, _), (2, _), (3, _)] dX0_share_109 (by decide) rfl ?_
              have K111 : ∀ (n111 : Nat) (x111_4 : Int32) (x111_5 : Int32) (x111_6 : Int32) (x111_7 : Int32) (B111 : jB), (x111_5.toInt - x111_7.toInt).toNat < n111 → NL_X0_share_111 B loss x18_3 x18_4 B18 n111 x111_4 x111_5 x111_6 x111_7 B111 → r_X0_share B loss = L_X0_share_111 B loss x18_3 x18_4 B18 n111 x111_4 x111_5 x111_6 x111_7 B111 → J l { frames := 2, cells := 0, slots := 0, locals := 43 } D 8 X 0 0 (bkW ca g B111) [(0, .ref (g 0)), (1, .int loss), (2, .int (r_X4_allWeights B)), (3, .int x18_3), (4, .int x111_4), (5, .int x111_5), (6, .int x111_6), (7, .int x111_7)] [] 111 := by
                intro n111
                induction n111 with
                | zero =>
                  intro x111_4 x111_5 x111_6 x111_7 B111 hm111
                  exact absurd hm111 (Nat.not_lt_zero _)
                | succ n111 ih111 =>
                  intro x111_4 x111_5 x111_6 x111_7 B111 hm111 hq hr111
                  rw [NL_X0_share_111] at hq
                  refine j_iload C dX0_share_111 rfl ?_
                  refine j_iload C dX0_share_113 rfl ?_
                  refine j_icmp_ge (tgt := 159) C dX0_share_115 (by decide) (fun (h115 : x111_5 ≤ x111_7) => ?_) (fun (h115 : ¬ (x111_5 ≤ x111_7)) => ?_)
                  · have hq := hq.1 h115
                    refine j_aload_n C dX0_share_159 rfl ?_
                    refine j_dup C dX0_share_160 rfl ?_
                    refine j_get C f_X0_95.F 0 dX0_share_161 bkW_0 rfl ?_
                    refine j_iload_n C dX0_share_164 rfl ?_
                    refine j_iadd C dX0_share_165 ?_
                    refine j_put C f_X0_95 0 dX0_share_166 bkW_0 (Nat.le_of_ble_eq_true rfl) rfl rfl ?_
                    refine j_ws (ws' := (bkW ca g (up2 B111 16 3 ((B111 16 3) + loss)))) fo_bk_0_6 ?_
                    refine j_aload_n C dX0_share_169 rfl ?_
                    refine j_dup C dX0_share_170 rfl ?_
                    refine j_get C f_X0_149.F 0 dX0_share_171 bkW_0 rfl ?_
                    refine j_sti rd_26 ?_
                    refine j_iload_n C dX0_share_174 rfl ?_
                    refine j_iadd C dX0_share_175 ?_
                    refine j_put C f_X0_149 0 dX0_share_176 bkW_0 (Nat.le_of_ble_eq_true rfl) rfl rfl ?_
                    refine j_ws (ws' := (bkW ca g (up2 (up2 B111 16 3 ((B111 16 3) + loss)) 16 7 ((B111 16 7) + loss)))) fo_bk_0_10 ?_
                    have e9 : r_X0_share B loss = (up2 (up2 B111 16 3 ((B111 16 3) + loss)) 16 7 ((B111 16 7) + loss)) := by rw [hr111, L_X0_share_111, if_pos h115]
                    exact j_vret E dX0_share_179 (by rw [e9]; exact ⟨rfl, rfl⟩)
                  · have hq := hq.2 h115
                    refine j_aload_n C dX0_share_118 rfl ?_
                    refine j_get C f_X0_12.F 0 dX0_share_119 bkW_0 rfl ?_
                    refine j_iload C dX0_share_122 rfl ?_
                    refine j_iload C dX0_share_124 rfl ?_
                    refine j_callVv C g_X0_146 (c_X4_bear l D ca g B111 x111_6 x111_4) 1 bkW_1 hcl_X4 ⟨Nat.le_of_ble_eq_true rfl, Nat.le_of_ble_eq_true rfl⟩ ⟨Nat.le_of_ble_eq_true rfl, Nat.le_of_ble_eq_true rfl⟩ [1, 6, 7, 8, 9] pl_bk_mb rfl rfl rfl (Nat.le_of_ble_eq_true rfl) dX0_share_126 fst_mb ?_
                    refine j_ws (ws' := (bkW ca g (r_X4_bear B111 x111_6 x111_4))) fs_bk_X4_bear ?_
                    refine j_aload_n C dX0_share_129 rfl ?_
                    refine j_get C f_X0_12.F 0 dX0_share_130 bkW_0 rfl ?_
                    refine j_iload C dX0_share_133 rfl ?_
                    refine j_iconst C dX0_share_135 (1 : Int32) (by decide) ?_
                    refine j_iadd C dX0_share_136 ?_
                    refine j_callViR C g_X0_142 (c_X4_has l D ca g (r_X4_bear B111 x111_6 x111_4) (x111_6 + (1 : Int32))) 1 bkW_1 hcl_X4 ⟨Nat.le_of_ble_eq_true rfl, Nat.le_of_ble_eq_true rfl⟩ ⟨Nat.le_of_ble_eq_true rfl, Nat.le_of_ble_eq_true rfl⟩ [1, 6, 7, 8, 9] pl_bk_mb rfl rfl rfl (Nat.le_of_ble_eq_true rfl) dX0_share_137 ?_
                    refine j_if_eq (tgt := 150) C dX0_share_140 (by decide) (fun (h140 : (r_X4_has (r_X4_bear B111 x111_6 x111_4) (x111_6 + (1 : Int32))) = (0 : Int32)) => ?_) (fun (h140 : ¬ ((r_X4_has (r_X4_bear B111 x111_6 x111_4) (x111_6 + (1 : Int32))) = (0 : Int32))) => ?_)
                    · have hq := hq.1 h140
                      refine j_iconst C dX0_share_150 (0 : Int32) (by decide) ?_
                      refine j_istore C [(6, _), (0, _), (1, _), (2, _), (3, _), (4, _), (5, _), (7, _)] dX0_share_151 (by decide) rfl ?_
                      refine j_iinc C [(7, _), (6, _), (0, _), (1, _), (2, _), (3, _), (4, _), (5, _)] (v := (x111_7 + (1 : Int32))) dX0_share_153 rfl (iinc_1 _) (by decide) rfl ?_
                      refine j_goto (tgt := 111) C dX0_share_156 (by decide) ?_
                      refine j_lv [(0, .ref (g 0)), (1, .int loss), (2, .int (r_X4_allWeights B)), (3, .int x18_3), (4, .int x111_4), (5, .int x111_5), (6, .int (0 : Int32)), (7, .int (x111_7 + (1 : Int32)))] rfl ?_
                      exact ih111 x111_4 x111_5 (0 : Int32) (x111_7 + (1 : Int32)) (r_X4_bear B111 x111_6 x111_4) (jms h115 hm111) hq (by rw [hr111, L_X0_share_111, if_neg h115, if_pos h140])
                    · have hq := hq.2 h140
                      refine j_iload C dX0_share_143 rfl ?_
                      refine j_iconst C dX0_share_145 (1 : Int32) (by decide) ?_
                      refine j_iadd C dX0_share_146 ?_
                      refine j_goto (tgt := 151) C dX0_share_147 (by decide) ?_
                      refine j_istore C [(6, _), (0, _), (1, _), (2, _), (3, _), (4, _), (5, _), (7, _)] dX0_share_151 (by decide) rfl ?_
                      refine j_iinc C [(7, _), (6, _), (0, _), (1, _), (2, _), (3, _), (4, _), (5, _)] (v := (x111_7 + (1 : Int32))) dX0_share_153 rfl (iinc_1 _) (by decide) rfl ?_
                      refine j_goto (tgt := 111) C dX0_share_156 (by decide) ?_
                      refine j_lv [(0, .ref (g 0)), (1, .int loss), (2, .int (r_X4_allWeights B)), (3, .int x18_3), (4, .int x111_4), (5, .int x111_5), (6, .int (x111_6 + (1 : Int32))), (7, .int (x111_7 + (1 : Int32)))] rfl ?_
                      exact ih111 x111_4 x111_5 (x111_6 + (1 : Int32)) (x111_7 + (1 : Int32)) (r_X4_bear B111 x111_6 x111_4) (jms h115 hm111) hq (by rw [hr111, L_X0_share_111, if_neg h115, if_neg h140])
              refine j_lv [(0, .ref (g 0)), (1, .int loss), (2, .int (r_X4_allWeights B)), (3, .int x18_3), (4, .int (1 : Int32)), (5, .int x18_3), (6, .int (0 : Int32)), (7, .int (0 : Int32))] rfl ?_
              exact K111 ((x18_3.toInt - (0 : Int32).toInt).toNat + 1) (1 : Int32) x18_3 (0 : Int32) (0 : Int32) B18 (Nat.lt_succ_self _) hq (by rw [hr18, L_X0_share_18, if_neg h22, if_pos h34, if_pos h83])
            · have hq := hq.2 h83
              refine j_iconst C dX0_share_86 (-1 : Int32) (by decide) ?_
              refine j_goto (tgt := 91) C dX0_share_87 (by decide) ?_
              refine j_istore C [(4, _), (0, _), (1, _), (2, _), (3, _)] dX0_share_91 (by decide) rfl ?_
              refine j_iload_n C dX0_share_93 rfl ?_
              refine j_if_ge (tgt := 102) C dX0_share_94 (by decide) (fun h => absurd h h83) (fun _ => ?_)
              refine j_iload_n C dX0_share_97 rfl ?_
              refine j_ineg C dX0_share_98 ?_
              refine j_goto (tgt := 103) C dX0_share_99 (by decide) ?_
              refine j_istore C [(5, _), (4, _), (0, _), (1, _), (2, _), (3, _)] dX0_share_103 (by decide) rfl ?_
              refine j_iconst C dX0_share_105 (0 : Int32) (by decide) ?_
              refine j_istore C [(6, _), (5, _), (4, _), (0, _), (1, _), (2, _), (3, _)] dX0_share_106 (by decide) rfl ?_
              refine j_iconst C dX0_share_108 (0 : Int32) (by decide) ?_
              refine j_istore C [(7, _), (6, _), (5, _), (4, _), (0, _), (1, _), (2, _), (3, _)] dX0_share_109 (by decide) rfl ?_
              have K111 : ∀ (n111 : Nat) (x111_4 : Int32) (x111_5 : Int32) (x111_6 : Int32) (x111_7 : Int32) (B111 : jB), (x111_5.toInt - x111_7.toInt).toNat < n111 → NL_X0_share_111 B loss x18_3 x18_4 B18 n111 x111_4 x111_5 x111_6 x111_7 B111 → r_X0_share B loss = L_X0_share_111 B loss x18_3 x18_4 B18 n111 x111_4 x111_5 x111_6 x111_7 B111 → J l { frames := 2, cells := 0, slots := 0, locals := 43 } D 8 X 0 0 (bkW ca g B111) [(0, .ref (g 0)), (1, .int loss), (2, .int (r_X4_allWeights B)), (3, .int x18_3), (4, .int x111_4), (5, .int x111_5), (6, .int x111_6), (7, .int x111_7)] [] 111 := by
                intro n111
                induction n111 with
                | zero =>
                  intro x111_4 x111_5 x111_6 x111_7 B111 hm111
                  exact absurd hm111 (Nat.not_lt_zero _)
                | succ n111 ih111 =>
                  intro x111_4 x111_5 x111_6 x111_7 B111 hm111 hq hr111
                  rw [NL_X0_share_111] at hq
                  refine j_iload C dX0_share_111 rfl ?_
                  refine j_iload C dX0_share_113 rfl ?_
                  refine j_icmp_ge (tgt := 159) C dX0_share_115 (by decide) (fun (h115 : x111_5 ≤ x111_7) => ?_) (fun (h115 : ¬ (x111_5 ≤ x111_7)) => ?_)
                  · have hq := hq.1 h115
                    refine j_aload_n C dX0_share_159 rfl ?_
                    refine j_dup C dX0_share_160 rfl ?_
                    refine j_get C f_X0_95.F 0 dX0_share_161 bkW_0 rfl ?_
                    refine j_iload_n C dX0_share_164 rfl ?_
                    refine j_iadd C dX0_share_165 ?_
                    refine j_put C f_X0_95 0 dX0_share_166 bkW_0 (Nat.le_of_ble_eq_true rfl) rfl rfl ?_
                    refine j_ws (ws' := (bkW ca g (up2 B111 16 3 ((B111 16 3) + loss)))) fo_bk_0_6 ?_
                    refine j_aload_n C dX0_share_169 rfl ?_
                    refine j_dup C dX0_share_170 rfl ?_
                    refine j_get C f_X0_149.F 0 dX0_share_171 bkW_0 rfl ?_
                    refine j_sti rd_26 ?_
                    refine j_iload_n C dX0_share_174 rfl ?_
                    refine j_iadd C dX0_share_175 ?_
                    refine j_put C f_X0_149 0 dX0_share_176 bkW_0 (Nat.le_of_ble_eq_true rfl) rfl rfl ?_
                    refine j_ws (ws' := (bkW ca g (up2 (up2 B111 16 3 ((B111 16 3) + loss)) 16 7 ((B111 16 7) + loss)))) fo_bk_0_10 ?_
                    have e9 : r_X0_share B loss = (up2 (up2 B111 16 3 ((B111 16 3) + loss)) 16 7 ((B111 16 7) + loss)) := by rw [hr111, L_X0_share_111, if_pos h115]
                    exact j_vret E dX0_share_179 (by rw [e9]; exact ⟨rfl, rfl⟩)
                  · have hq := hq.2 h115
                    refine j_aload_n C dX0_share_118 rfl ?_
                    refine j_get C f_X0_12.F 0 dX0_share_119 bkW_0 rfl ?_
                    refine j_iload C dX0_share_122 rfl ?_
                    refine j_iload C dX0_share_124 rfl ?_
                    refine j_callVv C g_X0_146 (c_X4_bear l D ca g B111 x111_6 x111_4) 1 bkW_1 hcl_X4 ⟨Nat.le_of_ble_eq_true rfl, Nat.le_of_ble_eq_true rfl⟩ ⟨Nat.le_of_ble_eq_true rfl, Nat.le_of_ble_eq_true rfl⟩ [1, 6, 7, 8, 9] pl_bk_mb rfl rfl rfl (Nat.le_of_ble_eq_true rfl) dX0_share_126 fst_mb ?_
                    refine j_ws (ws' := (bkW ca g (r_X4_bear B111 x111_6 x111_4))) fs_bk_X4_bear ?_
                    refine j_aload_n C dX0_share_129 rfl ?_
                    refine j_get C f_X0_12.F 0 dX0_share_130 bkW_0 rfl ?_
                    refine j_iload C dX0_share_133 rfl ?_
                    refine j_iconst C dX0_share_135 (1 : Int32) (by decide) ?_
                    refine j_iadd C dX0_share_136 ?_
                    refine j_callViR C g_X0_142 (c_X4_has l D ca g (r_X4_bear B111 x111_6 x111_4) (x111_6 + (1 : Int32))) 1 bkW_1 hcl_X4 ⟨Nat.le_of_ble_eq_true rfl, Nat.le_of_ble_eq_true rfl⟩ ⟨Nat.le_of_ble_eq_true rfl, Nat.le_of_ble_eq_true rfl⟩ [1, 6, 7, 8, 9] pl_bk_mb rfl rfl rfl (Nat.le_of_ble_eq_true rfl) dX0_share_137 ?_
                    refine j_if_eq (tgt := 150) C dX0_share_140 (by decide) (fun (h140 : (r_X4_has (r_X4_bear B111 x111_6 x111_4) (x111_6 + (1 : Int32))) = (0 : Int32)) => ?_) (fun (h140 : ¬ ((r_X4_has (r_X4_bear B111 x111_6 x111_4) (x111_6 + (1 : Int32))) = (0 : Int32))) => ?_)
                    · have hq := hq.1 h140
                      refine j_iconst C dX0_share_150 (0 : Int32) (by decide) ?_
                      refine j_istore C [(6, _), (0, _), (1, _), (2, _), (3, _), (4, _), (5, _), (7, _)] dX0_share_151 (by decide) rfl ?_
                      refine j_iinc C [(7, _), (6, _), (0, _), (1, _), (2, _), (3, _), (4, _), (5, _)] (v := (x111_7 + (1 : Int32))) dX0_share_153 rfl (iinc_1 _) (by decide) rfl ?_
                      refine j_goto (tgt := 111) C dX0_share_156 (by decide) ?_
                      refine j_lv [(0, .ref (g 0)), (1, .int loss), (2, .int (r_X4_allWeights B)), (3, .int x18_3), (4, .int x111_4), (5, .int x111_5), (6, .int (0 : Int32)), (7, .int (x111_7 + (1 : Int32)))] rfl ?_
                      exact ih111 x111_4 x111_5 (0 : Int32) (x111_7 + (1 : Int32)) (r_X4_bear B111 x111_6 x111_4) (jms h115 hm111) hq (by rw [hr111, L_X0_share_111, if_neg h115, if_pos h140])
                    · have hq := hq.2 h140
                      refine j_iload C dX0_share_143 rfl ?_
                      refine j_iconst C dX0_share_145 (1 : Int32) (by decide) ?_
                      refine j_iadd C dX0_share_146 ?_
                      refine j_goto (tgt := 151) C dX0_share_147 (by decide) ?_
                      refine j_istore C [(6, _), (0, _), (1, _), (2, _), (3, _), (4, _), (5, _), (7, _)] dX0_share_151 (by decide) rfl ?_
                      refine j_iinc C [(7, _), (6, _), (0, _), (1, _), (2, _), (3, _), (4, _), (5, _)] (v := (x111_7 + (1 : Int32))) dX0_share_153 rfl (iinc_1 _) (by decide) rfl ?_
                      refine j_goto (tgt := 111) C dX0_share_156 (by decide) ?_
                      refine j_lv [(0, .ref (g 0)), (1, .int loss), (2, .int (r_X4_allWeights B)), (3, .int x18_3), (4, .int x111_4), (5, .int x111_5), (6, .int (x111_6 + (1 : Int32))), (7, .int (x111_7 + (1 : Int32)))] rfl ?_
                      exact ih111 x111_4 x111_5 (x111_6 + (1 : Int32)) (x111_7 + (1 : Int32)) (r_X4_bear B111 x111_6 x111_4) (jms h115 hm111) hq (by rw [hr111, L_X0_share_111, if_neg h115, if_neg h140])
              refine j_lv [(0, .ref (g 0)), (1, .int loss), (2, .int (r_X4_allWeights B)), (3, .int x18_3), (4, .int (-1 : Int32)), (5, .int (-x18_3)), (6, .int (0 : Int32)), (7, .int (0 : Int32))] rfl ?_
              exact K111 (((-x18_3).toInt - (0 : Int32).toInt).toNat + 1) (-1 : Int32) (-x18_3) (0 : Int32) (0 : Int32) B18 (Nat.lt_succ_self _) hq (by rw [hr18, L_X0_share_18, if_neg h22, if_pos h34, if_neg h83])
    refine j_lv [(0, .ref (g 0)), (1, .int loss), (2, .int (r_X4_allWeights B)), (3, .int loss), (4, .int (0 : Int32))] rfl ?_
    exact K18 9 loss (0 : Int32) B (by decide) hq (by rw [r_X0_share, if_pos h9])
  · have hq := hq.2 h9
    have e9 : r_X0_share B loss = B := by rw [r_X0_share, if_neg h9]
    exact j_vret E dX0_share_12 (by rw [e9]; exact ⟨rfl, rfl⟩)
set_option maxRecDepth 100000 in
set_option maxHeartbeats 4000000 in
theorem fs_bk_X1_addLost {ca : Nat → ClassId} {g : Nat → Nat} {B : jB}  {i : Int32} : jrep (bkW ca g B) [2, 10, 11, 12] (clW ca g (r_X1_addLost B i)) = bkW ca g (r_X1_addLost B i) := by
  unfold r_X1_addLost
  (repeat' split) <;> exact jrep_mg (by decide) rfl

def z_X0_lose_0 (B : jB) (i : Int32) : jB := (r_X1_addLost (up2 B 11 (i).toNatClampNeg (3 : Int32)) (B 8 i.toNatClampNeg))
def z_X0_lose_1 (B : jB) (i : Int32) : jB := (r_X0_share (z_X0_lose_0 B i) (((z_X0_lose_0 B i) 13 i.toNatClampNeg) - ((z_X0_lose_0 B i) 12 i.toNatClampNeg)))
def r_X0_lose (B : jB) (i : Int32) : Int32 × jB := (if (r_X3_has B i) = (0 : Int32) then ((-1 : Int32), B) else (if (B 11 i.toNatClampNeg) = (1 : Int32) then (if (0 : Int32) < (((z_X0_lose_0 B i) 13 i.toNatClampNeg) - ((z_X0_lose_0 B i) 12 i.toNatClampNeg)) then ((((z_X0_lose_0 B i) 13 i.toNatClampNeg) - ((z_X0_lose_0 B i) 12 i.toNatClampNeg)), (z_X0_lose_1 B i)) else ((0 : Int32), (z_X0_lose_0 B i))) else ((0 : Int32), (z_X0_lose_0 B i))))
def n_X0_lose (B : jB) (i : Int32) : Prop := (((r_X3_has B i) = (0 : Int32) → True) ∧ (¬ ((r_X3_has B i) = (0 : Int32)) → (((B 11 i.toNatClampNeg) = (1 : Int32) → (((0 : Int32) < (((z_X0_lose_0 B i) 13 i.toNatClampNeg) - ((z_X0_lose_0 B i) 12 i.toNatClampNeg)) → ((n_X0_share (z_X0_lose_0 B i) (((z_X0_lose_0 B i) 13 i.toNatClampNeg) - ((z_X0_lose_0 B i) 12 i.toNatClampNeg))) ∧ True)) ∧ (¬ ((0 : Int32) < (((z_X0_lose_0 B i) 13 i.toNatClampNeg) - ((z_X0_lose_0 B i) 12 i.toNatClampNeg))) → True))) ∧ (¬ ((B 11 i.toNatClampNeg) = (1 : Int32)) → True))))
set_option maxRecDepth 100000 in
set_option maxHeartbeats 4000000 in
theorem c_X0_lose (l : Launch) (D : va_G) (ca : Nat → ClassId) (g : Nat → Nat) (B : jB) (i : Int32) (hq : n_X0_lose B i) : jM l D ca yX0_lose cX0_lose 4 (some .int) 3 70 0 0 [.ref (g 0), .int i] (bkW ca g B) (jD (some (.int (r_X0_lose B i).1)) (bkW ca g ((r_X0_lose B i).2))) := by
  refine jM_of [(0, .ref (g 0)), (1, .int i)] (by decide) (Nat.le_of_ble_eq_true rfl) rfl (fun X C E => ?_)
  rw [n_X0_lose] at hq
  refine j_aload_n C dX0_lose_0 rfl ?_
  refine j_get C f_X0_28.F 0 dX0_lose_1 bkW_0 rfl ?_
  refine j_iload_n C dX0_lose_4 rfl ?_
  refine j_callViR C g_X0_49 (c_X3_has l D ca g B i) 3 bkW_3 hcl_X3 ⟨Nat.le_of_ble_eq_true rfl, Nat.le_of_ble_eq_true rfl⟩ ⟨Nat.le_of_ble_eq_true rfl, Nat.le_of_ble_eq_true rfl⟩ [3, 13, 14, 15, 16, 17, 18, 19] pl_bk_iv rfl rfl rfl (Nat.le_of_ble_eq_true rfl) dX0_lose_5 ?_
  refine j_if_ne (tgt := 13) C dX0_lose_8 (by decide) (fun (h8 : ¬ ((r_X3_has B i) = (0 : Int32))) => ?_) (fun (h8 : (r_X3_has B i) = (0 : Int32)) => ?_)
  · have hq := hq.2 h8
    refine j_aload_n C dX0_lose_13 rfl ?_
    refine j_get C f_X0_28.F 0 dX0_lose_14 bkW_0 rfl ?_
    refine j_get C f_X0_89.F 3 dX0_lose_17 bkW_3 rfl ?_
    refine j_iload_n C dX0_lose_20 rfl ?_
    refine j_iald C 17 dX0_lose_21 bkW_17 (has_X3 h8) ?_
    refine j_iconst C dX0_lose_22 (1 : Int32) (by decide) ?_
    refine j_icmp_ne (tgt := 30) C dX0_lose_23 (by decide) (fun (h23 : ¬ ((B 11 i.toNatClampNeg) = (1 : Int32))) => ?_) (fun (h23 : (B 11 i.toNatClampNeg) = (1 : Int32)) => ?_)
    · have hq := hq.2 h23
      refine j_iconst C dX0_lose_30 (0 : Int32) (by decide) ?_
      refine j_istore_n C [(2, _), (0, _), (1, _)] dX0_lose_31 (by decide) rfl ?_
      refine j_aload_n C dX0_lose_32 rfl ?_
      refine j_get C f_X0_28.F 0 dX0_lose_33 bkW_0 rfl ?_
      refine j_get C f_X0_89.F 3 dX0_lose_36 bkW_3 rfl ?_
      refine j_iload_n C dX0_lose_39 rfl ?_
      refine j_iconst C dX0_lose_40 (3 : Int32) (by decide) ?_
      refine j_iast C 17 dX0_lose_41 bkW_17 (has_X3 h8) ?_
      refine j_ws (ws' := (bkW ca g (up2 B 11 (i).toNatClampNeg (3 : Int32)))) fa_bk_17 ?_
      refine j_aload_n C dX0_lose_42 rfl ?_
      refine j_get C f_X0_21.F 0 dX0_lose_43 bkW_0 rfl ?_
      refine j_aload_n C dX0_lose_46 rfl ?_
      refine j_get C f_X0_28.F 0 dX0_lose_47 bkW_0 rfl ?_
      refine j_get C f_X0_72.F 3 dX0_lose_50 bkW_3 rfl ?_
      refine j_iload_n C dX0_lose_53 rfl ?_
      refine j_iald C 14 dX0_lose_54 bkW_14 (has_X3 h8) ?_
      refine j_sti rd_19 ?_
      refine j_callVv C g_X0_133 (c_X1_addLost l D ca g (up2 B 11 (i).toNatClampNeg (3 : Int32)) (B 8 i.toNatClampNeg)) 2 bkW_2 hcl_X1 ⟨Nat.le_of_ble_eq_true rfl, Nat.le_of_ble_eq_true rfl⟩ ⟨Nat.le_of_ble_eq_true rfl, Nat.le_of_ble_eq_true rfl⟩ [2, 10, 11, 12] pl_bk_cl rfl rfl rfl (Nat.le_of_ble_eq_true rfl) dX0_lose_55 fst_cl ?_
      refine j_ws (ws' := (bkW ca g (z_X0_lose_0 B i))) fs_bk_X1_addLost ?_
      refine j_aload_n C dX0_lose_58 rfl ?_
      refine j_get C f_X0_28.F 0 dX0_lose_59 bkW_0 rfl ?_
      refine j_get C f_X0_104.F 3 dX0_lose_62 bkW_3 rfl ?_
      refine j_iload_n C dX0_lose_65 rfl ?_
      refine j_iald C 19 dX0_lose_66 bkW_19 (has_X3 h8) ?_
      refine j_aload_n C dX0_lose_67 rfl ?_
      refine j_get C f_X0_28.F 0 dX0_lose_68 bkW_0 rfl ?_
      refine j_get C f_X0_92.F 3 dX0_lose_71 bkW_3 rfl ?_
      refine j_iload_n C dX0_lose_74 rfl ?_
      refine j_iald C 18 dX0_lose_75 bkW_18 (has_X3 h8) ?_
      refine j_isub C dX0_lose_76 ?_
      refine j_istore_n C [(3, _), (2, _), (0, _), (1, _)] dX0_lose_77 (by decide) rfl ?_
      refine j_iload_n C dX0_lose_78 rfl ?_
      refine j_if_eq (tgt := 86) C dX0_lose_79 (by decide) (fun _ => ?_) (fun h => absurd (by decide) h)
      refine j_iconst C dX0_lose_86 (0 : Int32) (by decide) ?_
      have e9 : r_X0_lose B i = ((0 : Int32), (z_X0_lose_0 B i)) := by rw [r_X0_lose, if_neg h8, if_neg h23]
      exact j_iret E dX0_lose_87 (jD_i e9 (bkW ca g))
    · have hq := hq.1 h23
      refine j_iconst C dX0_lose_26 (1 : Int32) (by decide) ?_
      refine j_goto (tgt := 31) C dX0_lose_27 (by decide) ?_
      refine j_istore_n C [(2, _), (0, _), (1, _)] dX0_lose_31 (by decide) rfl ?_
      refine j_aload_n C dX0_lose_32 rfl ?_
      refine j_get C f_X0_28.F 0 dX0_lose_33 bkW_0 rfl ?_
      refine j_get C f_X0_89.F 3 dX0_lose_36 bkW_3 rfl ?_
      refine j_iload_n C dX0_lose_39 rfl ?_
      refine j_iconst C dX0_lose_40 (3 : Int32) (by decide) ?_
      refine j_iast C 17 dX0_lose_41 bkW_17 (has_X3 h8) ?_
      refine j_ws (ws' := (bkW ca g (up2 B 11 (i).toNatClampNeg (3 : Int32)))) fa_bk_17 ?_
      refine j_aload_n C dX0_lose_42 rfl ?_
      refine j_get C f_X0_21.F 0 dX0_lose_43 bkW_0 rfl ?_
      refine j_aload_n C dX0_lose_46 rfl ?_
      refine j_get C f_X0_28.F 0 dX0_lose_47 bkW_0 rfl ?_
      refine j_get C f_X0_72.F 3 dX0_lose_50 bkW_3 rfl ?_
      refine j_iload_n C dX0_lose_53 rfl ?_
      refine j_iald C 14 dX0_lose_54 bkW_14 (has_X3 h8) ?_
      refine j_sti rd_19 ?_
      refine j_callVv C g_X0_133 (c_X1_addLost l D ca g (up2 B 11 (i).toNatClampNeg (3 : Int32)) (B 8 i.toNatClampNeg)) 2 bkW_2 hcl_X1 ⟨Nat.le_of_ble_eq_true rfl, Nat.le_of_ble_eq_true rfl⟩ ⟨Nat.le_of_ble_eq_true rfl, Nat.le_of_ble_eq_true rfl⟩ [2, 10, 11, 12] pl_bk_cl rfl rfl rfl (Nat.le_of_ble_eq_true rfl) dX0_lose_55 fst_cl ?_
      refine j_ws (ws' := (bkW ca g (z_X0_lose_0 B i))) fs_bk_X1_addLost ?_
      refine j_aload_n C dX0_lose_58 rfl ?_
      refine j_get C f_X0_28.F 0 dX0_lose_59 bkW_0 rfl ?_
      refine j_get C f_X0_104.F 3 dX0_lose_62 bkW_3 rfl ?_
      refine j_iload_n C dX0_lose_65 rfl ?_
      refine j_iald C 19 dX0_lose_66 bkW_19 (has_X3 h8) ?_
      refine j_aload_n C dX0_lose_67 rfl ?_
      refine j_get C f_X0_28.F 0 dX0_lose_68 bkW_0 rfl ?_
      refine j_get C f_X0_92.F 3 dX0_lose_71 bkW_3 rfl ?_
      refine j_iload_n C dX0_lose_74 rfl ?_
      refine j_iald C 18 dX0_lose_75 bkW_18 (has_X3 h8) ?_
      refine j_isub C dX0_lose_76 ?_
      refine j_istore_n C [(3, _), (2, _), (0, _), (1, _)] dX0_lose_77 (by decide) rfl ?_
      refine j_iload_n C dX0_lose_78 rfl ?_
      refine j_if_eq (tgt := 86) C dX0_lose_79 (by decide) (fun h => absurd h (by decide)) (fun _ => ?_)
      refine j_iload_n C dX0_lose_82 rfl ?_
      refine j_if_gt (tgt := 88) C dX0_lose_83 (by decide) (fun (h83 : (0 : Int32) < (((z_X0_lose_0 B i) 13 i.toNatClampNeg) - ((z_X0_lose_0 B i) 12 i.toNatClampNeg))) => ?_) (fun (h83 : ¬ ((0 : Int32) < (((z_X0_lose_0 B i) 13 i.toNatClampNeg) - ((z_X0_lose_0 B i) 12 i.toNatClampNeg)))) => ?_)
      · have hq := hq.1 h83
        refine j_aload_n C dX0_lose_88 rfl ?_
        refine j_iload_n C dX0_lose_89 rfl ?_
        obtain ⟨hv, hq⟩ := hq
        refine j_callVvW C g_X0_136 (c_X0_share l D ca g (z_X0_lose_0 B i) (((z_X0_lose_0 B i) 13 i.toNatClampNeg) - ((z_X0_lose_0 B i) 12 i.toNatClampNeg)) hv) 0 bkW_0 hcl_X0 ⟨Nat.le_of_ble_eq_true rfl, Nat.le_of_ble_eq_true rfl⟩ ⟨Nat.le_of_ble_eq_true rfl, Nat.le_of_ble_eq_true rfl⟩ rfl rfl (Nat.le_of_ble_eq_true rfl) dX0_lose_90 fst_bk ?_
        refine j_ws (ws' := (bkW ca g (z_X0_lose_1 B i))) (by rw [z_X0_lose_1]) ?_
        refine j_iload_n C dX0_lose_93 rfl ?_
        have e9 : r_X0_lose B i = ((((z_X0_lose_0 B i) 13 i.toNatClampNeg) - ((z_X0_lose_0 B i) 12 i.toNatClampNeg)), (z_X0_lose_1 B i)) := by rw [r_X0_lose, if_neg h8, if_pos h23, if_pos h83]
        exact j_iret E dX0_lose_94 (jD_i e9 (bkW ca g))
      · have hq := hq.2 h83
        refine j_iconst C dX0_lose_86 (0 : Int32) (by decide) ?_
        have e9 : r_X0_lose B i = ((0 : Int32), (z_X0_lose_0 B i)) := by rw [r_X0_lose, if_neg h8, if_pos h23, if_neg h83]
        exact j_iret E dX0_lose_87 (jD_i e9 (bkW ca g))
  · have hq := hq.1 h8
    refine j_iconst C dX0_lose_11 (-1 : Int32) (by decide) ?_
    have e9 : r_X0_lose B i = ((-1 : Int32), B) := by rw [r_X0_lose, if_pos h8]
    exact j_iret E dX0_lose_12 (jD_i e9 (bkW ca g))
