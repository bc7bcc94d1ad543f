theorem St_of {n : Nat} {P : Int32} {K K2 : Nat → jB} (h : St n P K) (e : K2 0 = K 0) (hH : Hst K2) : St n P K2 := ⟨by rw [e]; exact h.1, hH⟩
theorem pass_undo {n : Nat} {P : Int32} {K : Nat → jB} (h : St n P K) (hN : n ≤ 200) {d : Int32} (h1 : 1 ≤ d.toInt) (h2 : d.toInt ≤ 365) : (r_X7_pass K d).2 0 = up2 (K 0) 16 2 (K 0 16 2 + d) ∧ 0 < (r_X7_pass K d).1.toInt ∧ Inv n ((r_X7_pass K d).2 0) ∧ n_X7_undo (r_X7_pass K d).2 ∧ (r_X7_undo (r_X7_pass K d).2).2 0 = K 0 ∧ Hst (r_X7_undo (r_X7_pass K d).2).2 := by
  obtain ⟨q1, q2⟩ := pass_eq h hN d h1 h2
  have e3 := h.1.2.2.2.2.2.2.1
  rw [q1]
  dsimp only
  exact ⟨up1_0 _ _ _, by omega, by rw [up1_0]; exact Inv_free (St_I h) _ (by omega), undo_push h.2 _⟩
theorem wl_small {n : Nat} {K : Nat → jB} (hI : Inv n (K 0)) {i d : Int32} (hd : d = r_X7_worthlessIn K i) (h1 : d.toInt < 1) : (d = 0 ↔ r_X7_invoice K i 8 = 0) ∧ -5 ≤ d.toInt := by
  have z5 : (-5 : Int32).toInt = -5 := rfl
  rcases has3_cases hI i with g | ⟨g, -, -⟩
  · rw [iv_no g.1]
    have e : d = -1 := by rw [hd]; unfold r_X7_worthlessIn; rw [if_pos g.1]
    rw [e]
    decide
  · rw [iv_8 g]
    rcases wl_of K g with w | w <;> rw [← hd] at w
    · refine ⟨⟨fun q => absurd (q.symm.trans w.1) (by decide), fun q => absurd q (w.2 0 (by decide) (by decide))⟩, by rw [w.1]; decide⟩
    · have e : d = 0 := by rw [i_eq, show (0 : Int32).toInt = 0 from rfl]; omega
      have w3 := w.2.2.1
      rw [e] at w3
      exact ⟨⟨fun _ => w3, fun _ => e⟩, by omega⟩
theorem wl_mid {n : Nat} {K : Nat → jB} (hI : Inv n (K 0)) (hN : n ≤ 1000) {i d : Int32} (hd : d = r_X7_worthlessIn K i) (h1 : 1 ≤ d.toInt) : r_X3_has (K 0) i = 1 ∧ r_X0_offerAfter (K 0) i d = 0 ∧ ∀ y : Int32, 0 ≤ y.toInt → y.toInt < d.toInt → 0 < (r_X0_offerAfter (K 0) i y).toInt := by
  rcases has3_cases hI i with g | ⟨g, h0, hs⟩
  · have e : d = -1 := by rw [hd]; unfold r_X7_worthlessIn; rw [if_pos g.1]
    rw [e] at h1
    exact absurd h1 (by decide)
  · rcases wl_of K g with w | w <;> rw [← hd] at w
    · rw [w.1] at h1
      exact absurd h1 (by decide)
    · refine ⟨g, w.2.2.1, fun y y0 y1 => ?_⟩
      have q := w.2.2.2 y y0 y1
      have oc := (offer_cut hI hN h0 hs y).2
      rw [Ne, i_eq, show (0 : Int32).toInt = 0 from rfl] at q
      omega
set_option maxRecDepth 100000 in
set_option maxHeartbeats 4000000 in
theorem c_L_isWorthlessSo (l : Launch) (D : va_G) (ca : Nat → ClassId) (g : Nat → Nat) (K : Nat → jB) (i : Int32) {n : Nat} {P : Int32} (h : St n P K) (hN : n ≤ 190) : jM l D ca yL_isWorthlessSo cL_isWorthlessSo 4 (Option.some FieldType.boolean) 7 156 0 0 [.ref (g 0), .int i] (fW ca g K) (fun v w => v = some (.int 1) ∧ ∃ K', K' 0 = K 0 ∧ Hst K' ∧ w = fW ca g K') := by
  refine jM_of [(0, .ref (g 0)), (1, .int i)] (by decide) (Nat.le_of_ble_eq_true rfl) rfl (fun X C E => ?_)
  have hI := St_I h
  refine j_aload_n C dL_isWorthlessSo_0 rfl ?_
  refine j_iload_n C dL_isWorthlessSo_1 rfl ?_
  refine j_callViRW C g_L_66 (c_X7_worthlessIn l D ca g K i (n_worthless hI (by omega) _)) 0 fW_0 hcl_X7 ⟨Nat.le_of_ble_eq_true rfl, Nat.le_of_ble_eq_true rfl⟩ ⟨Nat.le_of_ble_eq_true rfl, Nat.le_of_ble_eq_true rfl⟩ rfl rfl (Nat.le_of_ble_eq_true rfl) dL_isWorthlessSo_2 ?_
  refine j_topi (fun d hd => ?_)
  refine j_istore_n C [(2, _), (0, _), (1, _)] dL_isWorthlessSo_5 (by decide) rfl ?_
  refine j_iload_n C dL_isWorthlessSo_6 rfl ?_
  refine j_iconst C dL_isWorthlessSo_7 (1 : Int32) (by decide) ?_
  have z0 : (0 : Int32).toInt = 0 := rfl
  have z1 : (1 : Int32).toInt = 1 := rfl
  have z365 : (365 : Int32).toInt = 365 := rfl
  have K18 : (d.toInt < 1 ∨ 365 < d.toInt) → J l { frames := 7, cells := 0, slots := 0, locals := 156 } D 4 X 0 0 (fW ca g K) [(2, .int d), (0, .ref (g 0)), (1, .int i)] [] 18 := by
    intro ho
    refine j_iload_n C dL_isWorthlessSo_18 rfl ?_
    refine j_sipush C dL_isWorthlessSo_19 (365 : Int32) (by decide) ?_
    refine j_icmp_gt (tgt := 58) C dL_isWorthlessSo_22 (by decide) (fun (h22 : (365 : Int32) < d) => ?_) (fun (h22 : ¬ ((365 : Int32) < d)) => ?_)
    · refine j_iconst C dL_isWorthlessSo_58 (1 : Int32) (by decide) ?_
      refine j_goto (tgt := 63) C dL_isWorthlessSo_59 (by decide) ?_
      exact j_zret E rfl dL_isWorthlessSo_63 ⟨rfl, K, rfl, h.2, rfl⟩
    · have dl : d.toInt < 1 := by rw [i_lt, z365] at h22; omega
      obtain ⟨w1, w2⟩ := wl_small hI hd dl
      refine j_iload_n C dL_isWorthlessSo_25 rfl ?_
      have K34 : ∀ x : Int32, x = (if d = 0 then 1 else 0) → J l { frames := 7, cells := 0, slots := 0, locals := 156 } D 4 X 0 0 (fW ca g K) [(2, .int d), (0, .ref (g 0)), (1, .int i)] [.int x] 34 := by
        intro x hx
        refine j_aload_n C dL_isWorthlessSo_34 rfl ?_
        refine j_iload_n C dL_isWorthlessSo_35 rfl ?_
        refine j_bipush C dL_isWorthlessSo_36 (8 : Int32) (by decide) ?_
        refine j_callViRW C g_L_35 (c_X7_invoice l D ca g K i (8 : Int32) (n_invoice hI (by omega) _ _)) 0 fW_0 hcl_X7 ⟨Nat.le_of_ble_eq_true rfl, Nat.le_of_ble_eq_true rfl⟩ ⟨Nat.le_of_ble_eq_true rfl, Nat.le_of_ble_eq_true rfl⟩ rfl rfl (Nat.le_of_ble_eq_true rfl) dL_isWorthlessSo_38 ?_
        have K49 : ∀ y : Int32, y = (if d = 0 then 1 else 0) → J l { frames := 7, cells := 0, slots := 0, locals := 156 } D 4 X 0 0 (fW ca g K) [(2, .int d), (0, .ref (g 0)), (1, .int i)] [.int y, .int x] 49 := by
          intro y hy
          refine j_icmp_ne (tgt := 62) C dL_isWorthlessSo_49 (by decide) (fun h => absurd (hx.trans hy.symm) h) (fun _ => ?_)
          refine j_iload_n C dL_isWorthlessSo_52 rfl ?_
          refine j_bipush C dL_isWorthlessSo_53 (-5 : Int32) (by decide) ?_
          refine j_icmp_lt (tgt := 62) C dL_isWorthlessSo_55 (by decide) (fun h => absurd h (by rw [i_lt]; exact Int.not_lt.mpr w2)) (fun _ => ?_)
          refine j_iconst C dL_isWorthlessSo_58 (1 : Int32) (by decide) ?_
          refine j_goto (tgt := 63) C dL_isWorthlessSo_59 (by decide) ?_
          exact j_zret E rfl dL_isWorthlessSo_63 ⟨rfl, K, rfl, h.2, rfl⟩
        refine j_if_ne (tgt := 48) C dL_isWorthlessSo_41 (by decide) (fun (h41 : ¬ ((r_X7_invoice K i (8 : Int32)) = (0 : Int32))) => ?_) (fun (h41 : (r_X7_invoice K i (8 : Int32)) = (0 : Int32)) => ?_)
        · refine j_iconst C dL_isWorthlessSo_48 (0 : Int32) (by decide) ?_
          exact K49 _ (by rw [if_neg (fun q => h41 (w1.mp q))])
        · refine j_iconst C dL_isWorthlessSo_44 (1 : Int32) (by decide) ?_
          refine j_goto (tgt := 49) C dL_isWorthlessSo_45 (by decide) ?_
          exact K49 _ (by rw [if_pos (w1.mpr h41)])
      refine j_if_ne (tgt := 33) C dL_isWorthlessSo_26 (by decide) (fun (h26 : ¬ (d = (0 : Int32))) => ?_) (fun (h26 : d = (0 : Int32)) => ?_)
      · refine j_iconst C dL_isWorthlessSo_33 (0 : Int32) (by decide) ?_
        exact K34 _ (by rw [if_neg h26])
      · refine j_iconst C dL_isWorthlessSo_29 (1 : Int32) (by decide) ?_
        refine j_goto (tgt := 34) C dL_isWorthlessSo_30 (by decide) ?_
        exact K34 _ (by rw [if_pos h26])
  refine j_icmp_lt (tgt := 18) C dL_isWorthlessSo_8 (by decide) (fun (h8 : d < (1 : Int32)) => ?_) (fun (h8 : ¬ (d < (1 : Int32))) => ?_)
  · exact K18 (Or.inl (by rw [i_lt, z1] at h8; exact h8))
  · refine j_iload_n C dL_isWorthlessSo_11 rfl ?_
    refine j_sipush C dL_isWorthlessSo_12 (365 : Int32) (by decide) ?_
    refine j_icmp_le (tgt := 64) C dL_isWorthlessSo_15 (by decide) (fun (h15 : d ≤ (365 : Int32)) => ?_) (fun (h15 : ¬ (d ≤ (365 : Int32))) => ?_)
    · rw [i_lt, z1] at h8
      rw [i_le, z365] at h15
      have d1 : 1 ≤ d.toInt := Int.not_lt.mp h8
      obtain ⟨g1, o1, o2⟩ := wl_mid hI (by omega) hd d1
      refine j_aload_n C dL_isWorthlessSo_64 rfl ?_
      refine j_iload_n C dL_isWorthlessSo_65 rfl ?_
      refine j_bipush C dL_isWorthlessSo_66 (8 : Int32) (by decide) ?_
      refine j_callViRW C g_L_35 (c_X7_invoice l D ca g K i (8 : Int32) (n_invoice hI (by omega) _ _)) 0 fW_0 hcl_X7 ⟨Nat.le_of_ble_eq_true rfl, Nat.le_of_ble_eq_true rfl⟩ ⟨Nat.le_of_ble_eq_true rfl, Nat.le_of_ble_eq_true rfl⟩ rfl rfl (Nat.le_of_ble_eq_true rfl) dL_isWorthlessSo_68 ?_
      refine j_sti (y := (r_X0_offerAfter (K 0) i 0)) (iv_8 g1) ?_
      refine j_if_le (tgt := 96) C dL_isWorthlessSo_71 (by decide) (fun h => absurd h (by rw [i_le, z0]; exact Int.not_le.mpr (o2 0 (by decide) (by rw [z0]; omega)))) (fun _ => ?_)
      have pu := pass_undo h (by omega) d1 h15
      refine j_aload_n C dL_isWorthlessSo_74 rfl ?_
      refine j_iload_n C dL_isWorthlessSo_75 rfl ?_
      refine j_callViW C g_L_53 (c_X7_pass l D ca g K d (n_pass h _)) 0 fW_0 hcl_X7 ⟨Nat.le_of_ble_eq_true rfl, Nat.le_of_ble_eq_true rfl⟩ ⟨Nat.le_of_ble_eq_true rfl, Nat.le_of_ble_eq_true rfl⟩ rfl rfl (Nat.le_of_ble_eq_true rfl) dL_isWorthlessSo_76 fst_f ?_
      refine j_if_le (tgt := 96) C dL_isWorthlessSo_79 (by decide) (fun h => absurd h (by rw [i_le, z0]; exact Int.not_le.mpr pu.2.1)) (fun _ => ?_)
      obtain ⟨e1, -, I1, u1, u2, u3⟩ := pu
      generalize (r_X7_pass K d).2 = K1 at e1 I1 u1 u2 u3 ⊢
      have g2 : r_X3_has (K1 0) i = 1 := by rw [e1, has3_sz (show up2 (K 0) 16 2 (K 0 16 2 + d) 16 1 = K 0 16 1 by rw [up2_at, if_neg (by omega)])]; exact g1
      refine j_aload_n C dL_isWorthlessSo_82 rfl ?_
      refine j_iload_n C dL_isWorthlessSo_83 rfl ?_
      refine j_bipush C dL_isWorthlessSo_84 (8 : Int32) (by decide) ?_
      refine j_callViRW C g_L_35 (c_X7_invoice l D ca g K1 i (8 : Int32) (n_invoice I1 (by omega) _ _)) 0 fW_0 hcl_X7 ⟨Nat.le_of_ble_eq_true rfl, Nat.le_of_ble_eq_true rfl⟩ ⟨Nat.le_of_ble_eq_true rfl, Nat.le_of_ble_eq_true rfl⟩ rfl rfl (Nat.le_of_ble_eq_true rfl) dL_isWorthlessSo_86 ?_
      refine j_sti (y := (0 : Int32)) (by rw [iv_8 g2, e1, offer_day g1]; exact o1) ?_
      refine j_if_ne (tgt := 96) C dL_isWorthlessSo_89 (by decide) (fun h => absurd rfl h) (fun _ => ?_)
      refine j_iconst C dL_isWorthlessSo_92 (1 : Int32) (by decide) ?_
      refine j_goto (tgt := 97) C dL_isWorthlessSo_93 (by decide) ?_
      refine j_istore_n C [(3, _), (2, _), (0, _), (1, _)] dL_isWorthlessSo_97 (by decide) rfl ?_
      refine j_aload_n C dL_isWorthlessSo_98 rfl ?_
      refine j_callViW C g_L_69 (c_X7_undo l D ca g K1  u1) 0 fW_0 hcl_X7 ⟨Nat.le_of_ble_eq_true rfl, Nat.le_of_ble_eq_true rfl⟩ ⟨Nat.le_of_ble_eq_true rfl, Nat.le_of_ble_eq_true rfl⟩ rfl rfl (Nat.le_of_ble_eq_true rfl) dL_isWorthlessSo_99 fst_f ?_
      generalize (r_X7_undo K1).2 = K2 at u2 u3 ⊢
      refine j_pop C dL_isWorthlessSo_102 rfl ?_
      refine j_iload_n C dL_isWorthlessSo_103 rfl ?_
      refine j_iconst C dL_isWorthlessSo_104 (1 : Int32) (by decide) ?_
      refine j_icmp_le (tgt := 143) C dL_isWorthlessSo_105 (by decide) (fun (h105 : d ≤ (1 : Int32)) => ?_) (fun (h105 : ¬ (d ≤ (1 : Int32))) => ?_)
      · refine j_iload_n C dL_isWorthlessSo_143 rfl ?_
        exact j_zret E rfl dL_isWorthlessSo_144 ⟨rfl, K2, u2, u3, rfl⟩
      · have h2 := St_of h u2 u3
        have hd1 : (d - 1).toInt = d.toInt - 1 := by rw [i_sub] <;> rw [z1] <;> omega
        rw [i_le, z1] at h105
        have pu := pass_undo h2 (by omega) (d := d - 1) (by omega) (by omega)
        refine j_iload_n C dL_isWorthlessSo_108 rfl ?_
        refine j_if_eq (tgt := 136) C dL_isWorthlessSo_109 (by decide) (fun h => absurd h (by decide)) (fun _ => ?_)
        refine j_aload_n C dL_isWorthlessSo_112 rfl ?_
        refine j_iload_n C dL_isWorthlessSo_113 rfl ?_
        refine j_iconst C dL_isWorthlessSo_114 (1 : Int32) (by decide) ?_
        refine j_isub C dL_isWorthlessSo_115 ?_
        refine j_callViW C g_L_53 (c_X7_pass l D ca g K2 (d - (1 : Int32)) (n_pass h2 _)) 0 fW_0 hcl_X7 ⟨Nat.le_of_ble_eq_true rfl, Nat.le_of_ble_eq_true rfl⟩ ⟨Nat.le_of_ble_eq_true rfl, Nat.le_of_ble_eq_true rfl⟩ rfl rfl (Nat.le_of_ble_eq_true rfl) dL_isWorthlessSo_116 fst_f ?_
        refine j_if_le (tgt := 136) C dL_isWorthlessSo_119 (by decide) (fun h => absurd h (by rw [i_le, z0]; exact Int.not_le.mpr pu.2.1)) (fun _ => ?_)
        obtain ⟨e3, -, I3, u4, u5, u6⟩ := pu
        rw [u2] at e3 u5
        generalize (r_X7_pass K2 (d - (1 : Int32))).2 = K3 at e3 I3 u4 u5 u6 ⊢
        have g3 : r_X3_has (K3 0) i = 1 := by rw [e3, has3_sz (show up2 (K 0) 16 2 (K 0 16 2 + (d - 1)) 16 1 = K 0 16 1 by rw [up2_at, if_neg (by omega)])]; exact g1
        refine j_aload_n C dL_isWorthlessSo_122 rfl ?_
        refine j_iload_n C dL_isWorthlessSo_123 rfl ?_
        refine j_bipush C dL_isWorthlessSo_124 (8 : Int32) (by decide) ?_
        refine j_callViRW C g_L_35 (c_X7_invoice l D ca g K3 i (8 : Int32) (n_invoice I3 (by omega) _ _)) 0 fW_0 hcl_X7 ⟨Nat.le_of_ble_eq_true rfl, Nat.le_of_ble_eq_true rfl⟩ ⟨Nat.le_of_ble_eq_true rfl, Nat.le_of_ble_eq_true rfl⟩ rfl rfl (Nat.le_of_ble_eq_true rfl) dL_isWorthlessSo_126 ?_
        refine j_sti (y := (r_X0_offerAfter (K 0) i (d - 1))) (by rw [iv_8 g3, e3, offer_day g1]) ?_
        refine j_if_le (tgt := 136) C dL_isWorthlessSo_129 (by decide) (fun h => absurd h (by rw [i_le, z0]; exact Int.not_le.mpr (o2 (d - 1) (by omega) (by omega)))) (fun _ => ?_)
        refine j_iconst C dL_isWorthlessSo_132 (1 : Int32) (by decide) ?_
        refine j_goto (tgt := 137) C dL_isWorthlessSo_133 (by decide) ?_
        refine j_istore_n C [(3, _), (2, _), (0, _), (1, _)] dL_isWorthlessSo_137 (by decide) rfl ?_
        refine j_aload_n C dL_isWorthlessSo_138 rfl ?_
        refine j_callViW C g_L_69 (c_X7_undo l D ca g K3  u4) 0 fW_0 hcl_X7 ⟨Nat.le_of_ble_eq_true rfl, Nat.le_of_ble_eq_true rfl⟩ ⟨Nat.le_of_ble_eq_true rfl, Nat.le_of_ble_eq_true rfl⟩ rfl rfl (Nat.le_of_ble_eq_true rfl) dL_isWorthlessSo_139 fst_f ?_
        generalize (r_X7_undo K3).2 = K4 at u5 u6 ⊢
        refine j_pop C dL_isWorthlessSo_142 rfl ?_
        refine j_iload_n C dL_isWorthlessSo_143 rfl ?_
        exact j_zret E rfl dL_isWorthlessSo_144 ⟨rfl, K4, u5, u6, rfl⟩
    · exact K18 (Or.inr (by rw [i_le, z365] at h15; omega))
