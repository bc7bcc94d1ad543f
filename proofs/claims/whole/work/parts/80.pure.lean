theorem NL25 {n : Nat} {M B : jB} (h : LB (M 0) B) (I : Inv n B) (hN : n ≤ 1000) (r x : Int32) (kn : Int32 → Prop) (hk : kn (x + 1)) (h0 : 0 ≤ x.toInt) (h1 : x.toInt < (B 16 1).toInt) : ∀ (f : Nat) (a y : Int32), 0 ≤ y.toInt → NL_X8_best_25 M r x kn f a y
  | 0, _, _, _ => trivial
  | f + 1, a, y, g0 => by
    have hs := Inv_s I
    rw [NL_X8_best_25, rS9 h]
    refine ⟨fun _ => ⟨n_mayAhead h I hN h0 h1, fun _ => hk, fun _ => ⟨fun _ => trivial, fun _ => hk⟩⟩, fun q => ?_⟩
    have g1 : y.toInt < (B 16 1).toInt := by rw [i_le] at q; omega
    have ys : 0 ≤ (y + 1).toInt := by rw [ii_succ (by omega)]; omega
    have ih := fun a => NL25 h I hN r x kn hk h0 h1 f a (y + 1) ys
    exact ⟨n_mayAhead h I hN g0 g1, fun _ => ih _, fun _ => ⟨n_worth8 h I hN g0 g1, n_worth8 h I hN h0 h1, fun _ => ih _, fun _ => ⟨n_worth8 h I hN g0 g1, n_worth8 h I hN h0 h1, fun _ => ⟨fun _ => ih _, fun _ => ih _⟩, fun _ => ih _⟩⟩⟩
theorem NL9 {n : Nat} {M B : jB} (h : LB (M 0) B) (I : Inv n B) (hN : n ≤ 1000) (r : Int32) : ∀ (f : Nat) (x : Int32), 0 ≤ x.toInt → NL_X8_best_9 M r f x
  | 0, _, _ => trivial
  | f + 1, x, h0 => by
    have hs := Inv_s I
    rw [NL_X8_best_9, rS9 h]
    refine ⟨fun _ => trivial, fun q => ?_⟩
    have h1 : x.toInt < (B 16 1).toInt := by rw [i_le] at q; omega
    exact NL25 h I hN r x _ (NL9 h I hN r f (x + 1) (by rw [ii_succ (by omega)]; omega)) h0 h1 _ 0 0 (by decide)
theorem cnt_rk {n : Nat} {B : jB} (I : Inv n B) (r : Int32) (hr : 0 ≤ r.toInt) (i : Nat) : (fs (fun j => if (Ab B j && bfb B j i) = true then 1 else 0) 0 (B 16 1).toInt.toNat 0 = r) ↔ rk B (B 16 1).toInt.toNat i = r.toInt.toNat := by
  have hs := Inv_s I
  have z0 : (0 : Int32).toInt = 0 := rfl
  have e := fs_cnt (fun j => Ab B j && bfb B j i) (B 16 1).toInt.toNat 0 0 (by decide) (by omega)
  rw [i_eq, e, z0]
  unfold rk
  rw [List.range_eq_range']
  omega
theorem best9 {n : Nat} {M B : jB} (h : LB (M 0) B) (I : Inv n B) (hN : n ≤ 1000) (r : Int32) (hr : 0 ≤ r.toInt) : ∀ (c f : Nat) (x : Int32), 0 ≤ x.toInt → x.toInt + c = (B 16 1).toInt → c ≤ f →
    (∀ i0 : Nat, x.toNatClampNeg ≤ i0 → i0 < (B 16 1).toInt.toNat → Ab B i0 = true → rk B (B 16 1).toInt.toNat i0 = r.toInt.toNat → (∀ i, i < (B 16 1).toInt.toNat → Ab B i = true → rk B (B 16 1).toInt.toNat i = r.toInt.toNat → i = i0) → L_X8_best_9 M r (f + 1) x = Int32.ofNat i0) ∧ ((∀ i, i < (B 16 1).toInt.toNat → Ab B i = true → rk B (B 16 1).toInt.toNat i ≠ r.toInt.toNat) → L_X8_best_9 M r (f + 1) x = -5)
  | 0, f, x, h0, h1, hf => by
    have g : B 16 1 ≤ x := by rw [i_le]; omega
    rw [L_X8_best_9, rS9 h, if_pos g]
    refine ⟨fun i0 a b => ?_, fun _ => rfl⟩
    rw [i_nat] at a
    omega
  | c + 1, f, x, h0, h1, hf => by
    have hs := Inv_s I
    obtain ⟨f', rfl⟩ : ∃ f', f = f' + 1 := ⟨f - 1, by omega⟩
    have g : ¬ (B 16 1 ≤ x) := by rw [i_le]; omega
    have xs : (x + 1).toInt = x.toInt + 1 := ii_succ (by omega)
    have xn : (x + 1).toNatClampNeg = x.toNatClampNeg + 1 := nn_succ h0 (by omega)
    have ih := best9 h I hN r hr c f' (x + 1) (by omega) (by omega) (by omega)
    rw [L_X8_best_9, rS9 h, if_neg g, best25 h I hN r x _ h0 (by omega)]
    have hA : Ab B x.toNatClampNeg = true ↔ ¬ (r_X0_canPayAhead B x = 0) := by unfold Ab; rw [nat_of h0]; simp
    have ck := cnt_rk I r hr x.toNatClampNeg
    have xN : x.toNatClampNeg < (B 16 1).toInt.toNat := by rw [i_nat]; omega
    refine ⟨fun i0 a b ha hrk hu => ?_, fun hno => ?_⟩
    · by_cases e : x.toNatClampNeg = i0
      · subst e
        rw [if_neg (hA.mp ha), if_pos (ck.mpr hrk), nat_of h0]
      · have nx := ih.1 i0 (by omega) b ha hrk hu
        by_cases q : r_X0_canPayAhead B x = 0
        · rw [if_pos q]; exact nx
        · rw [if_neg q]
          by_cases d : rk B (B 16 1).toInt.toNat x.toNatClampNeg = r.toInt.toNat
          · exact absurd (hu _ xN (hA.mpr q) d) e
          · rw [if_neg (fun p => d (ck.mp p))]; exact nx
    · by_cases q : r_X0_canPayAhead B x = 0
      · rw [if_pos q]; exact ih.2 hno
      · rw [if_neg q, if_neg (fun p => hno _ xN (hA.mpr q) (ck.mp p))]; exact ih.2 hno
theorem R_best {n : Nat} {K : Nat → jB} {M : jB} (h : Rel n K M) (hN : n ≤ 1000) (r : Int32) : n_X7_best K r ∧ n_X8_best M r ∧ (r_X7_best K r).1 = r_X8_best M r ∧ Rel (n + 1) (r_X7_best K r).2 M := by
  have hL := R_L h
  have hI := R_I h
  have hs := Inv_s hI
  have hm : Rel (n + 1) K M := Rel_mono h (Nat.le_succ n)
  have z0 : (0 : Int32).toInt = 0 := rfl
  unfold n_X7_best n_X8_best r_X7_best r_X8_best
  by_cases q : (0 : Int32) ≤ r
  · have q' := q
    rw [i_le, z0] at q'
    rw [if_pos q, if_pos q, rN9 hL]
    have hsm : Sm K (up3 K 7 5 4 0) := Sm_up 0 (by omega)
    have hrk : Rk (K 0) (up3 K 7 5 4 0) [] := ⟨by rw [up3_at, if_pos rfl, up2_at, if_pos ⟨rfl, rfl⟩]; rfl, fun q hq => absurd hq (Nat.not_lt_zero _)⟩
    obtain ⟨⟨l', hR, e1, e2⟩, nl⟩ := best17 hI hN K r q' (K 0 16 1).toInt.toNat (((K 0 16 1).toInt - (0 : Int32).toInt).toNat) 0 (up3 K 7 5 4 0) [] (by decide) (by rw [z0]; omega) (by omega) hsm (Rnk_nil _) hrk
    have b9 := best9 hL hI hN r q' (K 0 16 1).toInt.toNat (((K 0 16 1).toInt - (0 : Int32).toInt).toNat) 0 (by decide) (by rw [z0]; omega) (by omega)
    refine ⟨⟨fun _ => nl, fun p => absurd q p⟩, ⟨fun _ => NL9 hL hI hN r _ 0 (by decide), fun p => absurd q p⟩, ?_, Rel_Sm hm e2⟩
    rw [e1]
    have uniq : ∀ i, i < (K 0 16 1).toInt.toNat → Ab (K 0) i = true → ∃ hq : rk (K 0) (K 0 16 1).toInt.toNat i < l'.length, l'[rk (K 0) (K 0 16 1).toInt.toNat i] = i := by
      intro i hi ha
      have hmem := (Rnk_mem hR i).mpr ⟨hi, ha⟩
      obtain ⟨k, hk, e⟩ := List.mem_iff_getElem.mp hmem
      have hc := sort_cnt (K 0) l' k hk hR.1
      rw [hR.2, e, ← rk_filter] at hc
      subst hc
      exact ⟨hk, e⟩
    by_cases d : r.toInt.toNat < l'.length
    · rw [dif_pos d]
      have hmem := (Rnk_mem hR _).mp (List.getElem_mem d)
      have hc := sort_cnt (K 0) l' r.toInt.toNat d hR.1
      rw [hR.2, ← rk_filter] at hc
      refine (b9.1 _ (Nat.zero_le _) hmem.1 hmem.2 hc ?_).symm
      intro i hi ha hr
      obtain ⟨u1, u2⟩ := uniq i hi ha
      have : ∀ (k : Nat) (hk : k < l'.length), k = r.toInt.toNat → l'[k] = l'[r.toInt.toNat] := by
        intro k hk e; subst e; rfl
      rw [← this _ u1 hr]
      exact u2.symm
    · rw [dif_neg d]
      refine (b9.2 ?_).symm
      intro i hi ha hr
      obtain ⟨u1, u2⟩ := uniq i hi ha
      omega
  · rw [if_neg q, if_neg q]
    exact ⟨⟨fun p => absurd p q, fun _ => trivial⟩, ⟨fun p => absurd p q, fun _ => trivial⟩, rfl, hm⟩
