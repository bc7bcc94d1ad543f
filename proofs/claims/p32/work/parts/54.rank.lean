def wb (B : jB) (k : Nat) : UInt32 := r_X0_worthOf B (Int32.ofNat k)
def wv (B : jB) (k : Nat) : Int := FP.Core.fkey (wb B k)
def bfb (B : jB) (j i : Nat) : Bool := decide (wv B i < wv B j) || (decide (wv B j = wv B i) && decide (j < i))
def Ab (B : jB) (k : Nat) : Bool := decide (r_X0_canPayAhead B (Int32.ofNat k) ≠ 0)
theorem bfb_irr (B : jB) (i : Nat) : bfb B i i = false := by unfold bfb; simp
theorem bfb_asym (B : jB) {i j : Nat} (h : bfb B i j = true) : bfb B j i = false := by
  unfold bfb at *
  simp at *
  omega
theorem bfb_tot (B : jB) {i j : Nat} (h : i ≠ j) : bfb B i j = true ∨ bfb B j i = true := by
  unfold bfb
  simp
  omega
theorem sort_cnt (B : jB) : ∀ (l : List Nat) (r : Nat) (hr : r < l.length), l.Pairwise (fun a b => bfb B a b = true) → l.countP (fun j => bfb B j l[r]) = r
  | [], r, hr, _ => absurd hr (Nat.not_lt_zero _)
  | y :: t, 0, hr, h => by
    have h' := List.pairwise_cons.mp h
    show (y :: t).countP (fun j => bfb B j y) = 0
    rw [List.countP_cons, if_neg (by rw [bfb_irr]; decide), Nat.add_zero, List.countP_eq_zero]
    intro z hz
    rw [bfb_asym B (h'.1 z hz)]; decide
  | y :: t, r + 1, hr, h => by
    have h' := List.pairwise_cons.mp h
    have hr' : r < t.length := by simpa using hr
    show (y :: t).countP (fun j => bfb B j t[r]) = r + 1
    rw [List.countP_cons, if_pos (h'.1 _ (List.getElem_mem hr')), sort_cnt B t r hr' h'.2]
theorem fs_cnt (P : Nat → Bool) : ∀ (c k : Nat) (a : Int32), 0 ≤ a.toInt → a.toInt + c < 2147483647 → (fs (fun j => if P j = true then 1 else 0) a c k).toInt = a.toInt + ((List.range' k c).countP P : Nat)
  | 0, k, a, _, _ => by simp [fs]
  | c + 1, k, a, h0, h1 => by
    have z1 : (1 : Int32).toInt = 1 := rfl
    have z0 : (0 : Int32).toInt = 0 := rfl
    rw [List.range'_succ, List.countP_cons]
    show (fs _ (a + (if P k = true then 1 else 0)) c (k + 1)).toInt = _
    by_cases p : P k = true
    · rw [if_pos p, if_pos p, fs_cnt P c (k + 1) (a + 1) (by rw [ii_succ (by omega)]; omega) (by rw [ii_succ (by omega)]; omega), ii_succ (by omega)]
      omega
    · rw [if_neg p, if_neg p, add_zero32, fs_cnt P c (k + 1) a h0 (by omega)]
      omega
/-- a ranking of the first x -/
def Rnk (B : jB) (x : Nat) (l : List Nat) : Prop := l.Pairwise (fun a b => bfb B a b = true) ∧ (∀ P : Nat → Bool, l.countP P = ((List.range x).filter (Ab B)).countP P)
theorem Rnk_mem {B : jB} {x : Nat} {l : List Nat} (h : Rnk B x l) (y : Nat) : y ∈ l ↔ y < x ∧ Ab B y = true := by
  have := h.2 (fun z => z == y)
  have e1 : 0 < l.countP (fun z => z == y) ↔ y ∈ l := by
    rw [List.countP_pos_iff]
    exact ⟨fun ⟨a, ha, hb⟩ => by rw [← (beq_iff_eq.mp hb)]; exact ha, fun ha => ⟨y, ha, by simp⟩⟩
  have e2 : 0 < ((List.range x).filter (Ab B)).countP (fun z => z == y) ↔ y < x ∧ Ab B y = true := by
    rw [List.countP_pos_iff]
    constructor
    · rintro ⟨a, ha, hb⟩
      have := beq_iff_eq.mp hb
      subst this
      simpa using ha
    · intro ha
      exact ⟨y, by simpa using ha, by simp⟩
  rw [← e1, this, e2]
theorem Rnk_len {B : jB} {x : Nat} {l : List Nat} (h : Rnk B x l) : l.length ≤ x := by
  have := h.2 (fun _ => true)
  rw [List.countP_true] at this
  rw [this]
  exact Nat.le_trans (List.length_filter_le _ _) (by simp)
theorem Rnk_nil (B : jB) : Rnk B 0 [] := ⟨List.Pairwise.nil, fun P => by simp⟩
theorem Rnk_skip {B : jB} {x : Nat} {l : List Nat} (h : Rnk B x l) (hx : Ab B x = false) : Rnk B (x + 1) l := by
  refine ⟨h.1, fun P => ?_⟩
  rw [h.2 P, List.range_succ, List.filter_append]
  simp [hx]
theorem Rnk_ins {B : jB} {x p : Nat} {l : List Nat} (h : Rnk B x l) (hx : Ab B x = true) (hp : p ≤ l.length) (hlo : ∀ q (hq : q < l.length), p ≤ q → wv B l[q] < wv B x) (hhi : ∀ q (hq : q < l.length), q < p → wv B x ≤ wv B l[q]) : Rnk B (x + 1) (l.take p ++ x :: l.drop p) := by
  have hlt : ∀ y ∈ l, y < x := fun y hy => ((Rnk_mem h y).mp hy).1
  refine ⟨?_, fun P => ?_⟩
  · rw [List.pairwise_append]
    refine ⟨h.1.sublist (List.take_sublist _ _), ?_, ?_⟩
    · rw [List.pairwise_cons]
      refine ⟨fun y hy => ?_, h.1.sublist (List.drop_sublist _ _)⟩
      obtain ⟨q, hq, rfl⟩ := List.mem_iff_getElem.mp hy
      rw [List.getElem_drop]
      have hq' : p + q < l.length := by rw [List.length_drop] at hq; omega
      have := hlo (p + q) hq' (by omega)
      unfold bfb
      simp [this]
    · intro a ha b hb
      obtain ⟨q, hq, rfl⟩ := List.mem_iff_getElem.mp ha
      have hq2 : q < l.length ∧ q < p := by rw [List.length_take] at hq; omega
      rw [List.getElem_take]
      have h1 := hhi q hq2.1 hq2.2
      have h2 := hlt l[q] (List.getElem_mem hq2.1)
      rcases List.mem_cons.mp hb with e | e
      · subst e
        unfold bfb
        simp
        omega
      · obtain ⟨q2, hq3, rfl⟩ := List.mem_iff_getElem.mp e
        rw [List.getElem_drop]
        have hq4 : p + q2 < l.length := by rw [List.length_drop] at hq3; omega
        exact List.pairwise_iff_getElem.mp h.1 q (p + q2) hq2.1 hq4 (by omega)
  · rw [List.countP_append, List.countP_cons, List.range_succ, List.filter_append, List.countP_append, ← h.2 P]
    have e : l.countP P = (l.take p).countP P + (l.drop p).countP P := by
      conv => lhs; rw [← List.take_append_drop p l, List.countP_append]
    rw [e]
    simp [hx, List.countP_cons]
    omega

/-- the same but for the ranking -/
def Sm (K K' : Nat → jB) : Prop := (∀ b, b ≠ 7 → K' b = K b) ∧ (∀ r k, r ≠ 3 → r ≠ 4 → ¬ (r = 5 ∧ k = 4) → K' 7 r k = K 7 r k)
theorem Sm_refl (K : Nat → jB) : Sm K K := ⟨fun _ _ => rfl, fun _ _ _ _ _ => rfl⟩
theorem Sm_trans {K K' K'' : Nat → jB} (h : Sm K K') (g : Sm K' K'') : Sm K K'' := ⟨fun b hb => by rw [g.1 b hb, h.1 b hb], fun r k h3 h4 h5 => by rw [g.2 r k h3 h4 h5, h.2 r k h3 h4 h5]⟩
theorem Sm_up {K : Nat → jB} {r k : Nat} (v : Int32) (h : r = 3 ∨ r = 4 ∨ (r = 5 ∧ k = 4)) : Sm K (up3 K 7 r k v) := by
  refine ⟨fun b hb => by rw [up3_at, if_neg hb], fun r1 k1 h3 h4 h5 => ?_⟩
  rw [up3_at, if_pos rfl, up2_at, if_neg (by omega)]
def Rk (B : jB) (K : Nat → jB) (l : List Nat) : Prop := (K 7 5 4).toInt = l.length ∧ ∀ q (hq : q < l.length), K 7 3 q = Int32.ofNat l[q] ∧ K 7 4 q = (wb B l[q]).toInt32
theorem toI_toU (u : UInt32) : u.toInt32.toUInt32 = u := by simp
theorem pred_toInt {x : Int32} (h : 0 < x.toInt) : (x - 1).toInt = x.toInt - 1 ∧ (x + -1).toInt = x.toInt - 1 := by
  have hh := i_hi x
  have z1 : (1 : Int32).toInt = 1 := rfl
  have zm : (-1 : Int32).toInt = -1 := rfl
  exact ⟨by rw [i_sub] <;> rw [z1] <;> omega, by rw [i_add] <;> rw [zm] <;> omega⟩
theorem cmp_g_ge (o : Option Ordering) : (0 : Int32) ≤ Op.cmpValue o CmpOp.g ↔ o ≠ some .lt := by
  rcases o with _ | o
  · decide
  · cases o <;> decide
theorem ins_loop {B : jB} {x : Nat} {l : List Nat} (hv : ∀ k, (k = x ∨ k ∈ l) → FP.Core.val32 (wb B k) ≠ FP.Core.Datum.nan) (hs : l.length < 20) (K0 K : Nat → jB) : ∀ (p f : Nat) (y : Int32) (K22 : Nat → jB), y.toInt = p → p ≤ l.length → p < f → (K22 7 5 4).toInt = l.length → Sm K K22 →
    (∀ q (hq : q < l.length), q < p → K22 7 3 q = Int32.ofNat l[q] ∧ K22 7 4 q = (wb B l[q]).toInt32) → (∀ q (hq : q < l.length), p ≤ q → K22 7 3 (q + 1) = Int32.ofNat l[q] ∧ K22 7 4 (q + 1) = (wb B l[q]).toInt32) → (∀ q (hq : q < l.length), p ≤ q → wv B l[q] < wv B x) →
    (∀ q1 q2 (h1 : q1 < l.length) (h2 : q2 < l.length), q1 ≤ q2 → wv B l[q2] ≤ wv B l[q1]) →
    ∃ p', p' ≤ l.length ∧ (∀ q (hq : q < l.length), p' ≤ q → wv B l[q] < wv B x) ∧ (∀ q (hq : q < l.length), q < p' → wv B x ≤ wv B l[q]) ∧ Sm K (L_X5_insert_22 K0 (Int32.ofNat x) (wb B x) f y K22) ∧ Rk B (L_X5_insert_22 K0 (Int32.ofNat x) (wb B x) f y K22) (l.take p' ++ x :: l.drop p') := by
  have fin : ∀ (p : Nat) (y : Int32) (K22 : Nat → jB), y.toInt = p → p ≤ l.length → (K22 7 5 4).toInt = l.length → Sm K K22 →
    (∀ q (hq : q < l.length), q < p → K22 7 3 q = Int32.ofNat l[q] ∧ K22 7 4 q = (wb B l[q]).toInt32) → (∀ q (hq : q < l.length), p ≤ q → K22 7 3 (q + 1) = Int32.ofNat l[q] ∧ K22 7 4 (q + 1) = (wb B l[q]).toInt32) →
    Sm K (up3 (z_X5_insert_0 (Int32.ofNat x) (wb B x) y K22) 7 5 4 ((K22 7 5 4) + (1 : Int32))) ∧ Rk B (up3 (z_X5_insert_0 (Int32.ofNat x) (wb B x) y K22) 7 5 4 ((K22 7 5 4) + (1 : Int32))) (l.take p ++ x :: l.drop p) := by
    intro p y K22 hy hp hl hsm hlo hhi
    have yn : y.toNatClampNeg = p := by rw [i_nat]; omega
    refine ⟨?_, ?_, ?_⟩
    · refine Sm_trans hsm ?_
      unfold z_X5_insert_0
      refine Sm_trans (Sm_trans (Sm_up _ (by omega)) (Sm_up _ (by omega))) (Sm_up _ (by omega))
    · rw [up3_at, if_pos rfl, up2_at, if_pos ⟨rfl, rfl⟩, ii_succ (by omega), hl]
      simp
      omega
    · have e3 : ∀ q, (up3 (z_X5_insert_0 (Int32.ofNat x) (wb B x) y K22) 7 5 4 ((K22 7 5 4) + (1 : Int32))) 7 3 q = if q = p then Int32.ofNat x else K22 7 3 q := by
        intro q
        unfold z_X5_insert_0
        rw [up3_at, if_pos rfl, up2_at, if_neg (by omega), up3_at, if_pos rfl, up2_at, if_neg (by omega), up3_at, if_pos rfl, up2_at, yn]
        by_cases e : q = p
        · rw [if_pos ⟨rfl, e⟩, if_pos e]
        · rw [if_neg (fun r => e r.2), if_neg e]
      have e4 : ∀ q, (up3 (z_X5_insert_0 (Int32.ofNat x) (wb B x) y K22) 7 5 4 ((K22 7 5 4) + (1 : Int32))) 7 4 q = if q = p then (wb B x).toInt32 else K22 7 4 q := by
        intro q
        unfold z_X5_insert_0
        rw [up3_at, if_pos rfl, up2_at, if_neg (by omega), up3_at, if_pos rfl, up2_at, yn]
        by_cases e : q = p
        · rw [if_pos ⟨rfl, e⟩, if_pos e]
        · rw [if_neg (fun r => e r.2), if_neg e, up3_at, if_pos rfl, up2_at, if_neg (by omega)]
      intro q hq
      have hq' : q < l.length + 1 := by
        simp at hq
        omega
      rw [e3, e4]
      by_cases e : q = p
      · rw [if_pos e, if_pos e]
        subst e
        have : (l.take q ++ x :: l.drop q)[q] = x := by
          rw [List.getElem_append_right (by simp; omega)]
          simp [Nat.min_eq_left hp]
        rw [this]; exact ⟨rfl, rfl⟩
      · rw [if_neg e, if_neg e]
        by_cases e2 : q < p
        · have : (l.take p ++ x :: l.drop p)[q] = l[q] := by
            rw [List.getElem_append_left (by simp; omega), List.getElem_take]
          rw [this]; exact hlo q (by omega) e2
        · obtain ⟨q', rfl⟩ : ∃ q', q = q' + 1 := ⟨q - 1, by omega⟩
          have : (l.take p ++ x :: l.drop p)[q' + 1] = l[q'] := by
            rw [List.getElem_append_right (by simp; omega)]
            simp only [List.length_take, Nat.min_eq_left hp]
            have h1 : q' + 1 - p = (q' - p) + 1 := by omega
            simp only [h1, List.getElem_cons_succ, List.getElem_drop]
            congr 1; omega
          rw [this]; exact hhi q' (by omega) (by omega)
  intro p
  induction p with
  | zero =>
    intro f y K22 hy hp hf hl hsm hlo hhi hV hD
    obtain ⟨f', rfl⟩ : ∃ f', f = f' + 1 := ⟨f - 1, by omega⟩
    have c : y ≤ 0 := by rw [i_le, show (0 : Int32).toInt = 0 from rfl]; omega
    have r := fin 0 y K22 hy hp hl hsm hlo hhi
    rw [L_X5_insert_22, if_pos c]
    exact ⟨0, hp, hV, fun q _ h => absurd h (Nat.not_lt_zero _), r.1, r.2⟩
  | succ p ih =>
    intro f y K22 hy hp hf hl hsm hlo hhi hV hD
    obtain ⟨f', rfl⟩ : ∃ f', f = f' + 1 := ⟨f - 1, by omega⟩
    have c : ¬ (y ≤ 0) := by rw [i_le, show (0 : Int32).toInt = 0 from rfl]; omega
    have yp := pred_toInt (x := y) (by omega)
    have yn : (y - 1).toNatClampNeg = p := by rw [i_nat, yp.1]; omega
    have ynn : y.toNatClampNeg = p + 1 := by rw [i_nat]; omega
    have hp' : p < l.length := by omega
    have h4 := hlo p hp' (by omega)
    have cm : FP.fcmp ((K22 7 4 (y - 1).toNatClampNeg).toUInt32) (wb B x) = some .lt ↔ wv B l[p] < wv B x := by
      rw [yn, h4.2, toI_toU]
      exact FP.Core.fcmp_lt_key (hv _ (Or.inr (List.getElem_mem hp'))) (hv x (Or.inl rfl))
    by_cases d : wv B l[p] < wv B x
    · have c2 : ¬ ((0 : Int32) ≤ (Op.cmpValue (FP.fcmp ((K22 7 4 (y - (1 : Int32)).toNatClampNeg).toUInt32) (wb B x)) CmpOp.g)) := by
        rw [cmp_g_ge]; exact fun q => q (cm.mpr d)
      rw [L_X5_insert_22, if_neg c, if_neg c2]
      have e2 : z_X5_insert_2 y K22 = up3 (up3 K22 7 3 (p + 1) (K22 7 3 p)) 7 4 (p + 1) (K22 7 4 p) := by
        unfold z_X5_insert_2 z_X5_insert_1
        rw [yn, ynn, toU_toI]
      rw [e2]
      have g3 : ∀ q, up3 (up3 K22 7 3 (p + 1) (K22 7 3 p)) 7 4 (p + 1) (K22 7 4 p) 7 3 q = if q = p + 1 then K22 7 3 p else K22 7 3 q := by
        intro q
        rw [up3_at, if_pos rfl, up2_at, if_neg (by omega), up3_at, if_pos rfl, up2_at]
        by_cases e : q = p + 1
        · rw [if_pos ⟨rfl, e⟩, if_pos e]
        · rw [if_neg (fun r => e r.2), if_neg e]
      have g4 : ∀ q, up3 (up3 K22 7 3 (p + 1) (K22 7 3 p)) 7 4 (p + 1) (K22 7 4 p) 7 4 q = if q = p + 1 then K22 7 4 p else K22 7 4 q := by
        intro q
        rw [up3_at, if_pos rfl, up2_at]
        by_cases e : q = p + 1
        · rw [if_pos ⟨rfl, e⟩, if_pos e]
        · rw [if_neg (fun r => e r.2), if_neg e, up3_at, if_pos rfl, up2_at, if_neg (by omega)]
      refine ih f' (y + -1) _ (by rw [yp.2]; omega) (by omega) (by omega) ?_ (Sm_trans hsm (Sm_trans (Sm_up _ (by omega)) (Sm_up _ (by omega)))) ?_ ?_ ?_ hD
      · rw [up3_at, if_pos rfl, up2_at, if_neg (by omega), up3_at, if_pos rfl, up2_at, if_neg (by omega)]; exact hl
      · intro q hq hqp
        rw [g3, g4, if_neg (by omega), if_neg (by omega)]
        exact hlo q hq (by omega)
      · intro q hq hqp
        rw [g3, g4]
        by_cases e : q = p
        · rw [if_pos (by omega), if_pos (by omega)]
          subst e; exact h4
        · rw [if_neg (by omega), if_neg (by omega)]
          exact hhi q hq (by omega)
      · intro q hq hqp
        by_cases e : q = p
        · subst e; exact d
        · exact hV q hq (by omega)
    · have c2 : ((0 : Int32) ≤ (Op.cmpValue (FP.fcmp ((K22 7 4 (y - (1 : Int32)).toNatClampNeg).toUInt32) (wb B x)) CmpOp.g)) := by
        rw [cmp_g_ge]; exact fun q => d (cm.mp q)
      have r := fin (p + 1) y K22 hy hp hl hsm hlo hhi
      rw [L_X5_insert_22, if_neg c, if_pos c2]
      refine ⟨p + 1, hp, hV, fun q hq h => ?_, r.1, r.2⟩
      have := hD q p hq hp' (by omega)
      omega

theorem nat_of {x : Int32} (h : 0 ≤ x.toInt) : Int32.ofNat x.toNatClampNeg = x := by rw [i_nat]; exact (an_of h).symm
theorem wb_fin {n : Nat} {B : jB} (I : Inv n B) (hN : n ≤ 1000) {k : Nat} (hk : (k : Int) < (B 16 1).toInt) : FP.Core.val32 (wb B k) ≠ FP.Core.Datum.nan := by
  have hs := Inv_s I
  have e : (Int32.ofNat k).toInt = k := an_toInt (by omega)
  exact (mg_fin (worth_fin I hN (i := Int32.ofNat k) (by omega) (by omega)) (by decide)).ne_nan
theorem Rnk_desc {B : jB} {x : Nat} {l : List Nat} (h : Rnk B x l) : ∀ q1 q2 (h1 : q1 < l.length) (h2 : q2 < l.length), q1 ≤ q2 → wv B l[q2] ≤ wv B l[q1] := by
  intro q1 q2 h1 h2 hq
  rcases Nat.lt_or_ge q1 q2 with g | g
  · have := List.pairwise_iff_getElem.mp h.1 q1 q2 h1 h2 g
    unfold bfb at this
    simp at this
    omega
  · have e : q1 = q2 := by omega
    subst e; exact Int.le_refl _
theorem best17 {n : Nat} {K : Nat → jB} (I : Inv n (K 0)) (hN : n ≤ 1000) (K0 : Nat → jB) (r : Int32) (hr : 0 ≤ r.toInt) : ∀ (c f : Nat) (x : Int32) (K17 : Nat → jB) (l : List Nat), 0 ≤ x.toInt → x.toInt + c = (K 0 16 1).toInt → c ≤ f → Sm K K17 → Rnk (K 0) x.toNatClampNeg l → Rk (K 0) K17 l →
    (∃ l', Rnk (K 0) (K 0 16 1).toInt.toNat l' ∧ (L_X7_best_17 K0 r (f + 1) x K17).1 = (if h : r.toInt.toNat < l'.length then Int32.ofNat l'[r.toInt.toNat] else -5) ∧ Sm K (L_X7_best_17 K0 r (f + 1) x K17).2) ∧ NL_X7_best_17 K0 r (f + 1) x K17
  | 0, f, x, K17, l, h0, h1, hf, hsm, hR, hk => by
    have hs := Inv_s I
    have e0 : K17 0 = K 0 := hsm.1 0 (by decide)
    have g : K17 0 16 1 ≤ x := by rw [e0, i_le]; omega
    have ex : x.toNatClampNeg = (K 0 16 1).toInt.toNat := by rw [i_nat]; omega
    have ll := Rnk_len hR
    rw [L_X7_best_17, NL_X7_best_17, if_pos g]
    refine ⟨⟨l, by rw [← ex]; exact hR, ?_, ?_⟩, fun _ => ⟨fun _ => trivial, fun _ => trivial⟩, fun q => absurd g q⟩
    · by_cases q : r.toInt.toNat < l.length
      · rw [if_neg (show ¬ (K17 7 5 4 ≤ r) by rw [i_le, hk.1]; omega), dif_pos q]
        show r_X5_invoiceAt K17 r = _
        unfold r_X5_invoiceAt
        have z0 : (0 : Int32).toInt = 0 := rfl
        have z20 : (20 : Int32).toInt = 20 := rfl
        rw [if_neg (show ¬ (r < 0) by rw [i_lt]; omega), if_pos (show r < 20 by rw [i_lt]; omega)]
        exact (hk.2 r.toInt.toNat q).1
      · rw [if_pos (show K17 7 5 4 ≤ r by rw [i_le, hk.1]; omega), dif_neg q]
    · split <;> exact hsm
  | c + 1, f, x, K17, l, h0, h1, hf, hsm, hR, hk => by
    have hs := Inv_s I
    obtain ⟨f', rfl⟩ : ∃ f', f = f' + 1 := ⟨f - 1, by omega⟩
    have e0 : K17 0 = K 0 := hsm.1 0 (by decide)
    have g : ¬ (K17 0 16 1 ≤ x) := by rw [e0, i_le]; omega
    have xs : (x + 1).toInt = x.toInt + 1 := ii_succ (by omega)
    have xn : (x + 1).toNatClampNeg = x.toNatClampNeg + 1 := nn_succ h0 (by omega)
    rw [L_X7_best_17, NL_X7_best_17, if_neg g, e0]
    by_cases a : r_X0_canPayAhead (K 0) x = 0
    · have ha : Ab (K 0) x.toNatClampNeg = false := by unfold Ab; rw [nat_of h0]; simp [a]
      have ih := best17 I hN K0 r hr c f' (x + 1) K17 l (by omega) (by omega) (by omega) hsm (by rw [xn]; exact Rnk_skip hR ha) hk
      rw [if_pos a]
      exact ⟨ih.1, fun q => absurd q (by rw [e0] at g; exact g), fun _ => ⟨n_canPayAhead I hN x, fun _ => ih.2, fun q => absurd a q⟩⟩
    · have ha : Ab (K 0) x.toNatClampNeg = true := by unfold Ab; rw [nat_of h0]; simp [a]
      have hl := Rnk_len hR
      have hlt : l.length < 20 := by rw [i_nat] at hl; omega
      have hv : ∀ k, (k = x.toNatClampNeg ∨ k ∈ l) → FP.Core.val32 (wb (K 0) k) ≠ FP.Core.Datum.nan := by
        intro k hk'
        refine wb_fin I hN ?_
        rcases hk' with e | e
        · rw [e, i_nat]; omega
        · have := ((Rnk_mem hR k).mp e).1
          rw [i_nat] at this
          omega
      obtain ⟨p', hp', hlo, hhi, hsm', hrk'⟩ := ins_loop (B := K 0) (x := x.toNatClampNeg) (l := l) hv hlt K17 K l.length ((K17 7 5 4).toInt.toNat + 1) (K17 7 5 4) K17 hk.1 (Nat.le_refl _) (by have := hk.1; omega) hk.1 hsm (fun q hq _ => hk.2 q hq) (fun q hq h => absurd hq (by omega)) (fun q hq h => absurd hq (by omega)) (Rnk_desc hR)
      rw [nat_of h0] at hsm' hrk'
      have ew : wb (K 0) x.toNatClampNeg = r_X0_worthOf (K 0) x := by unfold wb; rw [nat_of h0]
      rw [ew] at hsm' hrk'
      have ei : r_X5_insert K17 x (r_X0_worthOf (K 0) x) = L_X5_insert_22 K17 x (r_X0_worthOf (K 0) x) ((K17 7 5 4).toInt.toNat + 1) (K17 7 5 4) K17 := by
        unfold r_X5_insert
        have z0 : (0 : Int32).toInt = 0 := rfl
        have z20 : (20 : Int32).toInt = 20 := rfl
        have := hk.1
        rw [if_neg (show ¬ (K17 7 5 4 < 0) by rw [i_lt]; omega), if_pos (show K17 7 5 4 < 20 by rw [i_lt]; omega)]
      rw [← ei] at hsm' hrk'
      have ih := best17 I hN K0 r hr c f' (x + 1) (r_X5_insert K17 x (r_X0_worthOf (K 0) x)) (l.take p' ++ x.toNatClampNeg :: l.drop p') (by omega) (by omega) (by omega) hsm' (by rw [xn]; exact Rnk_ins hR ha hp' hlo hhi) hrk'
      rw [if_neg a]
      exact ⟨ih.1, fun q => absurd q (by rw [e0] at g; exact g), fun _ => ⟨n_canPayAhead I hN x, fun q => absurd q a, fun _ => ⟨n_worth I hN x, ih.2⟩⟩⟩
