def His (n : Nat) (K : Nat → jB) (M : jB) : Prop := ∃ kn nx : Nat, kn ≤ 4 ∧ nx < 4 ∧ (K 7 5 3).toInt = kn ∧ (K 7 5 2).toInt = nx ∧ M 6 0 = K 7 5 3 ∧ ∀ j, j < kn → LB (fun p => M 2 (204 * j + p)) (K (3 + (nx + 4 - kn + j) % 4)) ∧ Inv n (K (3 + (nx + 4 - kn + j) % 4))
def Kept (n : Nat) (K : Nat → jB) (M : jB) : Prop := M 6 1 = K 7 5 5 ∧ (K 7 5 5 ≠ 0 → LB (M 3) (K 2) ∧ Inv n (K 2))
def Txt (K : Nat → jB) (M : jB) : Prop := M 6 2 = K 7 5 0 ∧ (0 ≤ (K 7 5 0).toInt ∧ (K 7 5 0).toInt ≤ 60) ∧ ∀ j : Nat, (j : Int) < (K 7 5 0).toInt → M 4 j = K 7 0 j ∧ 0 ≤ (K 7 0 j).toInt ∧ (K 7 0 j).toInt ≤ 65535
def Ref (K : Nat → jB) (M : jB) : Prop := (K 7 5 7 = 0 ∧ M 6 3 = -5 ∧ M 6 4 = -5) ∨ (K 7 5 7 ≠ 0 ∧ M 6 3 = K 7 5 6 ∧ M 6 4 = K 7 5 7)
def Rel (n : Nat) (K : Nat → jB) (M : jB) : Prop := LB (M 0) (K 0) ∧ Inv n (K 0) ∧ His n K M ∧ Kept n K M ∧ Txt K M ∧ Ref K M
theorem His_mono {n n' : Nat} {K : Nat → jB} {M : jB} (h : His n K M) (hn : n ≤ n') : His n' K M := by
  obtain ⟨kn, nx, a, b, c, d, e, f⟩ := h
  exact ⟨kn, nx, a, b, c, d, e, fun j hj => ⟨(f j hj).1, Inv_mono (f j hj).2 hn⟩⟩
theorem Kept_mono {n n' : Nat} {K : Nat → jB} {M : jB} (h : Kept n K M) (hn : n ≤ n') : Kept n' K M := ⟨h.1, fun q => ⟨(h.2 q).1, Inv_mono (h.2 q).2 hn⟩⟩
theorem Rel_mono {n n' : Nat} {K : Nat → jB} {M : jB} (h : Rel n K M) (hn : n ≤ n') : Rel n' K M := ⟨h.1, Inv_mono h.2.1 hn, His_mono h.2.2.1 hn, Kept_mono h.2.2.2.1 hn, h.2.2.2.2.1, h.2.2.2.2.2⟩
theorem R_L {n : Nat} {K : Nat → jB} {M : jB} (h : Rel n K M) : LB (M 0) (K 0) := h.1
theorem R_I {n : Nat} {K : Nat → jB} {M : jB} (h : Rel n K M) : Inv n (K 0) := h.2.1
theorem R_H {n : Nat} {K : Nat → jB} {M : jB} (h : Rel n K M) : His n K M := h.2.2.1
theorem R_K {n : Nat} {K : Nat → jB} {M : jB} (h : Rel n K M) : Kept n K M := h.2.2.2.1
theorem R_T {n : Nat} {K : Nat → jB} {M : jB} (h : Rel n K M) : Txt K M := h.2.2.2.2.1
theorem R_R {n : Nat} {K : Nat → jB} {M : jB} (h : Rel n K M) : Ref K M := h.2.2.2.2.2
/-- the parts of the relation look only at some rows -/
theorem His_congr {n : Nat} {K K' : Nat → jB} {M M' : jB} (h : His n K M) (e2 : K' 7 5 2 = K 7 5 2) (e3 : K' 7 5 3 = K 7 5 3) (eb : ∀ b, 3 ≤ b → b < 7 → K' b = K b) (m6 : M' 6 0 = M 6 0) (m2 : M' 2 = M 2) : His n K' M' := by
  obtain ⟨kn, nx, a, b, c, d, e, f⟩ := h
  refine ⟨kn, nx, a, b, by rw [e3]; exact c, by rw [e2]; exact d, by rw [m6, e3]; exact e, fun j hj => ?_⟩
  rw [eb _ (by omega) (by omega), m2]
  exact f j hj
theorem Kept_congr {n : Nat} {K K' : Nat → jB} {M M' : jB} (h : Kept n K M) (e5 : K' 7 5 5 = K 7 5 5) (eb : K' 2 = K 2) (m6 : M' 6 1 = M 6 1) (m3 : M' 3 = M 3) : Kept n K' M' := by
  unfold Kept at *
  rw [e5, eb, m6, m3]; exact h
theorem Txt_congr {K K' : Nat → jB} {M M' : jB} (h : Txt K M) (e0 : K' 7 0 = K 7 0) (e5 : K' 7 5 0 = K 7 5 0) (m6 : M' 6 2 = M 6 2) (m4 : M' 4 = M 4) : Txt K' M' := by
  unfold Txt at *
  rw [e0, e5, m6, m4]; exact h
theorem Ref_congr {K K' : Nat → jB} {M M' : jB} (h : Ref K M) (e6 : K' 7 5 6 = K 7 5 6) (e7 : K' 7 5 7 = K 7 5 7) (m3 : M' 6 3 = M 6 3) (m4 : M' 6 4 = M 6 4) : Ref K' M' := by
  unfold Ref at *
  rw [e6, e7, m3, m4]; exact h
theorem psh_7 (K : Nat → jB) (S : jB) {nx : Nat} (hn : nx < 4) (a b : Int32) (r k : Nat) (h : ¬ (r = 5 ∧ (k = 2 ∨ k = 3))) : psh K S nx a b 7 r k = K 7 r k := by
  unfold psh
  rw [up3_at, if_pos rfl, up2_at, if_neg (by omega), up3_at, if_pos rfl, up2_at, if_neg (by omega), up1_at, if_neg (by omega)]
theorem psh_72 (K : Nat → jB) (S : jB) {nx : Nat} (hn : nx < 4) (a b : Int32) : psh K S nx a b 7 5 2 = a := by
  unfold psh
  rw [up3_at, if_pos rfl, up2_at, if_neg (by omega), up3_at, if_pos rfl, up2_at, if_pos ⟨rfl, rfl⟩]
theorem psh_73 (K : Nat → jB) (S : jB) {nx : Nat} (hn : nx < 4) (a b : Int32) : psh K S nx a b 7 5 3 = b := by
  unfold psh
  rw [up3_at, if_pos rfl, up2_at, if_pos ⟨rfl, rfl⟩]
theorem psh_b (K : Nat → jB) (S : jB) (nx : Nat) (a b : Int32) {q : Nat} (h : q ≠ 7) : psh K S nx a b q = if q = 3 + nx then S else K q := by
  unfold psh
  rw [up3_at, if_neg h, up3_at, if_neg h, up1_at]
/-- the history takes a book that the reference's row s holds -/
theorem R_push {n : Nat} {K : Nat → jB} {M : jB} {S : jB} (hs : LB (M 0) S) (iS : Inv n S) (hH : His n K M) : ∃ nx kn : Nat, nx < 4 ∧ kn ≤ 4 ∧ (K 7 5 2).toInt = nx ∧ (K 7 5 3).toInt = kn ∧ n_X8_know M ∧ His n (psh K S nx (if nx = 3 then 0 else K 7 5 2 + 1) (if kn = 4 then K 7 5 3 else K 7 5 3 + 1)) (r_X8_know M) := by
  obtain ⟨kn, nx, hk, hn, h3, h2, hm, hb⟩ := hH
  have hm' : (M 6 0).toInt = kn := by rw [hm]; exact h3
  obtain ⟨k1, k2, k3, k4, k5⟩ := know_at hk hm'
  have z4 : (4 : Int32).toInt = 4 := rfl
  have z0 : (0 : Int32).toInt = 0 := rfl
  refine ⟨nx, kn, hn, hk, h2, h3, ⟨by rw [i_le]; omega, by rw [i_le]; omega, trivial⟩, min 4 (kn + 1), (nx + 1) % 4, by omega, by omega, ?_, ?_, ?_, ?_⟩
  · rw [psh_73 K S hn]
    by_cases e : kn = 4
    · rw [if_pos e]; omega
    · rw [if_neg e, ii_succ (by omega)]; omega
  · rw [psh_72 K S hn]
    by_cases e : nx = 3
    · rw [if_pos e]; omega
    · rw [if_neg e, ii_succ (by omega)]; omega
  · rw [psh_73 K S hn, i_eq, k3]
    by_cases e : kn = 4
    · rw [if_pos e]; omega
    · rw [if_neg e, ii_succ (by omega)]; omega
  · intro j hj
    have hq : 3 + ((nx + 1) % 4 + 4 - min 4 (kn + 1) + j) % 4 ≠ 7 := by omega
    rw [psh_b K S nx _ _ hq]
    by_cases e : j = min 3 kn
    · have e1 : 3 + ((nx + 1) % 4 + 4 - min 4 (kn + 1) + j) % 4 = 3 + nx := by omega
      rw [if_pos e1]
      refine ⟨?_, iS⟩
      intro p hp
      show r_X8_know M 2 (204 * j + p) = _
      rw [e, k5 p hp]
      exact hs p hp
    · have e1 : ¬ (3 + ((nx + 1) % 4 + 4 - min 4 (kn + 1) + j) % 4 = 3 + nx) := by omega
      rw [if_neg e1]
      have e2 : ((nx + 1) % 4 + 4 - min 4 (kn + 1) + j) % 4 = (nx + 4 - kn + (j + kn - min 3 kn)) % 4 := by omega
      rw [e2]
      have := hb (j + kn - min 3 kn) (by omega)
      refine ⟨?_, this.2⟩
      intro p hp
      show r_X8_know M 2 (204 * j + p) = _
      rw [k4 j p hp (by omega)]
      exact this.1 p hp
theorem know_row {n : Nat} {K : Nat → jB} {M : jB} (hH : His n K M) : (∀ r, r ≠ 2 → r ≠ 6 → r_X8_know M r = M r) ∧ (∀ j, j ≠ 0 → r_X8_know M 6 j = M 6 j) := by
  obtain ⟨kn, nx, hk, hn, h3, h2, hm, hb⟩ := hH
  have hm' : (M 6 0).toInt = kn := by rw [hm]; exact h3
  obtain ⟨k1, k2, k3, k4, k5⟩ := know_at hk hm'
  exact ⟨fun r h1 h2 => funext fun j => k1 r j h1 h2, k2⟩
/-- push of the book that now is -/
theorem R_push0 {n : Nat} {K : Nat → jB} {M : jB} (h : Rel n K M) : Rel n (r_X2_push_0 K) (r_X8_know M) ∧ n_X2_push_0 K ∧ n_X8_know M ∧ r_X2_push_0 K 0 = K 0 ∧ r_X2_push_0 K 2 = K 2 ∧ r_X8_know M 0 = M 0 ∧ r_X8_know M 3 = M 3 ∧ r_X8_know M 6 1 = M 6 1 := by
  obtain ⟨nx, kn, hn, hk, h2, h3, nk, hh⟩ := R_push (R_L h) (R_I h) (R_H h)
  have hp := push0_psh hn h2 h3 hk
  have hr := know_row (R_H h)
  rw [hp.1]
  refine ⟨⟨?_, ?_, hh, ?_, ?_, ?_⟩, hp.2, nk, ?_, ?_, hr.1 0 (by decide) (by decide), hr.1 3 (by decide) (by decide), hr.2 1 (by decide)⟩
  · rw [psh_b _ _ _ _ _ (by decide), if_neg (by omega), hr.1 0 (by decide) (by decide)]; exact R_L h
  · rw [psh_b _ _ _ _ _ (by decide), if_neg (by omega)]; exact R_I h
  · exact Kept_congr (R_K h) (psh_7 _ _ hn _ _ _ _ (by omega)) (by rw [psh_b _ _ _ _ _ (by decide), if_neg (by omega)]) (hr.2 1 (by decide)) (hr.1 3 (by decide) (by decide))
  · exact Txt_congr (R_T h) (funext fun k => psh_7 _ _ hn _ _ _ _ (by omega)) (psh_7 _ _ hn _ _ _ _ (by omega)) (hr.2 2 (by decide)) (hr.1 4 (by decide) (by decide))
  · exact Ref_congr (R_R h) (psh_7 _ _ hn _ _ _ _ (by omega)) (psh_7 _ _ hn _ _ _ _ (by omega)) (hr.2 3 (by decide)) (hr.2 4 (by decide))
  · rw [psh_b _ _ _ _ _ (by decide), if_neg (by omega)]
  · rw [psh_b _ _ _ _ _ (by decide), if_neg (by omega)]
/-- the book that now is, changed -/
theorem R_set {n n' : Nat} {K : Nat → jB} {M M' : jB} {B : jB} (h : Rel n K M) (hn : n ≤ n') (hL : LB (M' 0) B) (hI : Inv n' B) (m2 : M' 2 = M 2) (m3 : M' 3 = M 3) (m4 : M' 4 = M 4) (m6 : ∀ j, j < 5 → M' 6 j = M 6 j) : Rel n' (up1 K 0 B) M' := by
  have e : ∀ b, b ≠ 0 → up1 K 0 B b = K b := fun b hb => by rw [up1_at, if_neg hb]
  have e0 : up1 K 0 B 0 = B := by rw [up1_at, if_pos rfl]
  have e7 := e 7 (by decide)
  refine ⟨by rw [e0]; exact hL, by rw [e0]; exact hI, ?_, ?_, ?_, ?_⟩
  · exact His_congr (His_mono (R_H h) hn) (by rw [e7]) (by rw [e7]) (fun b h1 _ => e b (by omega)) (m6 0 (by decide)) m2
  · exact Kept_congr (Kept_mono (R_K h) hn) (by rw [e7]) (e 2 (by decide)) (m6 1 (by decide)) m3
  · exact Txt_congr (R_T h) (by rw [e7]) (by rw [e7]) (m6 2 (by decide)) m4
  · exact Ref_congr (R_R h) (by rw [e7]) (by rw [e7]) (m6 3 (by decide)) (m6 4 (by decide))
