theorem up1_up1 (K : Nat → jB) (b : Nat) (B B' : jB) : up1 (up1 K b B) b B' = up1 K b B' := by
  funext q
  rw [up1_at (up1 K b B), up1_at K b B']
  by_cases e : q = b
  · rw [if_pos e, if_pos e]
  · rw [if_neg e, if_neg e, up1_at, if_neg e]
theorem up1_0 (K : Nat → jB) (b : Nat) (B : jB) : up1 K b B b = B := by rw [up1_at, if_pos rfl]
theorem up1_ne (K : Nat → jB) {b q : Nat} (B : jB) (h : q ≠ b) : up1 K b B q = K q := by rw [up1_at, if_neg h]
theorem fs_acc (g : Nat → Int32) : ∀ (c k : Nat) (a : Int32), fs g a c k = a + fs g 0 c k
  | 0, k, a => by show a = a + 0; grind
  | c + 1, k, a => by
    show fs g (a + g k) c (k + 1) = a + fs g (0 + g k) c (k + 1)
    rw [fs_acc g c (k + 1) (a + g k), fs_acc g c (k + 1) (0 + g k)]
    grind
theorem fs_succ (g : Nat → Int32) : ∀ (c k : Nat), fs g 0 (c + 1) k = fs g 0 c k + g (k + c)
  | 0, k => by show 0 + g k = 0 + g (k + 0); rfl
  | c + 1, k => by
    show fs g (0 + g k) (c + 1) (k + 1) = fs g (0 + g k) c (k + 1) + g (k + (c + 1))
    rw [fs_acc g (c + 1) (k + 1) (0 + g k), fs_acc g c (k + 1) (0 + g k), fs_succ g c (k + 1), show k + 1 + c = k + (c + 1) by omega]
    grind
theorem fs_s0 (g : Nat → Int32) (c : Nat) : fs g 0 (c + 1) 0 = fs g 0 c 0 + g c := by rw [fs_succ, Nat.zero_add]
theorem fs_upd (g : Nat → Int32) {k : Nat} (v : Int32) : ∀ c, k < c → fs (upd g k v) 0 c 0 = fs g 0 c 0 + (v - g k)
  | 0, h => absurd h (Nat.not_lt_zero _)
  | c + 1, h => by
    rw [fs_s0, fs_s0]
    by_cases e : k = c
    · subst e
      have e1 : fs (upd g k v) 0 k 0 = fs g 0 k 0 := fs_congr k 0 0 (fun j _ hj => pk_un (by omega))
      rw [e1, pk_us]; grind
    · rw [fs_upd g v c (by omega), pk_un (fun q => e q.symm)]; grind
theorem fs_out (g : Nat → Int32) {k : Nat} (v : Int32) (c : Nat) (h : c ≤ k) : fs (upd g k v) 0 c 0 = fs g 0 c 0 := fs_congr c 0 0 (fun j _ hj => pk_un (by omega))
theorem fs_add (g h : Nat → Int32) : ∀ c, fs (fun k => g k + h k) 0 c 0 = fs g 0 c 0 + fs h 0 c 0
  | 0 => by show (0 : Int32) = 0 + 0; rfl
  | c + 1 => by rw [fs_s0, fs_s0, fs_s0, fs_add g h c]; grind
theorem fs_sub (g h : Nat → Int32) : ∀ c, fs (fun k => g k - h k) 0 c 0 = fs g 0 c 0 - fs h 0 c 0
  | 0 => by show (0 : Int32) = 0 - 0; rfl
  | c + 1 => by rw [fs_s0, fs_s0, fs_s0, fs_sub g h c]; grind
theorem fs_zero : ∀ c, fs (fun _ => 0) 0 c 0 = 0
  | 0 => rfl
  | c + 1 => by rw [fs_s0, fs_zero c]; rfl
theorem fs_one {q : Nat} (v : Int32) (c : Nat) (h : q < c) : fs (fun k => if k = q then v else 0) 0 c 0 = v := by
  have e := fs_upd (fun _ => 0) (k := q) v c h
  rw [fs_zero] at e
  have e2 : fs (fun k => if k = q then v else 0) 0 c 0 = fs (upd (fun _ => 0) q v) 0 c 0 := rfl
  rw [e2, e]; grind
theorem fs_swap (f : Nat → Nat → Int32) (d : Nat) : ∀ c, fs (fun j => fs (fun k => f j k) 0 c 0) 0 d 0 = fs (fun k => fs (fun j => f j k) 0 d 0) 0 c 0
  | 0 => fs_zero d
  | c + 1 => by
    rw [fs_s0]
    have e : fs (fun j => fs (fun k => f j k) 0 (c + 1) 0) 0 d 0 = fs (fun j => fs (fun k => f j k) 0 c 0 + f j c) 0 d 0 := fs_congr d 0 0 (fun j _ _ => fs_s0 _ c)
    rw [e, fs_add, fs_swap f d c]
/-- the sum of a row -/
def sm (B : jB) (r m : Nat) : Int32 := fs (B r) 0 m 0
def sN (B : jB) : Nat := (B 16 1).toInt.toNat
def mN (B : jB) : Nat := (B 16 0).toInt.toNat
/-- the invoices in a state -/
def ct (B : jB) (a : Int32) : Int32 := fs (fun k => if B 11 k = a then 1 else 0) 0 (sN B) 0
/-- the accounts add up; P is what clients paid for invoices that were ahead -/
def Acc (P : Int32) (B : jB) : Prop := B 16 3 = sm B 1 (mN B) + P + B 16 7 - B 16 4 - B 16 6 ∧ sm B 3 (mN B) = B 16 7 ∧ sm B 2 (mN B) = B 16 5 - P + B 16 4 + B 16 6 - B 16 7
def Ivs (B : jB) : Prop := ∀ k : Nat, (k : Int) < (B 16 1).toInt → (B 12 k = B 9 k ↔ B 11 k = 2) ∧ (B 11 k = 0 → B 13 k = 0) ∧ (B 11 k = 1 → 0 < (B 13 k).toInt)
def Cls (B : jB) : Prop := sm B 4 6 = ct B 2 ∧ sm B 5 6 = ct B 3
def Rng (n : Nat) (B : jB) : Prop := (∀ k : Nat, (k : Int) < (B 16 0).toInt → 0 ≤ (B 1 k).toInt ∧ (B 1 k).toInt ≤ 100000000) ∧ (∀ j, j < 3 → 0 ≤ (B 14 j).toInt) ∧ 0 ≤ (B 16 2).toInt ∧ (B 16 2).toInt ≤ 365 * (n : Int)
def Hst (K : Nat → jB) : Prop := ∃ kn nx : Nat, kn ≤ 4 ∧ nx < 4 ∧ (K 7 5 3).toInt = kn ∧ (K 7 5 2).toInt = nx
def Bok (n : Nat) (P : Int32) (B : jB) : Prop := Inv n B ∧ Acc P B ∧ Ivs B ∧ Cls B ∧ Rng n B
def St (n : Nat) (P : Int32) (K : Nat → jB) : Prop := Bok n P (K 0) ∧ Hst K
theorem Bok_mono {n n' : Nat} {P : Int32} {B : jB} (h : Bok n P B) (hn : n ≤ n') : Bok n' P B := by
  obtain ⟨a, b, c, d, e1, e2, e3, e4⟩ := h
  exact ⟨Inv_mono a hn, b, c, d, e1, e2, e3, by omega⟩
theorem St_mono {n n' : Nat} {P : Int32} {K : Nat → jB} (h : St n P K) (hn : n ≤ n') : St n' P K := ⟨Bok_mono h.1 hn, h.2⟩
theorem St_I {n : Nat} {P : Int32} {K : Nat → jB} (h : St n P K) : Inv n (K 0) := h.1.1
theorem sm_ne {r q : Nat} (h : q ≠ r) (B : jB) (k : Nat) (v : Int32) (m : Nat) : sm (up2 B r k v) q m = sm B q m := by unfold sm; rw [up2_row_ne h]
theorem sm_in (B : jB) (r : Nat) {k m : Nat} (h : k < m) (v : Int32) : sm (up2 B r k v) r m = sm B r m + (v - B r k) := by unfold sm; rw [up2_row]; exact fs_upd _ _ _ h
theorem sm_add (B : jB) (r : Nat) {k m : Nat} (h : k < m) (c : Int32) : sm (up2 B r k (B r k + c)) r m = sm B r m + c := by rw [sm_in B r h]; grind
theorem sN_ne {r k : Nat} (h : ¬ (r = 16 ∧ k = 1)) (B : jB) (v : Int32) : sN (up2 B r k v) = sN B := by unfold sN; rw [up2_at, if_neg (by omega)]
theorem mN_ne {r k : Nat} (h : ¬ (r = 16 ∧ k = 0)) (B : jB) (v : Int32) : mN (up2 B r k v) = mN B := by unfold mN; rw [up2_at, if_neg (by omega)]
theorem ct_ne {r k : Nat} (h : r ≠ 11) (h2 : ¬ (r = 16 ∧ k = 1)) (B : jB) (v a : Int32) : ct (up2 B r k v) a = ct B a := by unfold ct; rw [sN_ne h2, up2_row_ne (Ne.symm h)]
theorem ct_11 (B : jB) {k : Nat} (h : k < sN B) (v a : Int32) : ct (up2 B 11 k v) a = ct B a + ((if v = a then 1 else 0) - (if B 11 k = a then 1 else 0)) := by
  unfold ct
  rw [sN_ne (by omega), up2_row]
  have e : (fun j => if upd (B 11) k v j = a then (1 : Int32) else 0) = upd (fun j => if B 11 j = a then 1 else 0) k (if v = a then 1 else 0) := by
    funext j
    unfold upd
    by_cases q : j = k
    · rw [if_pos q, if_pos q]
    · rw [if_neg q, if_neg q]
  rw [e, fs_upd _ _ _ h]
theorem ct_app {B B' : jB} {v : Int32} (h1 : B' 11 = upd (B 11) (sN B) v) (h2 : sN B' = sN B + 1) (a : Int32) : ct B' a = ct B a + (if v = a then 1 else 0) := by
  unfold ct
  rw [h2, h1, fs_s0, pk_us]
  congr 1
  exact fs_congr _ _ _ (fun j _ hj => by rw [pk_un (by omega)])
theorem ct_eq {B B' : jB} (h1 : B' 11 = B 11) (h2 : B' 16 1 = B 16 1) (a : Int32) : ct B' a = ct B a := by
  unfold ct sN
  rw [h1, h2]
theorem Acc_of {P P' : Int32} {B B' : jB} (A : Acc P B) (x3 x4 x5 x6 x7 y1 y2 y3 p : Int32) (h3 : B' 16 3 = B 16 3 + x3) (h4 : B' 16 4 = B 16 4 + x4) (h5 : B' 16 5 = B 16 5 + x5) (h6 : B' 16 6 = B 16 6 + x6) (h7 : B' 16 7 = B 16 7 + x7)
    (s1 : sm B' 1 (mN B') = sm B 1 (mN B) + y1) (s2 : sm B' 2 (mN B') = sm B 2 (mN B) + y2) (s3 : sm B' 3 (mN B') = sm B 3 (mN B) + y3) (hp : P' = P + p) (e1 : x3 = y1 + p + x7 - x4 - x6) (e2 : y2 = x5 - p + x4 + x6 - x7) (e3 : y3 = x7) : Acc P' B' := by
  obtain ⟨a1, a2, a3⟩ := A
  refine ⟨?_, ?_, ?_⟩
  · rw [h3, h4, h6, h7, s1, hp]; grind
  · rw [s3, h7]; grind
  · rw [s2, h5, h4, h6, h7, hp]; grind
theorem Acc_eq {P : Int32} {B B' : jB} (A : Acc P B) (h : ∀ j, j < 8 → j ≠ 1 → j ≠ 2 → B' 16 j = B 16 j) (r1 : B' 1 = B 1) (r2 : B' 2 = B 2) (r3 : B' 3 = B 3) : Acc P B' := by
  have e := h 0 (by decide) (by decide) (by decide)
  unfold Acc sm mN at *
  rw [h 3 (by decide) (by decide) (by decide), h 4 (by decide) (by decide) (by decide), h 5 (by decide) (by decide) (by decide), h 6 (by decide) (by decide) (by decide), h 7 (by decide) (by decide) (by decide), e, r1, r2, r3]
  exact A
theorem Ivs_eq {B B' : jB} (A : Ivs B) (h : B' 16 1 = B 16 1) (r9 : B' 9 = B 9) (r11 : B' 11 = B 11) (r12 : B' 12 = B 12) (r13 : B' 13 = B 13) : Ivs B' := by
  unfold Ivs at *
  rw [h, r9, r11, r12, r13]
  exact A
theorem Cls_of {B B' : jB} (A : Cls B) (x y : Int32) (s4 : sm B' 4 6 = sm B 4 6 + x) (s5 : sm B' 5 6 = sm B 5 6 + y) (t2 : ct B' 2 = ct B 2 + x) (t3 : ct B' 3 = ct B 3 + y) : Cls B' := by
  unfold Cls at *
  rw [s4, s5, t2, t3, A.1, A.2]
  exact ⟨rfl, rfl⟩
theorem Cls_eq {B B' : jB} (A : Cls B) (r4 : B' 4 = B 4) (r5 : B' 5 = B 5) (r11 : B' 11 = B 11) (h : B' 16 1 = B 16 1) : Cls B' := by
  unfold Cls sm at *
  rw [ct_eq r11 h, ct_eq r11 h, r4, r5]
  exact A
/-- a book with nothing changed that the accounts look at -/
theorem Bok_eq {n : Nat} {P : Int32} {B B' : jB} (h : Bok n P B) (hI : Inv (n + 1) B') (hr : ∀ r, r ≠ 10 → r ≠ 14 → r ≠ 15 → r ≠ 16 → B' r = B r) (h16 : ∀ j, j ≠ 2 → B' 16 j = B 16 j) (hR : Rng (n + 1) B') : Bok (n + 1) P B' := by
  obtain ⟨a, b, c, d, e⟩ := h
  exact ⟨hI, Acc_eq b (fun j _ _ h2 => h16 j h2) (hr 1 (by decide) (by decide) (by decide) (by decide)) (hr 2 (by decide) (by decide) (by decide) (by decide)) (hr 3 (by decide) (by decide) (by decide) (by decide)),
    Ivs_eq c (h16 1 (by decide)) (hr 9 (by decide) (by decide) (by decide) (by decide)) (hr 11 (by decide) (by decide) (by decide) (by decide)) (hr 12 (by decide) (by decide) (by decide) (by decide)) (hr 13 (by decide) (by decide) (by decide) (by decide)),
    Cls_eq d (hr 4 (by decide) (by decide) (by decide) (by decide)) (hr 5 (by decide) (by decide) (by decide) (by decide)) (hr 11 (by decide) (by decide) (by decide) (by decide)) (h16 1 (by decide)), hR⟩
theorem Rng_mono {n n' : Nat} {B : jB} (h : Rng n B) (hn : n ≤ n') : Rng n' B := ⟨h.1, h.2.1, h.2.2.1, by have := h.2.2.2; omega⟩
theorem Rng_eq {n : Nat} {B B' : jB} (h : Rng n B) (s0 : B' 16 0 = B 16 0) (s2 : B' 16 2 = B 16 2) (r1 : B' 1 = B 1) (r14 : B' 14 = B 14) : Rng (n + 1) B' := by
  have h' := Rng_mono h (Nat.le_succ n)
  unfold Rng at *
  rw [s0, s2, r1, r14]
  exact h'
/-- a push: the book stays, the history stays in bounds; and its undoing -/
theorem push_St {K : Nat → jB} (h : Hst K) : n_X2_push_0 K ∧ r_X2_push_0 K 0 = K 0 ∧ ∀ B, Hst (up1 (r_X2_push_0 K) 0 B) := by
  obtain ⟨kn, nx, hk, hn, h3, h2⟩ := h
  have p := push0_psh hn h2 h3 hk
  refine ⟨p.2, by rw [p.1, psh_b _ _ _ _ _ (by decide), if_neg (by omega)], fun B => ?_⟩
  rw [p.1]
  refine ⟨if kn = 4 then 4 else kn + 1, if nx = 3 then 0 else nx + 1, by split <;> omega, by split <;> omega, ?_, ?_⟩
  · rw [up1_ne _ _ (by decide), psh_73 _ _ hn]
    split
    · omega
    · rw [ii_succ (by omega)]; omega
  · rw [up1_ne _ _ (by decide), psh_72 _ _ hn]
    split
    · rfl
    · rw [ii_succ (by omega)]; omega
theorem St_set {n' : Nat} {P : Int32} {K : Nat → jB} {B : jB} (h : Hst K) (hB : Bok n' P B) : St n' P (up1 (r_X2_push_0 K) 0 B) := ⟨by rw [up1_0]; exact hB, (push_St h).2.2 B⟩
theorem pop_psh {K : Nat → jB} {nx kn : Nat} (hn : nx < 4) (h2 : (K 7 5 2).toInt = nx) (h3 : (K 7 5 3).toInt = kn) (hk : 0 < kn) : n_X2_popInto_0 K ∧ r_X2_popInto_0 K = up1 (up3 (up3 K 7 5 2 (if nx = 0 then 3 else K 7 5 2 - 1)) 7 5 3 (K 7 5 3 - 1)) 0 (K (3 + (nx + 3) % 4)) := by
  have d0 := nx_eq h2 0 0 rfl
  have d1 := nx_eq h2 1 1 rfl
  have d2 := nx_eq h2 2 2 rfl
  have d3 := nx_eq h2 3 3 rfl
  have z0 : (0 : Int32).toInt = 0 := rfl
  have hne : ¬ (K 7 5 3 = 0) := by rw [i_eq, h3]; omega
  refine ⟨by unfold n_X2_popInto_0; rw [d0, d1, d2, d3]; omega, ?_⟩
  have g : ∀ (v : Int32) (b : Nat), b ≠ 7 → (up3 (up3 K 7 5 2 v) 7 5 3 (K 7 5 3 - 1)) b = K b := by
    intro v b hb7
    rw [up3_at, if_neg hb7, up3_at, if_neg hb7]
  unfold r_X2_popInto_0
  rcases (by omega : nx = 0 ∨ nx = 1 ∨ nx = 2 ∨ nx = 3) with q | q | q | q <;> subst q
  · rw [if_pos (d0.mpr rfl)]
    unfold r_X2_popInto_0_0 z_X2_popInto_0_0_0
    rw [if_neg hne, g _ 6 (by decide)]; rfl
  · rw [if_neg (fun q => absurd (d0.mp q) (by decide)), if_pos (d1.mpr rfl)]
    unfold r_X2_popInto_0_1 z_X2_popInto_0_1_0
    rw [if_neg hne, g _ 3 (by decide)]; rfl
  · rw [if_neg (fun q => absurd (d0.mp q) (by decide)), if_neg (fun q => absurd (d1.mp q) (by decide)), if_pos (d2.mpr rfl)]
    unfold r_X2_popInto_0_2 z_X2_popInto_0_2_0
    rw [if_neg hne, g _ 4 (by decide)]; rfl
  · rw [if_neg (fun q => absurd (d0.mp q) (by decide)), if_neg (fun q => absurd (d1.mp q) (by decide)), if_neg (fun q => absurd (d2.mp q) (by decide))]
    unfold r_X2_popInto_0_3 z_X2_popInto_0_3_0
    rw [if_neg hne, g _ 5 (by decide)]; rfl
/-- undo behind a push of the book gives the book back -/
theorem undo_push {K : Nat → jB} (h : Hst K) (B : jB) : n_X7_undo (up1 (r_X2_push_0 K) 0 B) ∧ (r_X7_undo (up1 (r_X2_push_0 K) 0 B)).2 0 = K 0 ∧ Hst (r_X7_undo (up1 (r_X2_push_0 K) 0 B)).2 := by
  obtain ⟨kn, nx, hk, hn, h3, h2⟩ := h
  have p := push0_psh hn h2 h3 hk
  rw [p.1]
  have z0 : (0 : Int32).toInt = 0 := rfl
  have z1 : (1 : Int32).toInt = 1 := rfl
  have e3 : (up1 (psh K (K 0) nx (if nx = 3 then 0 else K 7 5 2 + 1) (if kn = 4 then K 7 5 3 else K 7 5 3 + 1)) 0 B 7 5 3).toInt = ((if kn = 4 then 4 else kn + 1 : Nat) : Int) := by
    rw [up1_ne _ _ (by decide), psh_73 _ _ hn]
    split
    · omega
    · rw [ii_succ (by omega)]; omega
  have e2 : (up1 (psh K (K 0) nx (if nx = 3 then 0 else K 7 5 2 + 1) (if kn = 4 then K 7 5 3 else K 7 5 3 + 1)) 0 B 7 5 2).toInt = ((if nx = 3 then 0 else nx + 1 : Nat) : Int) := by
    rw [up1_ne _ _ (by decide), psh_72 _ _ hn]
    split
    · rfl
    · rw [ii_succ (by omega)]; omega
  have eb : up1 (psh K (K 0) nx (if nx = 3 then 0 else K 7 5 2 + 1) (if kn = 4 then K 7 5 3 else K 7 5 3 + 1)) 0 B (3 + nx) = K 0 := by
    rw [up1_ne _ _ (by omega), psh_b _ _ _ _ _ (by omega), if_pos rfl]
  generalize up1 (psh K (K 0) nx (if nx = 3 then 0 else K 7 5 2 + 1) (if kn = 4 then K 7 5 3 else K 7 5 3 + 1)) 0 B = K1 at *
  have hn' : (if nx = 3 then 0 else nx + 1) < 4 := by split <;> omega
  have hk' : 0 < (if kn = 4 then 4 else kn + 1) := by split <;> omega
  have hk4 : (if kn = 4 then 4 else kn + 1) ≤ 4 := by split <;> omega
  have em : 3 + ((if nx = 3 then 0 else nx + 1) + 3) % 4 = 3 + nx := by split <;> omega
  generalize (if nx = 3 then 0 else nx + 1) = nx' at *
  generalize (if kn = 4 then 4 else kn + 1) = kn' at *
  have q := pop_psh hn' e2 e3 hk'
  have hne : ¬ (K1 7 5 3 = 0) := by rw [i_eq, e3]; omega
  refine ⟨⟨fun _ => trivial, fun _ => ⟨q.1, trivial⟩⟩, ?_⟩
  unfold r_X7_undo
  rw [if_neg hne]
  dsimp only
  rw [q.2]
  refine ⟨by rw [up1_0, em]; exact eb, kn' - 1, if nx' = 0 then 3 else nx' - 1, by omega, by split <;> omega, ?_, ?_⟩
  · rw [up1_ne _ _ (by decide), up3_at, if_pos rfl, up2_at, if_pos ⟨rfl, rfl⟩, i_sub] <;> rw [e3, z1] <;> omega
  · rw [up1_ne _ _ (by decide), up3_at, if_pos rfl, up2_at, if_neg (by omega), up3_at, if_pos rfl, up2_at, if_pos ⟨rfl, rfl⟩]
    split
    · rfl
    · rw [i_sub] <;> rw [e2, z1] <;> omega
