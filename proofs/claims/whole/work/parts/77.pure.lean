def wb (B : jB) (k : Nat) : UInt32 := r_X0_worthOf B (Int32.ofNat k)
def wv (B : jB) (k : Nat) : Int := FP.Core.fkey (wb B k)
def bfb (B : jB) (j i : Nat) : Bool := decide (wv B i < wv B j) || (decide (wv B j = wv B i) && decide (j < i))
def Ab (B : jB) (k : Nat) : Bool := decide (r_X0_canPayAhead B (Int32.ofNat k) ≠ 0)
theorem bfb_irr (B : jB) (i : Nat) : bfb B i i = false := by unfold bfb; simp
theorem bfb_asym (B : jB) {i j : Nat} (h : bfb B i j = true) : bfb B j i = false := by
  unfold bfb at *
  simp at *
  omega
theorem bfb_tot (B : jB) {i j : Nat} (h : i ≠ j) : bfb B i j = true ∨ bfb B j i = true := by
  unfold bfb
  simp
  omega
theorem sort_cnt (B : jB) : ∀ (l : List Nat) (r : Nat) (hr : r < l.length), l.Pairwise (fun a b => bfb B a b = true) → l.countP (fun j => bfb B j l[r]) = r
  | [], r, hr, _ => absurd hr (Nat.not_lt_zero _)
  | y :: t, 0, hr, h => by
    have h' := List.pairwise_cons.mp h
    show (y :: t).countP (fun j => bfb B j y) = 0
    rw [List.countP_cons, if_neg (by rw [bfb_irr]; decide), Nat.add_zero, List.countP_eq_zero]
    intro z hz
    rw [bfb_asym B (h'.1 z hz)]; decide
  | y :: t, r + 1, hr, h => by
    have h' := List.pairwise_cons.mp h
    have hr' : r < t.length := by simpa using hr
    show (y :: t).countP (fun j => bfb B j t[r]) = r + 1
    rw [List.countP_cons, if_pos (h'.1 _ (List.getElem_mem hr')), sort_cnt B t r hr' h'.2]
theorem fs_cnt (P : Nat → Bool) : ∀ (c k : Nat) (a : Int32), 0 ≤ a.toInt → a.toInt + c < 2147483647 → (fs (fun j => if P j = true then 1 else 0) a c k).toInt = a.toInt + ((List.range' k c).countP P : Nat)
  | 0, k, a, _, _ => by simp [fs]
  | c + 1, k, a, h0, h1 => by
    have z1 : (1 : Int32).toInt = 1 := rfl
    have z0 : (0 : Int32).toInt = 0 := rfl
    rw [List.range'_succ, List.countP_cons]
    show (fs _ (a + (if P k = true then 1 else 0)) c (k + 1)).toInt = _
    by_cases p : P k = true
    · rw [if_pos p, if_pos p, fs_cnt P c (k + 1) (a + 1) (by rw [ii_succ (by omega)]; omega) (by rw [ii_succ (by omega)]; omega), ii_succ (by omega)]
      omega
    · rw [if_neg p, if_neg p, add_zero32, fs_cnt P c (k + 1) a h0 (by omega)]
      omega
/-- how many come before i -/
def rk (B : jB) (N i : Nat) : Nat := (List.range N).countP (fun j => Ab B j && bfb B j i)
theorem rk_filter (B : jB) (N i : Nat) : rk B N i = ((List.range N).filter (Ab B)).countP (fun j => bfb B j i) := by
  unfold rk
  rw [List.countP_filter]
  congr 1
  funext j
  exact Bool.and_comm _ _
/-- a ranking of the first x -/
def Rnk (B : jB) (x : Nat) (l : List Nat) : Prop := l.Pairwise (fun a b => bfb B a b = true) ∧ (∀ P : Nat → Bool, l.countP P = ((List.range x).filter (Ab B)).countP P)
theorem Rnk_mem {B : jB} {x : Nat} {l : List Nat} (h : Rnk B x l) (y : Nat) : y ∈ l ↔ y < x ∧ Ab B y = true := by
  have := h.2 (fun z => z == y)
  have e1 : 0 < l.countP (fun z => z == y) ↔ y ∈ l := by
    rw [List.countP_pos_iff]
    exact ⟨fun ⟨a, ha, hb⟩ => by rw [← (beq_iff_eq.mp hb)]; exact ha, fun ha => ⟨y, ha, by simp⟩⟩
  have e2 : 0 < ((List.range x).filter (Ab B)).countP (fun z => z == y) ↔ y < x ∧ Ab B y = true := by
    rw [List.countP_pos_iff]
    constructor
    · rintro ⟨a, ha, hb⟩
      have := beq_iff_eq.mp hb
      subst this
      simpa using ha
    · intro ha
      exact ⟨y, by simpa using ha, by simp⟩
  rw [← e1, this, e2]
theorem Rnk_len {B : jB} {x : Nat} {l : List Nat} (h : Rnk B x l) : l.length ≤ x := by
  have := h.2 (fun _ => true)
  rw [List.countP_true] at this
  rw [this]
  exact Nat.le_trans (List.length_filter_le _ _) (by simp)
theorem Rnk_nil (B : jB) : Rnk B 0 [] := ⟨List.Pairwise.nil, fun P => by simp⟩
theorem Rnk_skip {B : jB} {x : Nat} {l : List Nat} (h : Rnk B x l) (hx : Ab B x = false) : Rnk B (x + 1) l := by
  refine ⟨h.1, fun P => ?_⟩
  rw [h.2 P, List.range_succ, List.filter_append]
  simp [hx]
theorem Rnk_ins {B : jB} {x p : Nat} {l : List Nat} (h : Rnk B x l) (hx : Ab B x = true) (hp : p ≤ l.length) (hlo : ∀ q (hq : q < l.length), p ≤ q → wv B l[q] < wv B x) (hhi : ∀ q (hq : q < l.length), q < p → wv B x ≤ wv B l[q]) : Rnk B (x + 1) (l.take p ++ x :: l.drop p) := by
  have hlt : ∀ y ∈ l, y < x := fun y hy => ((Rnk_mem h y).mp hy).1
  refine ⟨?_, fun P => ?_⟩
  · rw [List.pairwise_append]
    refine ⟨h.1.sublist (List.take_sublist _ _), ?_, ?_⟩
    · rw [List.pairwise_cons]
      refine ⟨fun y hy => ?_, h.1.sublist (List.drop_sublist _ _)⟩
      obtain ⟨q, hq, rfl⟩ := List.mem_iff_getElem.mp hy
      rw [List.getElem_drop]
      have hq' : p + q < l.length := by rw [List.length_drop] at hq; omega
      have := hlo (p + q) hq' (by omega)
      unfold bfb
      simp [this]
    · intro a ha b hb
      obtain ⟨q, hq, rfl⟩ := List.mem_iff_getElem.mp ha
      have hq2 : q < l.length ∧ q < p := by rw [List.length_take] at hq; omega
      rw [List.getElem_take]
      have h1 := hhi q hq2.1 hq2.2
      have h2 := hlt l[q] (List.getElem_mem hq2.1)
      rcases List.mem_cons.mp hb with e | e
      · subst e
        unfold bfb
        simp
        omega
      · obtain ⟨q2, hq3, rfl⟩ := List.mem_iff_getElem.mp e
        rw [List.getElem_drop]
        have hq4 : p + q2 < l.length := by rw [List.length_drop] at hq3; omega
        exact List.pairwise_iff_getElem.mp h.1 q (p + q2) hq2.1 hq4 (by omega)
  · rw [List.countP_append, List.countP_cons, List.range_succ, List.filter_append, List.countP_append, ← h.2 P]
    have e : l.countP P = (l.take p).countP P + (l.drop p).countP P := by
      conv => lhs; rw [← List.take_append_drop p l, List.countP_append]
    rw [e]
    simp [hx, List.countP_cons]
    omega
