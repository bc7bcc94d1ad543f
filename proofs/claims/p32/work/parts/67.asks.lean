theorem n_invoice {n : Nat} {K : Nat → jB} (hI : Inv n (K 0)) (hN : n ≤ 1000) (i w : Int32) : n_X7_invoice K i w :=
  ⟨fun _ => trivial, fun _ => ⟨fun _ => trivial, fun _ => ⟨fun _ => trivial, fun _ => ⟨fun _ => trivial, fun _ => ⟨fun _ => trivial, fun _ => ⟨fun _ => trivial, fun _ => ⟨fun _ => trivial, fun _ => ⟨fun _ => trivial, fun _ => ⟨fun _ => trivial, fun _ => ⟨fun _ => ⟨n_offer hI hN i 0, trivial⟩, fun _ => ⟨fun _ => ⟨n_canPayAhead hI hN i, fun _ => trivial, fun _ => trivial⟩, fun _ => ⟨fun _ => ⟨fun _ => trivial, fun _ => trivial⟩, fun _ => trivial⟩⟩⟩⟩⟩⟩⟩⟩⟩⟩⟩⟩
section IVR
variable {n : Nat} {K : Nat → jB} {i : Int32}
theorem iv_no (h : r_X3_has (K 0) i = 0) (w : Int32) : r_X7_invoice K i w = -1 := by unfold r_X7_invoice; rw [if_pos h]
theorem iv_2 (h : r_X3_has (K 0) i = 1) : r_X7_invoice K i 2 = K 0 9 i.toNatClampNeg := by
  unfold r_X7_invoice
  rw [if_neg (show ¬ (r_X3_has (K 0) i = 0) by rw [h]; exact one_ne), if_neg (by decide), if_neg (by decide), if_pos rfl]
theorem iv_4 (h : r_X3_has (K 0) i = 1) : r_X7_invoice K i 4 = K 0 11 i.toNatClampNeg := by
  unfold r_X7_invoice
  rw [if_neg (show ¬ (r_X3_has (K 0) i = 0) by rw [h]; exact one_ne), if_neg (by decide), if_neg (by decide), if_neg (by decide), if_neg (by decide), if_pos rfl]
theorem iv_5 (h : r_X3_has (K 0) i = 1) : r_X7_invoice K i 5 = K 0 12 i.toNatClampNeg := by
  unfold r_X7_invoice
  rw [if_neg (show ¬ (r_X3_has (K 0) i = 0) by rw [h]; exact one_ne), if_neg (by decide), if_neg (by decide), if_neg (by decide), if_neg (by decide), if_neg (by decide), if_pos rfl]
theorem iv_6 (h : r_X3_has (K 0) i = 1) : r_X7_invoice K i 6 = K 0 13 i.toNatClampNeg := by
  unfold r_X7_invoice
  rw [if_neg (show ¬ (r_X3_has (K 0) i = 0) by rw [h]; exact one_ne), if_neg (by decide), if_neg (by decide), if_neg (by decide), if_neg (by decide), if_neg (by decide), if_neg (by decide), if_pos rfl]
theorem iv_8 (h : r_X3_has (K 0) i = 1) : r_X7_invoice K i 8 = r_X0_offerAfter (K 0) i 0 := by
  unfold r_X7_invoice
  rw [if_neg (show ¬ (r_X3_has (K 0) i = 0) by rw [h]; exact one_ne), if_neg (by decide), if_neg (by decide), if_neg (by decide), if_neg (by decide), if_neg (by decide), if_neg (by decide), if_neg (by decide), if_neg (by decide), if_pos rfl]
theorem iv_9 (h : r_X3_has (K 0) i = 1) : r_X7_invoice K i 9 = if r_X0_canPayAhead (K 0) i = 0 then 0 else 1 := by
  unfold r_X7_invoice
  rw [if_neg (show ¬ (r_X3_has (K 0) i = 0) by rw [h]; exact one_ne), if_neg (by decide), if_neg (by decide), if_neg (by decide), if_neg (by decide), if_neg (by decide), if_neg (by decide), if_neg (by decide), if_neg (by decide), if_neg (by decide), if_pos rfl]
end IVR
/-- the invoices that can be paid ahead -/
def pb (B : jB) : Int32 := fs (fun j => if Ab B j = true then 1 else 0) 0 (sN B) 0
def rkp (B : jB) (x : Nat) : Nat := ((List.range (sN B)).filter (Ab B)).countP (fun j => bfb B j x)
theorem Rnk_pb {n : Nat} {B : jB} (I : Inv n B) {l : List Nat} (h : Rnk B (sN B) l) : (pb B).toInt = l.length := by
  have hs := Inv_s I
  have z0 : (0 : Int32).toInt = 0 := rfl
  have e := fs_cnt (Ab B) (sN B) 0 0 (by decide) (by unfold sN; omega)
  have e2 := h.2 (fun _ => true)
  rw [List.countP_true] at e2
  try rw [List.countP_true] at e2
  unfold pb
  rw [e, z0, e2, List.range_eq_range', List.countP_eq_length_filter]
  omega
theorem C_best {n : Nat} {K : Nat → jB} (hI : Inv n (K 0)) (hN : n ≤ 1000) (r : Int32) (hr : 0 ≤ r.toInt) : n_X7_best K r ∧ Sm K (r_X7_best K r).2 ∧ ∃ l', Rnk (K 0) (sN (K 0)) l' ∧ (r_X7_best K r).1 = (if h : r.toInt.toNat < l'.length then Int32.ofNat l'[r.toInt.toNat] else -5) := by
  have hs := Inv_s hI
  have z0 : (0 : Int32).toInt = 0 := rfl
  have q : (0 : Int32) ≤ r := by rw [i_le]; omega
  unfold n_X7_best r_X7_best
  rw [if_pos q]
  have hsm : Sm K (up3 K 7 5 4 0) := Sm_up 0 (by omega)
  have hrk : Rk (K 0) (up3 K 7 5 4 0) [] := ⟨by rw [up3_at, if_pos rfl, up2_at, if_pos ⟨rfl, rfl⟩]; rfl, fun q hq => absurd hq (Nat.not_lt_zero _)⟩
  obtain ⟨⟨l', hR, e1, e2⟩, nl⟩ := best17 hI hN K r hr (K 0 16 1).toInt.toNat (((K 0 16 1).toInt - (0 : Int32).toInt).toNat) 0 (up3 K 7 5 4 0) [] (by decide) (by rw [z0]; omega) (by omega) hsm (Rnk_nil _) hrk
  exact ⟨⟨fun _ => nl, fun p => absurd q p⟩, e2, l', hR, e1⟩
theorem best_in {n : Nat} {K : Nat → jB} (hI : Inv n (K 0)) (hN : n ≤ 1000) (r : Int32) (hr : 0 ≤ r.toInt) (hb : r.toInt < (pb (K 0)).toInt) : ∃ x : Nat, (r_X7_best K r).1 = Int32.ofNat x ∧ x < sN (K 0) ∧ Ab (K 0) x = true ∧ rkp (K 0) x = r.toInt.toNat := by
  obtain ⟨-, -, l', hR, e⟩ := C_best hI hN r hr
  have hp := Rnk_pb hI hR
  have d : r.toInt.toNat < l'.length := by omega
  rw [dif_pos d] at e
  have hm := (Rnk_mem hR _).mp (List.getElem_mem d)
  have hc := sort_cnt (K 0) l' r.toInt.toNat d hR.1
  rw [hR.2] at hc
  exact ⟨_, e, hm.1, hm.2, hc⟩
theorem best_out {n : Nat} {K : Nat → jB} (hI : Inv n (K 0)) (hN : n ≤ 1000) (r : Int32) (hr : 0 ≤ r.toInt) (hb : (pb (K 0)).toInt ≤ r.toInt) : (r_X7_best K r).1 = -5 := by
  obtain ⟨-, -, l', hR, e⟩ := C_best hI hN r hr
  have hp := Rnk_pb hI hR
  rw [dif_neg (by omega)] at e
  exact e
/-- in how many days an offer is nothing -/
theorem wl_loop (K : Nat → jB) (i : Int32) : ∀ (c f : Nat) (x : Int32), 0 ≤ x.toInt → x.toInt + c = 1001 → c ≤ f → (∀ y : Int32, 0 ≤ y.toInt → y.toInt < x.toInt → r_X0_offerAfter (K 0) i y ≠ 0) →
    (L_X7_worthlessIn_18 K i (f + 1) x = -5 ∧ ∀ y : Int32, 0 ≤ y.toInt → y.toInt ≤ 1000 → r_X0_offerAfter (K 0) i y ≠ 0) ∨ (0 ≤ (L_X7_worthlessIn_18 K i (f + 1) x).toInt ∧ (L_X7_worthlessIn_18 K i (f + 1) x).toInt ≤ 1000 ∧ r_X0_offerAfter (K 0) i (L_X7_worthlessIn_18 K i (f + 1) x) = 0 ∧ ∀ y : Int32, 0 ≤ y.toInt → y.toInt < (L_X7_worthlessIn_18 K i (f + 1) x).toInt → r_X0_offerAfter (K 0) i y ≠ 0)
  | 0, f, x, h0, h1, hf, hy => by
    have z : (1000 : Int32).toInt = 1000 := rfl
    rw [L_X7_worthlessIn_18, if_pos (by rw [i_lt]; omega)]
    exact Or.inl ⟨rfl, fun y y0 y1 => hy y y0 (by omega)⟩
  | c + 1, f, x, h0, h1, hf, hy => by
    have z : (1000 : Int32).toInt = 1000 := rfl
    obtain ⟨f', rfl⟩ : ∃ f', f = f' + 1 := ⟨f - 1, by omega⟩
    rw [L_X7_worthlessIn_18, if_neg (by rw [i_lt]; omega)]
    by_cases a : r_X0_offerAfter (K 0) i x = 0
    · rw [if_pos a]
      exact Or.inr ⟨h0, by omega, a, hy⟩
    · rw [if_neg a]
      have xs : (x + 1).toInt = x.toInt + 1 := ii_succ (by omega)
      refine wl_loop K i c f' (x + 1) (by omega) (by omega) (by omega) (fun y y0 y1 => ?_)
      by_cases e : y = x
      · rw [e]; exact a
      · rw [i_eq] at e; exact hy y y0 (by omega)
theorem n_worthless {n : Nat} {K : Nat → jB} (hI : Inv n (K 0)) (hN : n ≤ 1000) (i : Int32) : n_X7_worthlessIn K i := by
  have h : ∀ (f : Nat) (x : Int32), NL_X7_worthlessIn_18 K i f x := by
    intro f
    induction f with
    | zero => intro x; trivial
    | succ f ih =>
      intro x
      rw [NL_X7_worthlessIn_18]
      exact ⟨fun _ => trivial, fun _ => ⟨n_offer hI hN i x, fun _ => trivial, fun _ => ih _⟩⟩
  exact ⟨fun _ => trivial, fun _ => h _ _⟩
theorem wl_of (K : Nat → jB) {i : Int32} (h : r_X3_has (K 0) i = 1) : (r_X7_worthlessIn K i = -5 ∧ ∀ y : Int32, 0 ≤ y.toInt → y.toInt ≤ 1000 → r_X0_offerAfter (K 0) i y ≠ 0) ∨ (0 ≤ (r_X7_worthlessIn K i).toInt ∧ (r_X7_worthlessIn K i).toInt ≤ 1000 ∧ r_X0_offerAfter (K 0) i (r_X7_worthlessIn K i) = 0 ∧ ∀ y : Int32, 0 ≤ y.toInt → y.toInt < (r_X7_worthlessIn K i).toInt → r_X0_offerAfter (K 0) i y ≠ 0) := by
  have z : (0 : Int32).toInt = 0 := rfl
  have w := wl_loop K i 1001 1001 0 (by decide) (by rw [z]; rfl) (Nat.le_refl _) (fun y y0 y1 => absurd y1 (by omega))
  have e : r_X7_worthlessIn K i = L_X7_worthlessIn_18 K i (1001 + 1) 0 := by
    unfold r_X7_worthlessIn
    rw [if_neg (show ¬ (r_X3_has (K 0) i = 0) by rw [h]; exact one_ne)]
  rw [e]
  exact w
/-- an offer some days on is the offer behind so many days -/
theorem offer_day {B : jB} {i : Int32} (h : r_X3_has B i = 1) (d : Int32) : r_X0_offerAfter (up2 B 16 2 (B 16 2 + d)) i 0 = r_X0_offerAfter B i d := by
  have hh : r_X3_has (up2 B 16 2 (B 16 2 + d)) i = 1 := by rw [has3_sz (show up2 B 16 2 (B 16 2 + d) 16 1 = B 16 1 by rw [up2_at, if_neg (by omega)])]; exact h
  have r : ∀ q, q ≠ 16 → up2 B 16 2 (B 16 2 + d) q = B q := fun q hq => up2_row_ne hq _ _ _
  have n1 : ¬ (r_X3_has (up2 B 16 2 (B 16 2 + d)) i = 0) := by rw [hh]; exact one_ne
  have n2 : ¬ (r_X3_has B i = 0) := by rw [h]; exact one_ne
  have el : r_X0_lateAfter (up2 B 16 2 (B 16 2 + d)) i 0 = r_X0_lateAfter B i d := by
    unfold r_X0_lateAfter r_X0_ageOf
    have e16 : up2 B 16 2 (B 16 2 + d) 16 2 = B 16 2 + d := by rw [up2_at, if_pos ⟨rfl, rfl⟩]
    rw [if_neg n1, if_neg n2, e16, r 10 (by decide)]
    have e : B 16 2 + d - B 10 i.toNatClampNeg + 0 = B 16 2 - B 10 i.toNatClampNeg + d := by grind
    rw [e]
  have er : ∀ c, r_X1_riskOf (up2 B 16 2 (B 16 2 + d)) c = r_X1_riskOf B c := by
    intro c
    unfold r_X1_riskOf
    rw [r 4 (by decide), r 5 (by decide)]
    rfl
  unfold r_X0_offerAfter r_X0_rateAfter
  rw [if_neg n1, if_neg n2, if_neg n1, if_neg n2, el, r 15 (by decide), r 9 (by decide), r 8 (by decide), er]
