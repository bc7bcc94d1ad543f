

def r_L_low (v : Int32) (n : Int32) : Int32 := ((v &&& (2147483647 : Int32)) - (v &&& (2147483647 : Int32)) / n * n)
def n_L_low (v : Int32) (n : Int32) : Prop := (¬ n = 0 ∧ True)
set_option maxRecDepth 100000 in
set_option maxHeartbeats 4000000 in
theorem c_L_low (l : Launch) (D : va_G) (ca : Nat → ClassId) (v : Int32) (n : Int32) (hq : n_L_low v n) : jM l D ca yL_low cL_low 2 (some .int) 0 0 0 0 [.int v, .int n] [] (jD (some (.int (r_L_low v n))) []) := by
  refine jM_of [(0, .int v), (1, .int n)] (by decide) (Nat.le_of_ble_eq_true rfl) rfl (fun X C E => ?_)
  rw [n_L_low] at hq
  refine j_iload_n C dL_low_0 rfl ?_
  refine j_ldc C q_376 dL_low_1 ?_
  refine j_iand C dL_low_3 ?_
  refine j_iload_n C dL_low_4 rfl ?_
  obtain ⟨hv, hq⟩ := hq
  refine j_irem C dL_low_5 hv ?_
  have e9 : r_L_low v n = ((v &&& (2147483647 : Int32)) - (v &&& (2147483647 : Int32)) / n * n) := by rw [r_L_low]
  exact j_iret E dL_low_6 (by rw [e9]; exact ⟨rfl, rfl⟩)
