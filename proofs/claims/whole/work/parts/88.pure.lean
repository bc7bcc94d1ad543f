theorem LB_0 : LB (mI 0) (KI 0) := by
  intro p hp
  have : ∀ p, p < 204 → mI 0 p = KI 0 (rowOf p) (idxOf p) := by decide +kernel
  exact this p hp
theorem Rel_0 : Rel 0 KI mI := by
  refine ⟨LB_0, ?_, ⟨0, 0, by decide, by decide, by decide, by decide, by decide, fun j hj => absurd hj (Nat.not_lt_zero _)⟩, ⟨by decide, fun q => absurd (by decide) q⟩, ⟨by decide, by decide, fun j hj => ?_⟩, Or.inl ⟨by decide, by decide, by decide⟩⟩
  · refine ⟨by decide, by decide, fun k hk => ?_, fun k hk => ?_, fun k hk => ?_, by decide, by decide, by decide⟩
    · have e : (KI 0 16 0).toInt = 0 := by decide
      omega
    · have e4 : KI 0 4 k = 0 := rfl
      have e5 : KI 0 5 k = 0 := rfl
      rw [e4, e5]
      exact ⟨⟨by decide, by decide⟩, ⟨by decide, by decide⟩⟩
    · have e : (KI 0 16 1).toInt = 0 := by decide
      omega
  · have e : (KI 7 5 0).toInt = 0 := by decide
    omega
