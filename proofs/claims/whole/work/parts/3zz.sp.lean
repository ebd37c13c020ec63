/-! where the class's test for whole sectors and the reference's differ: at no data, and nowhere else -/
theorem sp_same (sec : Int64) (n d : Nat) (h : ¬ d = 0) : spC sec n d = spM sec n d := by
  apply Bool.eq_iff_iff.mpr
  rw [spC_iff]
  unfold spM
  rw [decide_eq_true_iff]
  omega
theorem sp_differ (sec : Int64) (n : Nat) : spC sec n 0 = true ∧ spM sec n 0 = false := by
  refine ⟨spC_iff.mpr ⟨rfl, by decide, Or.inl rfl⟩, ?_⟩
  unfold spM
  exact decide_eq_false (by omega)
