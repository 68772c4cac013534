theorem mls_eq {σ : Mu} (h : SOK σ) : σ 0 2 * 32 / σ 0 3 = mlS σ ∧ 4 ≤ mlS σ ∧ mlS σ ≤ 192 := by
  have h1 := h.1.2.2.1
  unfold mlS blg
  rcases h.1.2.2.2.1 with e | e | e <;> rw [e]
  · rw [if_pos rfl]; omega
  · rw [if_neg (by omega), if_neg (by omega)]; omega
  · rw [if_neg (by omega), if_pos rfl]; omega
