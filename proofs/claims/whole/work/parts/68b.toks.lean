theorem RPS_sp {σ σ1 μ μ1 : Mu} {k : Int} (h : RPS σ μ) (hk : 1 ≤ k ∧ k ≤ 6) (hσ : ∀ o : Int, ¬ o = 6 → σ1 o = σ o) (hp : ∀ j, 0 ≤ j → j < k → 1 ≤ σ1 6 j ∧ σ1 6 j ≤ 12) (e : ∀ o : Int, 64 ≤ o ∧ o ≤ 68 → μ1 o = μ o) (f : ∀ j : Int, (44 ≤ j ∧ j ≤ 57 ∧ ¬ j = 47) → μ1 45 j = μ 45 j) (e4 : μ1 45 47 = k) (e1 : ∀ j, 0 ≤ j → j < k → μ1 63 j = σ1 6 j) : RPS (am_up σ1 0 5 k) μ1 := by
  have g : ∀ o : Int, ¬ o = 0 → ¬ o = 6 → am_up σ1 0 5 k o = σ o := fun o a c => by rw [am_up_o a, hσ o c]
  have g0 : ∀ j : Int, ¬ j = 5 → am_up σ1 0 5 k 0 j = σ 0 j := fun j a => by rw [am_up_nk a, hσ 0 (by omega)]
  have g5 : am_up σ1 0 5 k 0 5 = k := am_up_at
  have g6 : am_up σ1 0 5 k 6 = σ1 6 := am_up_o (by omega)
  have hs := h.ok
  have ht : tS (am_up σ1 0 5 k) = tS σ := by unfold tS; rw [g0 0 (by omega), g 1 (by omega) (by omega), g 4 (by omega) (by omega)]
  refine ⟨?_, ?_, ?_, ?_, ?_⟩
  · unfold SOK at hs ⊢
    rw [g5, g0 0 (by omega), g0 1 (by omega), g0 2 (by omega), g0 3 (by omega), g0 4 (by omega), g0 6 (by omega), g0 7 (by omega), g 1 (by omega) (by omega), g 2 (by omega) (by omega), g 3 (by omega) (by omega), g 4 (by omega) (by omega), g 5 (by omega) (by omega), g 7 (by omega) (by omega), g 8 (by omega) (by omega), g6]
    exact ⟨⟨hs.1.1, hs.1.2.1, hs.1.2.2.1, hs.1.2.2.2.1, hs.1.2.2.2.2.1, by omega, hs.1.2.2.2.2.2.2⟩, hs.2.1, hs.2.2.1, hp, hs.2.2.2.2⟩
  · rw [ht, g5, g0 2 (by omega), g0 3 (by omega), g0 4 (by omega), g0 0 (by omega), g0 6 (by omega), g0 7 (by omega), f 44 (by omega), f 45 (by omega), f 48 (by omega), f 50 (by omega), f 54 (by omega), f 55 (by omega), f 57 (by omega)]
    exact ⟨h.bt, h.un, e4, h.kn, h.el, h.hm, h.hk, h.nt⟩
  · rw [g5, g6]; exact e1
  · rw [g 7 (by omega) (by omega), g 8 (by omega) (by omega), e 64 (by omega), e 68 (by omega)]
    exact h.2.2.2.1
  · rw [g0 0 (by omega), g 1 (by omega) (by omega), g 2 (by omega) (by omega), g 3 (by omega) (by omega), e 65 (by omega), e 66 (by omega), e 67 (by omega)]
    exact h.2.2.2.2
