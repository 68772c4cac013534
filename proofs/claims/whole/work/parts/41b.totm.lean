/-! ===== All groups, as the reference adds them ===== -/
/-- the ugliest group and its ugliness hang together -/
theorem tst_w {DD : Int → GDt} {ng : Int} (h : DDok DD ng) : ∀ g, 0 ≤ g → g ≤ ng → ((tst DD g).2.2.1 = -2 ∧ (tst DD g).2.2.2.1 = -1) ∨ (0 ≤ (tst DD g).2.2.1 ∧ 0 ≤ (tst DD g).2.2.2.1) := by
  refine itr_indn (g := fun j t => tstep (DD j) j t) (a := (0, 0, -2, -1, 0)) (fun g (t : TSt) => (t.2.2.1 = -2 ∧ t.2.2.2.1 = -1) ∨ (0 ≤ t.2.2.1 ∧ 0 ≤ t.2.2.2.1)) (Or.inl ⟨rfl, rfl⟩) ?_
  intro g t h1 h2 h3
  by_cases hm : mnK (DD g) = 9223372036854775807
  · rw [tstep_no hm]; exact h3
  · rw [tstep_ya hm]
    have h4 := bU_r (h g h1 h2) hm
    dsimp only
    split <;> omega
