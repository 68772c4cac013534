/-! ===== The law's start keeps what holds between two calls ===== -/
theorem cn_inv {m1 m2 : Mu} (h : CPS S0 0 m1) (h14 : m1 0 14 = 0) : INV (cn_mu m1 m2) 20 := by
  have e : ∀ j : Int, 0 ≤ j → j ≤ 10 → cn_mu m1 m2 (20 + j) = m1 j := by
    intro j h1 h2
    funext k
    unfold cn_mu
    rw [if_neg (by omega), if_pos (by omega), show 20 + j - 20 = j by omega]
  have e0 : cn_mu m1 m2 20 = m1 0 := e 0 (by omega) (by omega)
  have hC : CPS S0 20 (cn_mu m1 m2) := by
    unfold CPS evn at h ⊢
    rw [e0, e 1 (by omega) (by omega), e 2 (by omega) (by omega), e 3 (by omega) (by omega), e 4 (by omega) (by omega), e 5 (by omega) (by omega), e 6 (by omega) (by omega), e 7 (by omega) (by omega), e 8 (by omega) (by omega)]
    exact h
  have hI : PI (cn_mu m1 m2) 20 := hC.pi (Or.inl rfl)
  have z7 : cn_mu m1 m2 20 7 = 0 := hC.f7
  have z14 : cn_mu m1 m2 20 14 = 0 := by rw [e0]; exact h14
  have z3 : cn_mu m1 m2 20 3 = 9 := hC.f3
  have hG : PG (cn_mu m1 m2) 20 := by
    unfold PG
    rw [z7, z14]
    exact ⟨by omega, fun g h1 h2 => by omega, fun i h1 h2 => by omega, fun i h1 h2 => by omega⟩
  refine ⟨⟨rfl, rfl, hI, hG, by rw [z3]; omega⟩, ⟨⟨?_, ?_, ?_, ?_, ?_, ?_⟩, fun i h1 h2 => by omega, fun g h1 h2 => by omega⟩, ⟨⟨?_, fun k h1 h2 => ?_⟩, ?_⟩, ⟨?_, rfl, fun j h1 h2 => ?_⟩, ⟨?_, rfl, fun j h1 h2 => ?_⟩, ⟨rfl, rfl⟩⟩
  · rw [hC.f1]; rfl
  · rw [hC.f2]; rfl
  · rw [z3]; rfl
  · rw [z7]; rfl
  · rw [z14]; rfl
  · rw [z3]; rfl
  · rw [hC.f0]; rfl
  · rw [hC.2.2.2.1 k h1 h2]
    show cn_w k = _
    unfold cn_w S0
    have : k = 0 ∨ k = 1 ∨ k = 2 ∨ k = 3 := by omega
    rcases this with q | q | q | q <;> subst q <;> rfl
  · refine Or.inl ⟨rfl, ?_⟩
    rcases hC.2.2.2.2 with q | q
    · exact q.2
    · exact absurd q.1 (by decide)
  · show (0 : Int) ≤ 0 ∧ (0 : Int) ≤ 20
    decide
  · exact absurd h2 (by show ¬ j < 0; omega)
  · show (0 : Int) ≤ 0 ∧ (0 : Int) ≤ 900
    decide
  · show ((0 : Int) ≤ 0 ∧ (0 : Int) ≤ 255) ∧ (0 : Int) % 256 = 0
    decide
