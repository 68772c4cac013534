/-! ===== What of a piece the reference holds before its groups stand ===== -/
def RJl (μ : Mu) (p : Int) : Prop := (μ 45 1 = μ p 1 ∧ μ 45 2 = μ p 2 ∧ μ 45 7 = μ p 7) ∧ (∀ i, 0 ≤ i → i < μ p 7 → μ 48 i = bok (μ (p + 3) i) ∧ μ 49 i = μ (p + 4) i ∧ μ 51 i = μ (p + 6) i)
section rjl
variable {μ μ1 : Mu} {p i : Int}
theorem RJl.f1 (h : RJl μ p) : μ 45 1 = μ p 1 := h.1.1
theorem RJl.f2 (h : RJl μ p) : μ 45 2 = μ p 2 := h.1.2.1
theorem RJl.f7 (h : RJl μ p) : μ 45 7 = μ p 7 := h.1.2.2
theorem RJl.kd (h : RJl μ p) (hi : 0 ≤ i ∧ i < μ p 7) : μ 48 i = bok (μ (p + 3) i) := (h.2 i hi.1 hi.2).1
theorem RJl.nt (h : RJl μ p) (hi : 0 ≤ i ∧ i < μ p 7) : μ 49 i = μ (p + 4) i := (h.2 i hi.1 hi.2).2.1
theorem RJl.tm (h : RJl μ p) (hi : 0 ≤ i ∧ i < μ p 7) : μ 51 i = μ (p + 6) i := (h.2 i hi.1 hi.2).2.2
end rjl
