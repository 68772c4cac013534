/-! ===== The history, the tape ===== -/
/-- the row of what can be undone, one more behind; the eldest is forgotten -/
def hsN (f : Int → Int) (s v j : Int) : Int := if s = 20 then (if j = 19 then v else f (j + 1)) else if j = s then v else f j
/-- what put() does -/
def putP (μ : Mu) (p i q z : Int) (μ1 : Mu) : Prop := ((0 ≤ i ∧ i < μ p 7 ∧ μ (p + 4) i = 1) ∧ (-12 ≤ q ∧ q ≤ 12)) ∧ z = μ (p + 5) i ∧ μ1 3 2 = min (μ 3 2 + 1) 20 ∧ (∀ j : Int, 0 ≤ j → j < min (μ 3 2 + 1) 20 → μ1 4 j = hsN (μ 4) (μ 3 2) i j) ∧ (∀ j : Int, 0 ≤ j → j < min (μ 3 2 + 1) 20 → μ1 5 j = hsN (μ 5) (μ 3 2) (μ (p + 5) i) j) ∧ (∀ j : Int, μ1 (p + 5) j = if j = i then q else μ (p + 5) j) ∨
  (¬ ((0 ≤ i ∧ i < μ p 7 ∧ μ (p + 4) i = 1) ∧ (-12 ≤ q ∧ q ≤ 12)) ∧ z = -1000000 ∧ μ1 = μ)
