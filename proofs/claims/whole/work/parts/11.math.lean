/-! ===== Words of the matter: kinds, metres; what a piece holds ===== -/
def bok (k : Int) : Int := if k = 8 then 1 else if k = 16 then 2 else if k = 32 then 3 else 0
def lok (k : Int) : Int := if k = 8 then 4 else if k = 16 then 2 else if k = 32 then 1 else 8
def blg (u : Int) : Int := if u = 2 then 16 else if u = 8 then 4 else 8
theorem bok_r (k : Int) : 0 ≤ bok k ∧ bok k ≤ 3 := by unfold bok; split <;> (try split) <;> (try split) <;> omega
theorem lok_r (k : Int) : 1 ≤ lok k ∧ lok k ≤ 8 := by unfold lok; split <;> (try split) <;> (try split) <;> omega
theorem blg_r (u : Int) : 4 ≤ blg u ∧ blg u ≤ 16 := by unfold blg; split <;> (try split) <;> omega
theorem lok_sh (k : Int) : am_ishr 8 (bok k) = lok k := by
  unfold bok lok
  split
  · decide
  · split
    · decide
    · split <;> decide
/-- what a piece holds, in bounds -/
def PI (μ : Mu) (p : Int) : Prop := (p = 20 ∨ p = 31) ∧ (1 ≤ μ p 1 ∧ μ p 1 ≤ 12) ∧ (μ p 2 = 2 ∨ μ p 2 = 4 ∨ μ p 2 = 8) ∧ (0 ≤ μ p 7 ∧ μ p 7 ≤ 64) ∧
  (∀ i, 0 ≤ i → i < μ p 7 → (μ (p + 3) i = 4 ∨ μ (p + 3) i = 8 ∨ μ (p + 3) i = 16 ∨ μ (p + 3) i = 32) ∧ (μ (p + 4) i = 0 ∨ μ (p + 4) i = 1) ∧ (-12 ≤ μ (p + 5) i ∧ μ (p + 5) i ≤ 12) ∧ (0 ≤ μ (p + 6) i ∧ μ (p + 6) i ≤ 8 * i) ∧ (0 ≤ μ (p + 7) i ∧ μ (p + 7) i ≤ 40 * i)) ∧
  (∀ k, 0 ≤ k → k < 4 → 4 ≤ μ (p + 2) k ∧ μ (p + 2) k ≤ 40) ∧ (1 ≤ μ p 4 ∧ μ p 4 ≤ 12) ∧ (∀ k, 0 ≤ k → k < μ p 4 → 1 ≤ μ (p + 1) k ∧ μ (p + 1) k ≤ 12)
section PIs
variable {μ : Mu} {p q i : Int}
theorem PI.at (h : PI μ p) : p = 20 ∨ p = 31 := h.1
theorem PI.bt (h : PI μ p) : 1 ≤ μ p 1 ∧ μ p 1 ≤ 12 := h.2.1
theorem PI.un (h : PI μ p) : 2 ≤ μ p 2 ∧ μ p 2 ≤ 8 := by rcases h.2.2.1 with e | e | e <;> omega
theorem PI.sz (h : PI μ p) : 0 ≤ μ p 7 ∧ μ p 7 ≤ 64 := h.2.2.2.1
theorem PI.kd (h : PI μ p) (hq : p + 3 = q) (hi : 0 ≤ i ∧ i < μ p 7) : μ q i = 4 ∨ μ q i = 8 ∨ μ q i = 16 ∨ μ q i = 32 := by subst hq; exact (h.2.2.2.2.1 i hi.1 hi.2).1
theorem PI.kr (h : PI μ p) (hq : p + 3 = q) (hi : 0 ≤ i ∧ i < μ p 7) : 4 ≤ μ q i ∧ μ q i ≤ 32 := by rcases h.kd hq hi with e | e | e | e <;> omega
theorem PI.so (h : PI μ p) (hq : p + 4 = q) (hi : 0 ≤ i ∧ i < μ p 7) : 0 ≤ μ q i ∧ μ q i ≤ 1 := by subst hq; rcases (h.2.2.2.2.1 i hi.1 hi.2).2.1 with e | e <;> omega
theorem PI.hd (h : PI μ p) (hq : p + 5 = q) (hi : 0 ≤ i ∧ i < μ p 7) : -12 ≤ μ q i ∧ μ q i ≤ 12 := by subst hq; exact (h.2.2.2.2.1 i hi.1 hi.2).2.2.1
theorem PI.tm (h : PI μ p) (hq : p + 6 = q) (hi : 0 ≤ i ∧ i < μ p 7) : 0 ≤ μ q i ∧ μ q i ≤ 8 * i := by subst hq; exact (h.2.2.2.2.1 i hi.1 hi.2).2.2.2.1
theorem PI.xs (h : PI μ p) (hq : p + 7 = q) (hi : 0 ≤ i ∧ i < μ p 7) : 0 ≤ μ q i ∧ μ q i ≤ 40 * i := by subst hq; exact (h.2.2.2.2.1 i hi.1 hi.2).2.2.2.2
theorem PI.wd (h : PI μ p) (hq : p + 2 = q) (hi : 0 ≤ i ∧ i < 4) : 4 ≤ μ q i ∧ μ q i ≤ 40 := by subst hq; exact h.2.2.2.2.2.1 i hi.1 hi.2
theorem PI.pc (h : PI μ p) : 1 ≤ μ p 4 ∧ μ p 4 ≤ 12 := h.2.2.2.2.2.2.1
theorem PI.pt (h : PI μ p) (hq : p + 1 = q) (hi : 0 ≤ i ∧ i < μ p 4) : 1 ≤ μ q i ∧ μ q i ≤ 12 := by subst hq; exact h.2.2.2.2.2.2.2 i hi.1 hi.2
end PIs
/-- BEAMS of an element -/
def bmz (μ : Mu) (p i : Int) : Int := if μ (p + 4) i = 0 then 0 else bok (μ (p + 3) i)
theorem bmz_r (μ : Mu) (p i : Int) : 0 ≤ bmz μ p i ∧ bmz μ p i ≤ 3 := by
  unfold bmz
  split
  · omega
  · exact bok_r _
/-- how long a measure is -/
def mlg (μ : Mu) (p : Int) : Int := μ p 1 * blg (μ p 2)
theorem mlg_r {μ : Mu} {p : Int} (h : PI μ p) : 4 ≤ mlg μ p ∧ mlg μ p ≤ 192 := by
  have h1 := h.bt
  have h2 := blg_r (μ p 2)
  unfold mlg
  constructor
  · have : 1 * 4 ≤ μ p 1 * blg (μ p 2) := Int.mul_le_mul h1.1 h2.1 (by decide) (by omega)
    omega
  · have : μ p 1 * blg (μ p 2) ≤ 12 * 16 := Int.mul_le_mul h1.2 h2.2 (by omega) (by decide)
    omega
