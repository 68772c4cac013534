/-! ===== The reference's cells but its positions; the tape's bytes; what put, undo, feed do there ===== -/
def RK (μ : Mu) (p : Int) : Prop := (μ 45 1 = μ p 1 ∧ μ 45 2 = μ p 2 ∧ μ 45 5 = μ p 3 ∧ μ 45 7 = μ p 7 ∧ μ 45 17 = μ p 14) ∧
  (∀ i, 0 ≤ i → i < μ p 7 → μ 48 i = bok (μ (p + 3) i) ∧ μ 49 i = μ (p + 4) i ∧ μ 51 i = μ (p + 6) i ∧ μ 52 i = μ (p + 7) i ∧ μ 53 i = goR (μ (p + 8) i)) ∧
  (∀ g, 0 ≤ g → g < μ p 14 → μ 54 g = μ (p + 9) g ∧ μ 55 g = μ (p + 10) g)
theorem RK.f7 {μ : Mu} {p : Int} (h : RK μ p) : μ 45 7 = μ p 7 := h.1.2.2.2.1
theorem RK.nt {μ : Mu} {p i : Int} (h : RK μ p) (hi : 0 ≤ i ∧ i < μ p 7) : μ 49 i = μ (p + 4) i := (h.2.1 i hi.1 hi.2).2.1
/-- the class's positions changed, nothing else of it -/
theorem RJ.rk {μ μ1 : Mu} {p : Int} (h : RJ μ p) (e : ∀ o : Int, ((48 ≤ o ∧ o ≤ 55) ∨ (p ≤ o ∧ o ≤ p + 10)) → ¬ o = 50 → ¬ o = p + 5 → μ1 o = μ o) (hp : p = 20 ∨ p = 31) (f : ∀ k : Int, (k = 1 ∨ k = 2 ∨ k = 5 ∨ k = 7 ∨ k = 17) → μ1 45 k = μ 45 k) : RK μ1 p := by
  unfold RK
  rw [f 1 (by omega), f 2 (by omega), f 5 (by omega), f 7 (by omega), f 17 (by omega), e 48 (by omega) (by omega) (by omega), e 49 (by omega) (by omega) (by omega), e 51 (by omega) (by omega) (by omega), e 52 (by omega) (by omega) (by omega), e 53 (by omega) (by omega) (by omega), e 54 (by omega) (by omega) (by omega), e 55 (by omega) (by omega) (by omega), e p (by omega) (by omega) (by omega), e (p + 3) (by omega) (by omega) (by omega), e (p + 4) (by omega) (by omega) (by omega), e (p + 6) (by omega) (by omega) (by omega), e (p + 7) (by omega) (by omega) (by omega), e (p + 8) (by omega) (by omega) (by omega), e (p + 9) (by omega) (by omega) (by omega), e (p + 10) (by omega) (by omega) (by omega)]
  exact ⟨⟨h.f1, h.f2, h.f5, h.f7, h.f17⟩, fun i h1 h2 => ⟨h.kd ⟨h1, h2⟩, h.nt ⟨h1, h2⟩, h.tm ⟨h1, h2⟩, h.xs ⟨h1, h2⟩, h.go ⟨h1, h2⟩⟩, h.2.2⟩
theorem RK.cg2 {μ μ1 : Mu} {p : Int} (h : RK μ p) (e : ∀ o : Int, (48 ≤ o ∧ o ≤ 49) ∨ (51 ≤ o ∧ o ≤ 55) ∨ (p ≤ o ∧ o ≤ p + 10) → μ1 o = μ o) (f : ∀ k : Int, (k = 1 ∨ k = 2 ∨ k = 5 ∨ k = 7 ∨ k = 17) → μ1 45 k = μ 45 k) : RK μ1 p := by
  unfold RK at h ⊢
  rw [f 1 (by omega), f 2 (by omega), f 5 (by omega), f 7 (by omega), f 17 (by omega), e 48 (by omega), e 49 (by omega), e 51 (by omega), e 52 (by omega), e 53 (by omega), e 54 (by omega), e 55 (by omega), e p (by omega), e (p + 3) (by omega), e (p + 4) (by omega), e (p + 6) (by omega), e (p + 7) (by omega), e (p + 8) (by omega), e (p + 9) (by omega), e (p + 10) (by omega)]
  exact h
theorem RK.of {μ : Mu} {p : Int} (h : RK μ p) (h19 : μ 45 19 = μ p 3) (h50 : ∀ i, 0 ≤ i → i < μ p 7 → μ 50 i = μ (p + 5) i) (h56 : ∀ i, 0 ≤ i → i < μ p 7 → μ 56 i = μ (p + 5) i) : RJ μ p :=
  ⟨⟨h.1.1, h.1.2.1, h.1.2.2.1, h.1.2.2.2.1, h.1.2.2.2.2, h19⟩, fun i h1 h2 => ⟨(h.2.1 i h1 h2).1, (h.2.1 i h1 h2).2.1, h50 i h1 h2, (h.2.1 i h1 h2).2.2.1, (h.2.1 i h1 h2).2.2.2.1, (h.2.1 i h1 h2).2.2.2.2, h56 i h1 h2⟩, h.2.2⟩
/-- what the reference's put() does -/
def putR (μ : Mu) (p i q z : Int) (μ1 : Mu) : Prop := (((0 ≤ i ∧ i < μ p 7 ∧ μ (p + 4) i = 1) ∧ (-12 ≤ q ∧ q ≤ 12)) ∧ z = μ 50 i ∧ μ1 45 60 = min (μ 45 60 + 1) 20 ∧ (∀ j : Int, 0 ≤ j → j < min (μ 45 60 + 1) 20 → μ1 69 j = hsN (μ 69) (μ 45 60) i j) ∧ (∀ j : Int, 0 ≤ j → j < min (μ 45 60 + 1) 20 → μ1 70 j = hsN (μ 70) (μ 45 60) (μ 50 i) j) ∧ (∀ j : Int, μ1 50 j = if j = i then q else μ 50 j) ∧ (∀ j : Int, 0 ≤ j → j < 64 → μ1 56 j = μ1 50 j) ∧ μ1 45 19 = μ 45 5) ∨ (¬ ((0 ≤ i ∧ i < μ p 7 ∧ μ (p + 4) i = 1) ∧ (-12 ≤ q ∧ q ≤ 12)) ∧ z = -1000000 ∧ μ1 = am_up μ 45 0 0)
def undR (μ : Mu) (z : Int) (μ1 : Mu) : Prop := (μ 45 60 = 0 ∧ z = -1 ∧ μ1 = am_up μ 45 0 0) ∨ (0 < μ 45 60 ∧ z = μ 45 60 - 1 ∧ μ1 45 60 = μ 45 60 - 1 ∧ (∀ j : Int, μ1 50 j = if j = μ 69 (μ 45 60 - 1) then μ 70 (μ 45 60 - 1) else μ 50 j) ∧ (∀ j : Int, 0 ≤ j → j < 64 → μ1 56 j = μ1 50 j) ∧ μ1 45 19 = μ 45 5)
/-- a row moved down by one, so far -/
theorem mvd_s {μ : Mu} {o k : Int} {f : Int → Int} (h1 : ∀ j : Int, 0 ≤ j → j < k - 1 → μ o j = f (j + 1)) (h2 : ∀ j : Int, k - 1 ≤ j → μ o j = f j) (hk : 1 ≤ k) : (∀ j : Int, 0 ≤ j → j < k + 1 - 1 → am_up μ o (k - 1) (μ o k) o j = f (j + 1)) ∧ (∀ j : Int, k + 1 - 1 ≤ j → am_up μ o (k - 1) (μ o k) o j = f j) := by
  refine ⟨fun j a b => ?_, fun j a => ?_⟩
  · rw [up_if]
    by_cases e : j = k - 1
    · rw [if_pos e, h2 k (by omega), e]
      congr 1
      omega
    · rw [if_neg e]; exact h1 j a (by omega)
  · rw [up_if, if_neg (by omega)]
    exact h2 j (by omega)
theorem i2b_m (a : Int) : am_i2b a % 256 = a % 256 := by
  unfold am_i2b
  rw [Int8.toInt_toInt32, Int32.toInt_toInt8, Int32.toInt_ofInt]
  have h1 := Int.bmod_emod (x := Int.bmod a (2 ^ 32)) (m := 2 ^ 8)
  have h2 := Int.bmod_emod (x := a) (m := 2 ^ 32)
  have e1 : (((2 ^ 8 : Nat)) : Int) = 256 := by decide
  have e2 : (((2 ^ 32 : Nat)) : Int) = 4294967296 := by decide
  rw [e1] at h1
  rw [e2] at h2
  have h3 : Int.bmod a (2 ^ 32) % 256 = a % 256 := by omega
  rw [← h3]
  exact h1
/-- the bytes of a number, as the reference lays them -/
theorem apR_s {μ : Mu} {f : Int → Int} {s n k v : Int} (h : (fun j => μ 62 j % 256) = apN f s n k) (hk : 0 ≤ k) (hv : v % 256 = byt n k) : (fun j => am_up μ 62 (s + k) v 62 j % 256) = apN f s n (k + 1) := by
  funext j
  have h1 := congrFun h j
  unfold apN at h1 ⊢
  (try dsimp only at h1)
  (try dsimp only)
  rw [up_if]
  by_cases e : j = s + k
  · rw [if_pos e, if_pos (by omega), hv, show j - s = k by omega]
  · rw [if_neg e, h1]
    by_cases q : s ≤ j ∧ j < s + k
    · rw [if_pos q, if_pos (by omega)]
    · rw [if_neg q, if_neg (by omega)]
theorem elV_6 (a : Int) : goR a = if 0 ≤ a then a else -2 := by unfold goR; split <;> omega
theorem mlg_cg {μ μ1 : Mu} {p : Int} (e : ∀ o : Int, p ≤ o ∧ o ≤ p + 10 → μ1 o = μ o) : mlg μ1 p = mlg μ p := by
  unfold mlg
  rw [e p (by omega)]
