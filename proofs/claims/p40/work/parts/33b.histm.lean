/-! ===== The history, the tape ===== -/
/-- the row of what can be undone, one more behind; the eldest is forgotten -/
def hsN (f : Int → Int) (s v j : Int) : Int := if s = 20 then (if j = 19 then v else f (j + 1)) else if j = s then v else f j
/-- what put() does -/
def putP (μ : Mu) (p i q z : Int) (μ1 : Mu) : Prop := ((0 ≤ i ∧ i < μ p 7 ∧ μ (p + 4) i = 1) ∧ (-12 ≤ q ∧ q ≤ 12)) ∧ z = μ (p + 5) i ∧ μ1 3 2 = min (μ 3 2 + 1) 20 ∧ (∀ j : Int, 0 ≤ j → j < min (μ 3 2 + 1) 20 → μ1 4 j = hsN (μ 4) (μ 3 2) i j) ∧ (∀ j : Int, 0 ≤ j → j < min (μ 3 2 + 1) 20 → μ1 5 j = hsN (μ 5) (μ 3 2) (μ (p + 5) i) j) ∧ (∀ j : Int, μ1 (p + 5) j = if j = i then q else μ (p + 5) j) ∨
  (¬ ((0 ≤ i ∧ i < μ p 7 ∧ μ (p + 4) i = 1) ∧ (-12 ≤ q ∧ q ≤ 12)) ∧ z = -1000000 ∧ μ1 = μ)
/-- what undo() does -/
def undP (μ : Mu) (p z : Int) (μ1 : Mu) : Prop := (μ 3 2 = 0 ∧ z = -1 ∧ μ1 = μ) ∨ (0 < μ 3 2 ∧ z = μ 3 2 - 1 ∧ μ1 3 2 = μ 3 2 - 1 ∧ ∀ j : Int, μ1 (p + 5) j = if j = μ 4 (μ 3 2 - 1) then (if 0 < μ 3 2 then μ 5 (μ 3 2 - 1) else 0) else μ (p + 5) j)
/-- the bytes of a number, the highest first -/
def byt (n j : Int) : Int := if j = 0 then n / 16777216 % 256 else if j = 1 then n / 65536 % 256 else if j = 2 then n / 256 % 256 else n % 256
theorem byt_r (n j : Int) : 0 ≤ byt n j ∧ byt n j ≤ 255 := by unfold byt; split <;> (try split) <;> (try split) <;> omega
def apN (f : Int → Int) (s n k : Int) : Int → Int := fun j => if s ≤ j ∧ j < s + k then byt n (j - s) else f j
theorem apN_0 (f : Int → Int) (s n : Int) : apN f s n 0 = f := by
  funext j
  unfold apN
  rw [if_neg (by omega)]
theorem apN_s {f : Int → Int} {s n k v : Int} {μ : Mu} (h : μ 2 = apN f s n k) (hk : 0 ≤ k) (hv : v = byt n k) : am_up μ 2 (s + k) v 2 = apN f s n (k + 1) := by
  funext j
  rw [am_up_k, h]
  unfold apN
  by_cases hj : j = s + k
  · rw [if_pos hj, if_pos (by omega), hv, hj, show s + k - s = k by omega]
  · rw [if_neg hj]
    by_cases hc : s ≤ j ∧ j < s + k
    · rw [if_pos hc, if_pos (by omega)]
    · rw [if_neg hc, if_neg (by omega)]
theorem byt_i {n s k : Int} (hn : -2147483648 ≤ n ∧ n ≤ 2147483647) (hk : 0 ≤ k ∧ k ≤ 3) (hs : s = 24 - 8 * k) : am_ishr n s % 256 = byt n k := by
  have hr : R32 n := ⟨by omega, by omega⟩
  rcases (show k = 0 ∨ k = 1 ∨ k = 2 ∨ k = 3 by omega) with q | q | q | q
  · rw [show s = 24 by omega, am_ishrK hr (q := 16777216) 24 (by decide) rfl, q]; rfl
  · rw [show s = 16 by omega, am_ishrK hr (q := 65536) 16 (by decide) rfl, q]; rfl
  · rw [show s = 8 by omega, am_ishrK hr (q := 256) 8 (by decide) rfl, q]; rfl
  · rw [show s = 0 by omega, am_ishrK hr (q := 1) 0 (by decide) rfl, q, Int.ediv_one]; rfl
/-- what feed() does -/
def fdN (f : Int → Int) (s a b c d e : Int) : Int → Int := apN (apN (apN (apN (apN f s a 4) (s + 4) b 4) (s + 4 + 4) c 4) (s + 4 + 4 + 4) d 4) (s + 4 + 4 + 4 + 4) e 4
def feedP (μ : Mu) (a b c d e z : Int) (μ1 : Mu) : Prop := (μ 1 1 + 20 ≤ 900 ∧ z = μ 1 1 + 20 ∧ μ1 1 1 = μ 1 1 + 20 ∧ μ1 2 = fdN (μ 2) (μ 1 1) a b c d e) ∨ (900 < μ 1 1 + 20 ∧ z = -1 ∧ μ1 = μ)
def cntC (μ : Mu) (p w : Int) : Int := if w = 0 then μ p 0 else if w = 1 then μ p 7 else if w = 2 then itr (fun j a => a + μ (p + 4) j) 0 (μ p 7) else if w = 3 then μ p 14 else if w = 4 then (if μ p 7 = 0 then 0 else mof μ p (μ p 7 - 1) + 1) else if w = 5 then μ p 1 else if w = 6 then μ p 2 else if w = 7 then μ p 3 else if w = 8 then μ p 4 else if w = 9 then μ 3 2 else if w = 10 then μ 1 1 else if 11 ≤ w ∧ w ≤ 14 then μ (p + 2) (w - 11) else -1
