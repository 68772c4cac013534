/-! ===== Words of the matter: kinds, metres; what a piece holds ===== -/
def bok (k : Int) : Int := if k = 8 then 1 else if k = 16 then 2 else if k = 32 then 3 else 0
def lok (k : Int) : Int := if k = 8 then 4 else if k = 16 then 2 else if k = 32 then 1 else 8
def blg (u : Int) : Int := if u = 2 then 16 else if u = 8 then 4 else 8
theorem bok_r (k : Int) : 0 ≤ bok k ∧ bok k ≤ 3 := by unfold bok; split <;> (try split) <;> (try split) <;> omega
theorem lok_r (k : Int) : 1 ≤ lok k ∧ lok k ≤ 8 := by unfold lok; split <;> (try split) <;> (try split) <;> omega
theorem blg_r (u : Int) : 4 ≤ blg u ∧ blg u ≤ 16 := by unfold blg; split <;> (try split) <;> omega
theorem lok_sh (k : Int) : am_ishr 8 (bok k) = lok k := by
  unfold bok lok
  split
  · decide
  · split
    · decide
    · split <;> decide
/-- what a piece holds, in bounds -/
def PI (μ : Mu) (p : Int) : Prop := (p = 20 ∨ p = 31) ∧ (1 ≤ μ p 1 ∧ μ p 1 ≤ 12) ∧ (μ p 2 = 2 ∨ μ p 2 = 4 ∨ μ p 2 = 8) ∧ (0 ≤ μ p 7 ∧ μ p 7 ≤ 64) ∧
  (∀ i, 0 ≤ i → i < μ p 7 → (μ (p + 3) i = 4 ∨ μ (p + 3) i = 8 ∨ μ (p + 3) i = 16 ∨ μ (p + 3) i = 32) ∧ (μ (p + 4) i = 0 ∨ μ (p + 4) i = 1) ∧ (-12 ≤ μ (p + 5) i ∧ μ (p + 5) i ≤ 12) ∧ (0 ≤ μ (p + 6) i ∧ μ (p + 6) i ≤ 8 * i) ∧ (0 ≤ μ (p + 7) i ∧ μ (p + 7) i ≤ 40 * i)) ∧
  (∀ k, 0 ≤ k → k < 4 → 4 ≤ μ (p + 2) k ∧ μ (p + 2) k ≤ 40) ∧ (1 ≤ μ p 4 ∧ μ p 4 ≤ 12) ∧ (∀ k, 0 ≤ k → k < μ p 4 → 1 ≤ μ (p + 1) k ∧ μ (p + 1) k ≤ 12)
section PIs
variable {μ : Mu} {p q i : Int}
theorem PI.at (h : PI μ p) : p = 20 ∨ p = 31 := h.1
theorem PI.bt (h : PI μ p) : 1 ≤ μ p 1 ∧ μ p 1 ≤ 12 := h.2.1
theorem PI.un (h : PI μ p) : 2 ≤ μ p 2 ∧ μ p 2 ≤ 8 := by rcases h.2.2.1 with e | e | e <;> omega
theorem PI.sz (h : PI μ p) : 0 ≤ μ p 7 ∧ μ p 7 ≤ 64 := h.2.2.2.1
theorem PI.kd (h : PI μ p) (hq : p + 3 = q) (hi : 0 ≤ i ∧ i < μ p 7) : μ q i = 4 ∨ μ q i = 8 ∨ μ q i = 16 ∨ μ q i = 32 := by subst hq; exact (h.2.2.2.2.1 i hi.1 hi.2).1
theorem PI.kr (h : PI μ p) (hq : p + 3 = q) (hi : 0 ≤ i ∧ i < μ p 7) : 4 ≤ μ q i ∧ μ q i ≤ 32 := by rcases h.kd hq hi with e | e | e | e <;> omega
theorem PI.so (h : PI μ p) (hq : p + 4 = q) (hi : 0 ≤ i ∧ i < μ p 7) : 0 ≤ μ q i ∧ μ q i ≤ 1 := by subst hq; rcases (h.2.2.2.2.1 i hi.1 hi.2).2.1 with e | e <;> omega
theorem PI.hd (h : PI μ p) (hq : p + 5 = q) (hi : 0 ≤ i ∧ i < μ p 7) : -12 ≤ μ q i ∧ μ q i ≤ 12 := by subst hq; exact (h.2.2.2.2.1 i hi.1 hi.2).2.2.1
theorem PI.tm (h : PI μ p) (hq : p + 6 = q) (hi : 0 ≤ i ∧ i < μ p 7) : 0 ≤ μ q i ∧ μ q i ≤ 8 * i := by subst hq; exact (h.2.2.2.2.1 i hi.1 hi.2).2.2.2.1
theorem PI.xs (h : PI μ p) (hq : p + 7 = q) (hi : 0 ≤ i ∧ i < μ p 7) : 0 ≤ μ q i ∧ μ q i ≤ 40 * i := by subst hq; exact (h.2.2.2.2.1 i hi.1 hi.2).2.2.2.2
theorem PI.wd (h : PI μ p) (hq : p + 2 = q) (hi : 0 ≤ i ∧ i < 4) : 4 ≤ μ q i ∧ μ q i ≤ 40 := by subst hq; exact h.2.2.2.2.2.1 i hi.1 hi.2
theorem PI.pc (h : PI μ p) : 1 ≤ μ p 4 ∧ μ p 4 ≤ 12 := h.2.2.2.2.2.2.1
theorem PI.pt (h : PI μ p) (hq : p + 1 = q) (hi : 0 ≤ i ∧ i < μ p 4) : 1 ≤ μ q i ∧ μ q i ≤ 12 := by subst hq; exact h.2.2.2.2.2.2.2 i hi.1 hi.2
end PIs
/-- BEAMS of an element -/
def bmz (μ : Mu) (p i : Int) : Int := if μ (p + 4) i = 0 then 0 else bok (μ (p + 3) i)
theorem bmz_r (μ : Mu) (p i : Int) : 0 ≤ bmz μ p i ∧ bmz μ p i ≤ 3 := by
  unfold bmz
  split
  · omega
  · exact bok_r _
/-- how long a measure is -/
def mlg (μ : Mu) (p : Int) : Int := μ p 1 * blg (μ p 2)
theorem mlg_r (μ : Mu) (p : Int) (h : PI μ p) : 4 ≤ mlg μ p ∧ mlg μ p ≤ 192 := by
  have h1 := h.bt
  have h2 := blg_r (μ p 2)
  unfold mlg
  constructor
  · have : 1 * 4 ≤ μ p 1 * blg (μ p 2) := Int.mul_le_mul h1.1 h2.1 (by decide) (by omega)
    omega
  · have : μ p 1 * blg (μ p 2) ≤ 12 * 16 := Int.mul_le_mul h1.2 h2.2 (by omega) (by decide)
    omega
/-- the first place from j on, below sz, of which c doesn't hold; sz -/
def rnN (c : Int → Bool) : Nat → Int → Int
  | 0, j => j
  | n + 1, j => if c j = true then rnN c n (j + 1) else j
def rn (sz : Int) (c : Int → Bool) (j : Int) : Int := rnN c (sz - j).toNat j
theorem rn_go {sz : Int} {c : Int → Bool} {j : Int} (h : j < sz) (hc : c j = true) : rn sz c j = rn sz c (j + 1) := by
  unfold rn
  obtain ⟨m, hm⟩ : ∃ m, (sz - j).toNat = m + 1 := ⟨(sz - j).toNat - 1, by omega⟩
  rw [hm, show (sz - (j + 1)).toNat = m by omega, rnN, if_pos hc]
theorem rn_no {sz : Int} {c : Int → Bool} {j : Int} (hc : ¬ c j = true) : rn sz c j = j := by
  unfold rn
  cases (sz - j).toNat with
  | zero => rfl
  | succ m => rw [rnN, if_neg hc]
theorem rn_end {sz : Int} {c : Int → Bool} {j : Int} (h : sz ≤ j) : rn sz c j = j := by
  unfold rn
  rw [show (sz - j).toNat = 0 by omega]
  rfl
theorem rn_r {sz : Int} {c : Int → Bool} : ∀ (n : Nat) (j : Int), (sz - j).toNat = n → j ≤ rn sz c j ∧ (j ≤ sz → rn sz c j ≤ sz) := by
  intro n
  induction n with
  | zero => intro j h; rw [rn_end (by omega)]; omega
  | succ n ih =>
    intro j h
    by_cases hc : c j = true
    · rw [rn_go (by omega) hc]
      have := ih (j + 1) (by omega)
      omega
    · rw [rn_no hc]
      omega
/-- the part in which a beat lies -/
def pInN (pt : Int → Int) (c b : Int) : Nat → Int → Int → Int
  | 0, k, _ => k
  | n + 1, k, e => if k < c - 1 ∧ e ≤ b then pInN pt c b n (k + 1) (e + pt (k + 1)) else k
def pIn (pt : Int → Int) (c b k e : Int) : Int := pInN pt c b (c - 1 - k).toNat k e
theorem pIn_go {pt : Int → Int} {c b k e : Int} (h : k < c - 1) (h2 : e ≤ b) : pIn pt c b k e = pIn pt c b (k + 1) (e + pt (k + 1)) := by
  unfold pIn
  obtain ⟨m, hm⟩ : ∃ m, (c - 1 - k).toNat = m + 1 := ⟨(c - 1 - k).toNat - 1, by omega⟩
  rw [hm, show (c - 1 - (k + 1)).toNat = m by omega, pInN, if_pos ⟨h, h2⟩]
theorem pIn_no {pt : Int → Int} {c b k e : Int} (h : ¬ (k < c - 1 ∧ e ≤ b)) : pIn pt c b k e = k := by
  unfold pIn
  cases (c - 1 - k).toNat with
  | zero => rfl
  | succ m => rw [pInN, if_neg h]
theorem pIn_r {pt : Int → Int} {c b : Int} : ∀ (n : Nat) (k e : Int), (c - 1 - k).toNat = n → k ≤ pIn pt c b k e ∧ (k ≤ c - 1 → pIn pt c b k e ≤ c - 1) := by
  intro n
  induction n with
  | zero => intro k e h; rw [pIn_no (by omega)]; omega
  | succ n ih =>
    intro k e h
    by_cases hc : k < c - 1 ∧ e ≤ b
    · rw [pIn_go hc.1 hc.2]
      have := ih (k + 1) (e + pt (k + 1)) (by omega)
      omega
    · rw [pIn_no hc]
      omega
/-- time and x of the element that comes next -/
def tnx (μ : Mu) (p : Int) : Int := if μ p 7 = 0 then 0 else μ (p + 6) (μ p 7 - 1) + lok (μ (p + 3) (μ p 7 - 1))
def xnx (μ : Mu) (p : Int) : Int := if μ p 7 = 0 then 0 else μ (p + 7) (μ p 7 - 1) + μ (p + 2) (bok (μ (p + 3) (μ p 7 - 1)))
theorem tnx_r (μ : Mu) (p : Int) (h : PI μ p) : 0 ≤ tnx μ p ∧ tnx μ p ≤ 8 * μ p 7 := by
  have hz := h.sz
  unfold tnx
  split
  · omega
  · have h1 := h.tm (i := μ p 7 - 1) rfl (by omega)
    have h2 := lok_r (μ (p + 3) (μ p 7 - 1))
    omega
theorem xnx_r (μ : Mu) (p : Int) (h : PI μ p) : 0 ≤ xnx μ p ∧ xnx μ p ≤ 40 * μ p 7 := by
  have hz := h.sz
  unfold xnx
  split
  · omega
  · have h1 := h.xs (i := μ p 7 - 1) rfl (by omega)
    have h3 := bok_r (μ (p + 3) (μ p 7 - 1))
    have h2 := h.wd (i := bok (μ (p + 3) (μ p 7 - 1))) rfl (by omega)
    omega
def twn (μ : Mu) (p i : Int) : Int := μ (p + 6) i % mlg μ p
def mof (μ : Mu) (p i : Int) : Int := μ (p + 6) i / mlg μ p
theorem twn_r (μ : Mu) (p i : Int) (h : PI μ p) : 0 ≤ twn μ p i ∧ twn μ p i < mlg μ p ∧ mlg μ p ≤ 192 := by
  have := mlg_r μ p h
  unfold twn
  exact ⟨Int.emod_nonneg _ (by omega), Int.emod_lt_of_pos _ (by omega), this.2⟩
theorem am_div_r {a b : Int} (ha : 0 ≤ a) (hb : 0 < b) : 0 ≤ a / b ∧ a / b ≤ a := ⟨Int.ediv_nonneg ha (by omega), Int.ediv_le_self b ha⟩
theorem mof_r (μ : Mu) (p i : Int) (h : PI μ p) (hi : 0 ≤ i ∧ i < μ p 7) : 0 ≤ mof μ p i ∧ mof μ p i ≤ 512 := by
  have h1 := mlg_r μ p h
  have h2 := h.tm rfl hi
  have h3 := h.sz
  have h4 := am_div_r h2.1 (show 0 < mlg μ p by omega)
  unfold mof
  omega
/-- the part of an element, parts being so long (0: as they are) -/
def pof (μ : Mu) (p i each : Int) : Int := if 0 < each then twn μ p i / blg (μ p 2) / each else pIn (μ (p + 1)) (μ p 4) (twn μ p i / blg (μ p 2)) 0 (μ (p + 1) 0)
theorem pof_r (μ : Mu) (p i each : Int) (h : PI μ p) : 0 ≤ pof μ p i each ∧ pof μ p i each ≤ 192 := by
  have h1 := twn_r μ p i h
  have h2 := blg_r (μ p 2)
  have h3 := am_div_r h1.1 (show 0 < blg (μ p 2) by omega)
  unfold pof
  split
  · have h4 := am_div_r h3.1 (show 0 < each by omega)
    omega
  · have h4 := pIn_r (pt := μ (p + 1)) (c := μ p 4) (b := twn μ p i / blg (μ p 2)) _ 0 (μ (p + 1) 0) rfl
    have h5 := h.pc
    omega
/-- whether an element stands together with i -/
def tog (μ : Mu) (p i each : Int) (j : Int) : Bool := decide (0 < bmz μ p j ∧ mof μ p j = mof μ p i ∧ pof μ p j each = pof μ p i each)
/-- how many elements stand together from i on -/
def runl (μ : Mu) (p i each : Int) : Int := rn (μ p 7) (tog μ p i each) i - i
theorem runl_r (μ : Mu) (p i each : Int) (h : PI μ p) (hi : i ≤ μ p 7) : 0 ≤ runl μ p i each ∧ runl μ p i each ≤ μ p 7 - i := by
  have := rn_r (sz := μ p 7) (c := tog μ p i each) _ i rfl
  unfold runl
  omega
